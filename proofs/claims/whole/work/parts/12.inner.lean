abbrev rm_X2_init : Room := { frames := 2, cells := 1, slots := 16, locals := 80 }
def fn_X2_init (M : QM) (ths : Nat) : Option QM :=
  nA M 20 16 16 fun M7 r7 =>
  pR M7 ths 2 0 r7 fun M9 =>
  some M9
set_option maxRecDepth 100000 in
set_option maxHeartbeats 4000000 in
theorem ct_X2_init (Γ : GT) (l : Launch) (M : QM) (ths : Nat) (ht0 : mt M ths = 2) (M' : QM) (h : fn_X2_init M ths = some M') : CT Γ l yX2_init cX2_init 1 none rm_X2_init (.ref ths :: []) M none M' := by
  refine ct_intro (own := RX2) (L := [(0, .ref ths)]) (by decide +kernel) rfl (Nat.le_of_ble_eq_true rfl) rfl ?_
  intro p e s m args below meth c Q hQ cx hnm
  unfold fn_X2_init at h
  refine q_aload_n cx (pc' := 1) 0 rfl dX2_init_0 rfl ?_
  refine q_objInit cx (pc' := 4) aw_0 ⟨aw_1, aw_2⟩ ⟨(Nat.le_of_ble_eq_true rfl), (Nat.le_of_ble_eq_true rfl)⟩ (Nat.le_of_ble_eq_true rfl) dX2_init_1 rfl ?_
  refine q_aload_n cx (pc' := 5) 0 rfl dX2_init_4 rfl ?_
  refine q_bipush cx (pc' := 7) kb_16 dX2_init_5 rfl ?_
  obtain ⟨hn7, hb7, M7, r7, eM7, er7, h⟩ := nA_i h
  refine q_newI cx (pc' := 9) aw_3 hn7 rfl (by omega) (Nat.le_of_ble_eq_true rfl) (Nat.le_trans (Nat.add_le_add_left hb7 _) (Nat.le_of_ble_eq_true rfl)) eM7 dX2_init_7 rfl ?_
  refine q_widen (k2 := 1) (s2 := 16) (Nat.le_refl _) (Nat.add_le_add_left hb7 _) ?_
  rw [← er7]
  obtain ⟨ht9, M9, eM9, h⟩ := pR_i h
  refine q_pR cx (pc' := 12) 2 0 fl_X2_9 rfl ht9 (ty := (.array .int)) ⟨(RX2, TX2, 2), rfl, by decide +kernel, Or.inr ⟨hnm, rfl, aw_4⟩⟩ rfl rfl eM9 dX2_init_9 rfl ?_
  obtain rfl := o1_i h
  refine q_widen (k2 := 1) (s2 := 16) (by omega) (by omega) ?_
  rw [hQ]
  exact q_vret cx dX2_init_12

abbrev rm_X4_init : Room := { frames := 2, cells := 3, slots := 48, locals := 80 }
def fn_X4_init (M : QM) (ths : Nat) (p1 : Int32) : Option QM :=
  pI M ths 4 0 p1 fun M6 =>
  nA M6 20 p1 16 fun M11 r11 =>
  pR M11 ths 4 1 r11 fun M13 =>
  nA M13 20 p1 16 fun M18 r18 =>
  pR M18 ths 4 2 r18 fun M20 =>
  nA M20 20 p1 16 fun M25 r25 =>
  pR M25 ths 4 3 r25 fun M27 =>
  some M27
set_option maxRecDepth 100000 in
set_option maxHeartbeats 4000000 in
theorem ct_X4_init (Γ : GT) (l : Launch) (M : QM) (ths : Nat) (p1 : Int32) (ht0 : mt M ths = 4) (M' : QM) (h : fn_X4_init M ths p1 = some M') : CT Γ l yX4_init cX4_init 2 none rm_X4_init (.ref ths :: [.int p1]) M none M' := by
  refine ct_intro (own := RX4) (L := [(0, .ref ths), (1, .int p1)]) (by decide +kernel) rfl (Nat.le_of_ble_eq_true rfl) rfl ?_
  intro p e s m args below meth c Q hQ cx hnm
  unfold fn_X4_init at h
  refine q_aload_n cx (pc' := 1) 0 rfl dX4_init_0 rfl ?_
  refine q_objInit cx (pc' := 4) aw_5 ⟨aw_1, aw_2⟩ ⟨(Nat.le_of_ble_eq_true rfl), (Nat.le_of_ble_eq_true rfl)⟩ (Nat.le_of_ble_eq_true rfl) dX4_init_1 rfl ?_
  refine q_aload_n cx (pc' := 5) 0 rfl dX4_init_4 rfl ?_
  refine q_iload_n cx (pc' := 6) 1 rfl dX4_init_5 rfl ?_
  obtain ⟨ht6, M6, eM6, h⟩ := pI_i h
  refine q_pI cx (pc' := 9) 4 0 fl_X4_9 rfl ht6 (ty := .int) ⟨(RX4, TX4, 5), rfl, by decide +kernel, Or.inr ⟨hnm, rfl, aw_6⟩⟩ rfl rfl eM6 dX4_init_6 rfl ?_
  refine q_aload_n cx (pc' := 10) 0 rfl dX4_init_9 rfl ?_
  refine q_iload_n cx (pc' := 11) 1 rfl dX4_init_10 rfl ?_
  obtain ⟨hn11, hb11, M11, r11, eM11, er11, h⟩ := nA_i h
  refine q_newI cx (pc' := 13) aw_3 hn11 rfl (by omega) (Nat.le_of_ble_eq_true rfl) (Nat.le_trans (Nat.add_le_add_left hb11 _) (Nat.le_of_ble_eq_true rfl)) eM11 dX4_init_11 rfl ?_
  refine q_widen (k2 := 1) (s2 := 16) (Nat.le_refl _) (Nat.add_le_add_left hb11 _) ?_
  rw [← er11]
  obtain ⟨ht13, M13, eM13, h⟩ := pR_i h
  refine q_pR cx (pc' := 16) 4 1 fl_X4_15 rfl ht13 (ty := (.array .int)) ⟨(RX4, TX4, 5), rfl, by decide +kernel, Or.inr ⟨hnm, rfl, aw_7⟩⟩ rfl rfl eM13 dX4_init_13 rfl ?_
  refine q_aload_n cx (pc' := 17) 0 rfl dX4_init_16 rfl ?_
  refine q_iload_n cx (pc' := 18) 1 rfl dX4_init_17 rfl ?_
  obtain ⟨hn18, hb18, M18, r18, eM18, er18, h⟩ := nA_i h
  refine q_newI cx (pc' := 20) aw_3 hn18 rfl (by omega) (Nat.le_of_ble_eq_true rfl) (Nat.le_trans (Nat.add_le_add_left hb18 _) (Nat.le_of_ble_eq_true rfl)) eM18 dX4_init_18 rfl ?_
  refine q_widen (k2 := 2) (s2 := 32) (Nat.le_refl _) (Nat.add_le_add_left hb18 _) ?_
  rw [← er18]
  obtain ⟨ht20, M20, eM20, h⟩ := pR_i h
  refine q_pR cx (pc' := 23) 4 2 fl_X4_19 rfl ht20 (ty := (.array .int)) ⟨(RX4, TX4, 5), rfl, by decide +kernel, Or.inr ⟨hnm, rfl, aw_8⟩⟩ rfl rfl eM20 dX4_init_20 rfl ?_
  refine q_aload_n cx (pc' := 24) 0 rfl dX4_init_23 rfl ?_
  refine q_iload_n cx (pc' := 25) 1 rfl dX4_init_24 rfl ?_
  obtain ⟨hn25, hb25, M25, r25, eM25, er25, h⟩ := nA_i h
  refine q_newI cx (pc' := 27) aw_3 hn25 rfl (by omega) (Nat.le_of_ble_eq_true rfl) (Nat.le_trans (Nat.add_le_add_left hb25 _) (Nat.le_of_ble_eq_true rfl)) eM25 dX4_init_25 rfl ?_
  refine q_widen (k2 := 3) (s2 := 48) (Nat.le_refl _) (Nat.add_le_add_left hb25 _) ?_
  rw [← er25]
  obtain ⟨ht27, M27, eM27, h⟩ := pR_i h
  refine q_pR cx (pc' := 30) 4 3 fl_X4_22 rfl ht27 (ty := (.array .int)) ⟨(RX4, TX4, 5), rfl, by decide +kernel, Or.inr ⟨hnm, rfl, aw_9⟩⟩ rfl rfl eM27 dX4_init_27 rfl ?_
  obtain rfl := o1_i h
  refine q_widen (k2 := 3) (s2 := 48) (by omega) (by omega) ?_
  rw [hQ]
  exact q_vret cx dX4_init_30

abbrev rm_X7_init : Room := { frames := 2, cells := 1, slots := 4, locals := 80 }
def fn_X7_init (M : QM) (ths : Nat) : Option QM :=
  nA M 20 4 4 fun M6 r6 =>
  pR M6 ths 7 3 r6 fun M8 =>
  some M8
set_option maxRecDepth 100000 in
set_option maxHeartbeats 4000000 in
theorem ct_X7_init (Γ : GT) (l : Launch) (M : QM) (ths : Nat) (ht0 : mt M ths = 7) (M' : QM) (h : fn_X7_init M ths = some M') : CT Γ l yX7_init cX7_init 1 none rm_X7_init (.ref ths :: []) M none M' := by
  refine ct_intro (own := RX7) (L := [(0, .ref ths)]) (by decide +kernel) rfl (Nat.le_of_ble_eq_true rfl) rfl ?_
  intro p e s m args below meth c Q hQ cx hnm
  unfold fn_X7_init at h
  refine q_aload_n cx (pc' := 1) 0 rfl dX7_init_0 rfl ?_
  refine q_objInit cx (pc' := 4) aw_10 ⟨aw_1, aw_2⟩ ⟨(Nat.le_of_ble_eq_true rfl), (Nat.le_of_ble_eq_true rfl)⟩ (Nat.le_of_ble_eq_true rfl) dX7_init_1 rfl ?_
  refine q_aload_n cx (pc' := 5) 0 rfl dX7_init_4 rfl ?_
  refine q_iconst cx (pc' := 6) ki_4 dX7_init_5 rfl ?_
  obtain ⟨hn6, hb6, M6, r6, eM6, er6, h⟩ := nA_i h
  refine q_newI cx (pc' := 8) aw_3 hn6 rfl (by omega) (Nat.le_of_ble_eq_true rfl) (Nat.le_trans (Nat.add_le_add_left hb6 _) (Nat.le_of_ble_eq_true rfl)) eM6 dX7_init_6 rfl ?_
  refine q_widen (k2 := 1) (s2 := 4) (Nat.le_refl _) (Nat.add_le_add_left hb6 _) ?_
  rw [← er6]
  obtain ⟨ht8, M8, eM8, h⟩ := pR_i h
  refine q_pR cx (pc' := 11) 7 3 fl_X7_9 rfl ht8 (ty := (.array .int)) ⟨(RX7, TX7, 4), rfl, by decide +kernel, Or.inr ⟨hnm, rfl, aw_11⟩⟩ rfl rfl eM8 dX7_init_8 rfl ?_
  obtain rfl := o1_i h
  refine q_widen (k2 := 1) (s2 := 4) (by omega) (by omega) ?_
  rw [hQ]
  exact q_vret cx dX7_init_11

abbrev rm_X5_init : Room := { frames := 3, cells := 4111, slots := 16566, locals := 101 }
def lp_X5_init_63 (ths : Nat) (w1_63 : Int32) (Mw_63 : QM) : Option ((Int32 × QM) ⊕ (QM)) :=
  if 5 ≤ w1_63 then
    some (.inr Mw_63)
  else
    gR Mw_63 ths 5 1 fun r69 =>
    nO Mw_63 7 fun M73 r73 =>
    ck M73 r73 7 <|
    bnd (fn_X7_init M73 r73) fun M77 =>
    wR M77 26 r69 w1_63 7 r73 fun M80 =>
    nm (w1_63 + 1) fun v1_81 =>
    some (.inl (v1_81, M80))
def fn_X5_init (M : QM) (ths : Nat) : Option QM :=
  nO M 2 fun M5 r5 =>
  ck M5 r5 2 <|
  bnd (fn_X2_init M5 r5) fun M9 =>
  pR M9 ths 5 0 r5 fun M12 =>
  nA M12 26 5 5 fun M17 r17 =>
  pR M17 ths 5 1 r17 fun M20 =>
  nO M20 4 fun M24 r24 =>
  ck M24 r24 4 <|
  bnd (fn_X4_init M24 r24 5) fun M29 =>
  pR M29 ths 5 4 r24 fun M32 =>
  nO M32 4 fun M36 r36 =>
  ck M36 r36 4 <|
  bnd (fn_X4_init M36 r36 10) fun M42 =>
  pR M42 ths 5 5 r36 fun M45 =>
  nO M45 4 fun M49 r49 =>
  ck M49 r49 4 <|
  bnd (fn_X4_init M49 r49 8) fun M55 =>
  pR M55 ths 5 6 r49 fun M58 =>
  bnd (itr (fun s63 : Int32 × QM => lp_X5_init_63 ths s63.1 s63.2) FU (0, M58)) fun Mr_63 =>
  some Mr_63
set_option maxRecDepth 100000 in
set_option maxHeartbeats 4000000 in
theorem ct_X5_init (Γ : GT) (l : Launch) (M : QM) (ths : Nat) (ht0 : mt M ths = 5) (M' : QM) (h : fn_X5_init M ths = some M') : CT Γ l yX5_init cX5_init 2 none rm_X5_init (.ref ths :: []) M none M' := by
  refine ct_intro (own := RX5) (L := [(0, .ref ths)]) (by decide +kernel) rfl (Nat.le_of_ble_eq_true rfl) rfl ?_
  intro p e s m args below meth c Q hQ cx hnm
  unfold fn_X5_init at h
  refine q_aload_n cx (pc' := 1) 0 rfl dX5_init_0 rfl ?_
  refine q_objInit cx (pc' := 4) aw_12 ⟨aw_1, aw_2⟩ ⟨(Nat.le_of_ble_eq_true rfl), (Nat.le_of_ble_eq_true rfl)⟩ (Nat.le_of_ble_eq_true rfl) dX5_init_1 rfl ?_
  refine q_aload_n cx (pc' := 5) 0 rfl dX5_init_4 rfl ?_
  obtain ⟨M5, r5, eM5, er5, h⟩ := nO_i h
  refine q_new cx (pc' := 8) 2 (by decide) (r := (RX2, TX2, 2)) rfl rfl aw_13 aw_14 aw_15 (Nat.le_of_ble_eq_true rfl) (Nat.le_of_ble_eq_true rfl) eM5 dX5_init_5 rfl ?_
  rw [← er5]
  refine q_dup cx (pc' := 9) rfl dX5_init_8 rfl ?_
  obtain ⟨hk9, h⟩ := ck_i h
  obtain ⟨M9, hc9, h⟩ := bnd_i h
  refine q_callI cx (pc' := 12) (S := [.ref r5, .ref ths]) (kc' := 2) (ks' := 18) (ct_X2_init Γ l M5 r5 hk9 _ hc9) lki_X2_init lkv_X2_init lkc_X5_11 rfl (Nat.le_of_ble_eq_true rfl) ⟨(Nat.le_of_ble_eq_true rfl), (Nat.le_of_ble_eq_true rfl)⟩ ⟨(Nat.le_of_ble_eq_true rfl), (Nat.le_of_ble_eq_true rfl)⟩ dX5_init_9 rfl rfl rfl ?_
  obtain ⟨ht12, M12, eM12, h⟩ := pR_i h
  refine q_pR cx (pc' := 15) 5 0 fl_X5_12 rfl ht12 (ty := (.object "BearMouse$Cup")) ⟨(RX5, TX5, 8), rfl, by decide +kernel, Or.inr ⟨hnm, rfl, aw_16⟩⟩ rfl rfl eM12 dX5_init_12 rfl ?_
  refine q_aload_n cx (pc' := 16) 0 rfl dX5_init_15 rfl ?_
  refine q_iconst cx (pc' := 17) ki_5 dX5_init_16 rfl ?_
  obtain ⟨hn17, hb17, M17, r17, eM17, er17, h⟩ := nA_i h
  refine q_newW cx (pc' := 20) aw_17 hn17 rfl (by omega) (Nat.le_of_ble_eq_true rfl) (Nat.le_trans (Nat.add_le_add_left hb17 _) (Nat.le_of_ble_eq_true rfl)) eM17 dX5_init_17 rfl ?_
  refine q_widen (k2 := 3) (s2 := 23) (Nat.le_refl _) (Nat.add_le_add_left hb17 _) ?_
  rw [← er17]
  obtain ⟨ht20, M20, eM20, h⟩ := pR_i h
  refine q_pR cx (pc' := 23) 5 1 fl_X5_20 rfl ht20 (ty := (.array (.object "BearMouse$Walker"))) ⟨(RX5, TX5, 8), rfl, by decide +kernel, Or.inr ⟨hnm, rfl, aw_18⟩⟩ rfl rfl eM20 dX5_init_20 rfl ?_
  refine q_aload_n cx (pc' := 24) 0 rfl dX5_init_23 rfl ?_
  obtain ⟨M24, r24, eM24, er24, h⟩ := nO_i h
  refine q_new cx (pc' := 27) 4 (by decide) (r := (RX4, TX4, 5)) rfl rfl aw_19 aw_20 aw_21 (Nat.le_of_ble_eq_true rfl) (Nat.le_of_ble_eq_true rfl) eM24 dX5_init_24 rfl ?_
  rw [← er24]
  refine q_dup cx (pc' := 28) rfl dX5_init_27 rfl ?_
  refine q_iconst cx (pc' := 29) ki_5 dX5_init_28 rfl ?_
  obtain ⟨hk29, h⟩ := ck_i h
  obtain ⟨M29, hc29, h⟩ := bnd_i h
  refine q_callI cx (pc' := 32) (S := [.ref r24, .ref ths]) (kc' := 7) (ks' := 76) (ct_X4_init Γ l M24 r24 5 hk29 _ hc29) lki_X4_init lkv_X4_init lkc_X5_26 rfl (Nat.le_of_ble_eq_true rfl) ⟨(Nat.le_of_ble_eq_true rfl), (Nat.le_of_ble_eq_true rfl)⟩ ⟨(Nat.le_of_ble_eq_true rfl), (Nat.le_of_ble_eq_true rfl)⟩ dX5_init_29 rfl rfl rfl ?_
  obtain ⟨ht32, M32, eM32, h⟩ := pR_i h
  refine q_pR cx (pc' := 35) 5 4 fl_X5_29 rfl ht32 (ty := (.object "BearMouse$Rows")) ⟨(RX5, TX5, 8), rfl, by decide +kernel, Or.inr ⟨hnm, rfl, aw_22⟩⟩ rfl rfl eM32 dX5_init_32 rfl ?_
  refine q_aload_n cx (pc' := 36) 0 rfl dX5_init_35 rfl ?_
  obtain ⟨M36, r36, eM36, er36, h⟩ := nO_i h
  refine q_new cx (pc' := 39) 4 (by decide) (r := (RX4, TX4, 5)) rfl rfl aw_19 aw_20 aw_21 (Nat.le_of_ble_eq_true rfl) (Nat.le_of_ble_eq_true rfl) eM36 dX5_init_36 rfl ?_
  rw [← er36]
  refine q_dup cx (pc' := 40) rfl dX5_init_39 rfl ?_
  refine q_bipush cx (pc' := 42) kb_10 dX5_init_40 rfl ?_
  obtain ⟨hk42, h⟩ := ck_i h
  obtain ⟨M42, hc42, h⟩ := bnd_i h
  refine q_callI cx (pc' := 45) (S := [.ref r36, .ref ths]) (kc' := 11) (ks' := 129) (ct_X4_init Γ l M36 r36 10 hk42 _ hc42) lki_X4_init lkv_X4_init lkc_X5_26 rfl (Nat.le_of_ble_eq_true rfl) ⟨(Nat.le_of_ble_eq_true rfl), (Nat.le_of_ble_eq_true rfl)⟩ ⟨(Nat.le_of_ble_eq_true rfl), (Nat.le_of_ble_eq_true rfl)⟩ dX5_init_42 rfl rfl rfl ?_
  obtain ⟨ht45, M45, eM45, h⟩ := pR_i h
  refine q_pR cx (pc' := 48) 5 5 fl_X5_33 rfl ht45 (ty := (.object "BearMouse$Rows")) ⟨(RX5, TX5, 8), rfl, by decide +kernel, Or.inr ⟨hnm, rfl, aw_23⟩⟩ rfl rfl eM45 dX5_init_45 rfl ?_
  refine q_aload_n cx (pc' := 49) 0 rfl dX5_init_48 rfl ?_
  obtain ⟨M49, r49, eM49, er49, h⟩ := nO_i h
  refine q_new cx (pc' := 52) 4 (by decide) (r := (RX4, TX4, 5)) rfl rfl aw_19 aw_20 aw_21 (Nat.le_of_ble_eq_true rfl) (Nat.le_of_ble_eq_true rfl) eM49 dX5_init_49 rfl ?_
  rw [← er49]
  refine q_dup cx (pc' := 53) rfl dX5_init_52 rfl ?_
  refine q_bipush cx (pc' := 55) kb_8 dX5_init_53 rfl ?_
  obtain ⟨hk55, h⟩ := ck_i h
  obtain ⟨M55, hc55, h⟩ := bnd_i h
  refine q_callI cx (pc' := 58) (S := [.ref r49, .ref ths]) (kc' := 15) (ks' := 182) (ct_X4_init Γ l M49 r49 8 hk55 _ hc55) lki_X4_init lkv_X4_init lkc_X5_26 rfl (Nat.le_of_ble_eq_true rfl) ⟨(Nat.le_of_ble_eq_true rfl), (Nat.le_of_ble_eq_true rfl)⟩ ⟨(Nat.le_of_ble_eq_true rfl), (Nat.le_of_ble_eq_true rfl)⟩ dX5_init_55 rfl rfl rfl ?_
  obtain ⟨ht58, M58, eM58, h⟩ := pR_i h
  refine q_pR cx (pc' := 61) 5 6 fl_X5_36 rfl ht58 (ty := (.object "BearMouse$Rows")) ⟨(RX5, TX5, 8), rfl, by decide +kernel, Or.inr ⟨hnm, rfl, aw_24⟩⟩ rfl rfl eM58 dX5_init_58 rfl ?_
  refine q_iconst cx (pc' := 62) ki_0 dX5_init_61 rfl ?_
  refine q_istore_n cx (pc' := 63) rfl rfl (by decide) (L' := [(1, .int 0), (0, .ref ths)]) rfl dX5_init_62 rfl ?_
  obtain ⟨r63, hL63, h⟩ := bnd_i h
  have hk63_r : ∀ (Mr_63 : QM), Mr_63 = r63 → some Mr_63 = some M' := by
    intro Mr_63 hp
    subst hp
    exact h
  have key63 : ∀ (n kq63 sq63 : Nat) (w1_63 : Int32) (Mw_63 : QM), kq63 + 2 * n ≤ 4111 → sq63 + 8 * n ≤ 16566 → itr (fun s63 : Int32 × QM => lp_X5_init_63 ths s63.1 s63.2) n (w1_63, Mw_63) = some r63 → EE p l e rm_X5_init s m args below meth c Q Γ 2 kq63 sq63 63 [(0, .ref ths), (1, .int w1_63)] [] Mw_63 := by
    intro n
    induction n with
    | zero => intro _ _ _ _ _ _ h; exact (itr_0 h).elim
    | succ n ih =>
      intro kq63 sq63 w1_63 Mw_63 hkq63 hsq63 h
      obtain ⟨z63, h, hz63⟩ := itr_i h
      replace h : lp_X5_init_63 ths w1_63 Mw_63 = some z63 := h
      unfold lp_X5_init_63 at h
      refine q_iload_n cx (pc' := 64) 1 rfl dX5_init_63 rfl ?_
      refine q_iconst cx (pc' := 65) ki_5 dX5_init_64 rfl ?_
      refine q_icmp_ge cx (pc' := 68) (tgt := 87) dX5_init_65 (by decide) rfl (fun c65 => ?_) (fun c65 => ?_)
      · replace h := ip c65 h
        replace h := hk63_r _ (hz63.2 _ h)
        obtain rfl := o1_i h
        refine q_widen (k2 := 4111) (s2 := 16566) (by omega) (by omega) ?_
        rw [hQ]
        exact q_vret cx dX5_init_87
      · replace h := ine c65 h
        refine q_aload_n cx (pc' := 69) 0 rfl dX5_init_68 rfl ?_
        obtain ⟨ht69, r69, ex69, h⟩ := gR_i h
        refine q_gR cx (pc' := 72) 5 1 fl_X5_20 rfl ht69 ex69 dX5_init_69 rfl ?_
        refine q_iload_n cx (pc' := 73) 1 rfl dX5_init_72 rfl ?_
        obtain ⟨M73, r73, eM73, er73, h⟩ := nO_i h
        refine q_new cx (pc' := 76) 7 (by decide) (r := (RX7, TX7, 4)) rfl rfl aw_25 aw_26 aw_27 (by show kq63 + 1 ≤ 4111; omega) (by show sq63 + 4 ≤ 16566; omega) eM73 dX5_init_73 rfl ?_
        rw [← er73]
        refine q_dup cx (pc' := 77) rfl dX5_init_76 rfl ?_
        obtain ⟨hk77, h⟩ := ck_i h
        obtain ⟨M77, hc77, h⟩ := bnd_i h
        refine q_callI cx (pc' := 80) (S := [.ref r73, .int w1_63, .ref r69]) (kc' := kq63 + 1 + 1) (ks' := sq63 + 4 + 4) (ct_X7_init Γ l M73 r73 hk77 _ hc77) lki_X7_init lkv_X7_init lkc_X5_39 rfl (Nat.le_of_ble_eq_true rfl) ⟨(Nat.le_of_ble_eq_true rfl), (Nat.le_of_ble_eq_true rfl)⟩ ⟨(by show kq63 + 1 + 1 ≤ 4111; omega), (by show sq63 + 4 + 4 ≤ 16566; omega)⟩ dX5_init_77 rfl rfl rfl ?_
        obtain ⟨ht80, hi80, hb80, M80, eM80, h⟩ := wR_i h
        refine q_aast6 cx (pc' := 81) ht80 hi80 hb80 eM80 dX5_init_80 rfl ?_
        obtain ⟨v1_81, ev1_81, h⟩ := nm_i h
        refine q_iinc cx (pc' := 84) 1 rfl ki_1 ev1_81 (by decide) (L' := [(1, .int v1_81), (0, .ref ths)]) rfl dX5_init_81 rfl ?_
        refine q_goto cx dX5_init_84 (tgt := 63) (by decide) ?_
        refine q_sub cx [1, 0] rfl ?_
        exact ih _ _ _ _ (by omega) (by omega) (hz63.1 _ h)
  refine q_sub cx [1, 0] rfl ?_
  exact key63 FU _ _ _ _ (by show _ + _ * 2048 ≤ _; omega) (by show _ + _ * 2048 ≤ _; omega) hL63

abbrev rm_X3_init : Room := { frames := 2, cells := 2, slots := 116, locals := 80 }
def fn_X3_init (M : QM) (ths : Nat) : Option QM :=
  nA M 22 100 100 fun M7 r7 =>
  pR M7 ths 3 0 r7 fun M9 =>
  nA M9 20 16 16 fun M15 r15 =>
  pR M15 ths 3 6 r15 fun M17 =>
  some M17
set_option maxRecDepth 100000 in
set_option maxHeartbeats 4000000 in
theorem ct_X3_init (Γ : GT) (l : Launch) (M : QM) (ths : Nat) (ht0 : mt M ths = 3) (M' : QM) (h : fn_X3_init M ths = some M') : CT Γ l yX3_init cX3_init 1 none rm_X3_init (.ref ths :: []) M none M' := by
  refine ct_intro (own := RX3) (L := [(0, .ref ths)]) (by decide +kernel) rfl (Nat.le_of_ble_eq_true rfl) rfl ?_
  intro p e s m args below meth c Q hQ cx hnm
  unfold fn_X3_init at h
  refine q_aload_n cx (pc' := 1) 0 rfl dX3_init_0 rfl ?_
  refine q_objInit cx (pc' := 4) aw_28 ⟨aw_1, aw_2⟩ ⟨(Nat.le_of_ble_eq_true rfl), (Nat.le_of_ble_eq_true rfl)⟩ (Nat.le_of_ble_eq_true rfl) dX3_init_1 rfl ?_
  refine q_aload_n cx (pc' := 5) 0 rfl dX3_init_4 rfl ?_
  refine q_bipush cx (pc' := 7) kb_100 dX3_init_5 rfl ?_
  obtain ⟨hn7, hb7, M7, r7, eM7, er7, h⟩ := nA_i h
  refine q_newC cx (pc' := 9) aw_29 hn7 rfl (by omega) (Nat.le_of_ble_eq_true rfl) (Nat.le_trans (Nat.add_le_add_left hb7 _) (Nat.le_of_ble_eq_true rfl)) eM7 dX3_init_7 rfl ?_
  refine q_widen (k2 := 1) (s2 := 100) (Nat.le_refl _) (Nat.add_le_add_left hb7 _) ?_
  rw [← er7]
  obtain ⟨ht9, M9, eM9, h⟩ := pR_i h
  refine q_pR cx (pc' := 12) 3 0 fl_X3_11 rfl ht9 (ty := (.array .char)) ⟨(RX3, TX3, 9), rfl, by decide +kernel, Or.inr ⟨hnm, rfl, aw_30⟩⟩ rfl rfl eM9 dX3_init_9 rfl ?_
  refine q_aload_n cx (pc' := 13) 0 rfl dX3_init_12 rfl ?_
  refine q_bipush cx (pc' := 15) kb_16 dX3_init_13 rfl ?_
  obtain ⟨hn15, hb15, M15, r15, eM15, er15, h⟩ := nA_i h
  refine q_newI cx (pc' := 17) aw_3 hn15 rfl (by omega) (Nat.le_of_ble_eq_true rfl) (Nat.le_trans (Nat.add_le_add_left hb15 _) (Nat.le_of_ble_eq_true rfl)) eM15 dX3_init_15 rfl ?_
  refine q_widen (k2 := 2) (s2 := 116) (Nat.le_refl _) (Nat.add_le_add_left hb15 _) ?_
  rw [← er15]
  obtain ⟨ht17, M17, eM17, h⟩ := pR_i h
  refine q_pR cx (pc' := 20) 3 6 fl_X3_15 rfl ht17 (ty := (.array .int)) ⟨(RX3, TX3, 9), rfl, by decide +kernel, Or.inr ⟨hnm, rfl, aw_31⟩⟩ rfl rfl eM17 dX3_init_17 rfl ?_
  obtain rfl := o1_i h
  refine q_widen (k2 := 2) (s2 := 116) (by omega) (by omega) ?_
  rw [hQ]
  exact q_vret cx dX3_init_20

abbrev rm_X0_init : Room := { frames := 2, cells := 1, slots := 20, locals := 80 }
def fn_X0_init (M : QM) (ths : Nat) : Option QM :=
  nA M 20 20 20 fun M7 r7 =>
  pR M7 ths 0 0 r7 fun M9 =>
  some M9
set_option maxRecDepth 100000 in
set_option maxHeartbeats 4000000 in
theorem ct_X0_init (Γ : GT) (l : Launch) (M : QM) (ths : Nat) (ht0 : mt M ths = 0) (M' : QM) (h : fn_X0_init M ths = some M') : CT Γ l yX0_init cX0_init 1 none rm_X0_init (.ref ths :: []) M none M' := by
  refine ct_intro (own := RX0) (L := [(0, .ref ths)]) (by decide +kernel) rfl (Nat.le_of_ble_eq_true rfl) rfl ?_
  intro p e s m args below meth c Q hQ cx hnm
  unfold fn_X0_init at h
  refine q_aload_n cx (pc' := 1) 0 rfl dX0_init_0 rfl ?_
  refine q_objInit cx (pc' := 4) aw_32 ⟨aw_1, aw_2⟩ ⟨(Nat.le_of_ble_eq_true rfl), (Nat.le_of_ble_eq_true rfl)⟩ (Nat.le_of_ble_eq_true rfl) dX0_init_1 rfl ?_
  refine q_aload_n cx (pc' := 5) 0 rfl dX0_init_4 rfl ?_
  refine q_bipush cx (pc' := 7) kb_20 dX0_init_5 rfl ?_
  obtain ⟨hn7, hb7, M7, r7, eM7, er7, h⟩ := nA_i h
  refine q_newI cx (pc' := 9) aw_3 hn7 rfl (by omega) (Nat.le_of_ble_eq_true rfl) (Nat.le_trans (Nat.add_le_add_left hb7 _) (Nat.le_of_ble_eq_true rfl)) eM7 dX0_init_7 rfl ?_
  refine q_widen (k2 := 1) (s2 := 20) (Nat.le_refl _) (Nat.add_le_add_left hb7 _) ?_
  rw [← er7]
  obtain ⟨ht9, M9, eM9, h⟩ := pR_i h
  refine q_pR cx (pc' := 12) 0 0 fl_X0_11 rfl ht9 (ty := (.array .int)) ⟨(RX0, TX0, 5), rfl, by decide +kernel, Or.inr ⟨hnm, rfl, aw_33⟩⟩ rfl rfl eM9 dX0_init_9 rfl ?_
  obtain rfl := o1_i h
  refine q_widen (k2 := 1) (s2 := 20) (by omega) (by omega) ?_
  rw [hQ]
  exact q_vret cx dX0_init_12

abbrev rm_X1_init : Room := { frames := 2, cells := 1, slots := 1600, locals := 80 }
def lp_X1_init_25 (ths : Nat) (w3_25 : Int32) (Mw_25 : QM) : Option ((Int32 × QM) ⊕ (QM)) :=
  gR Mw_25 ths 1 0 fun r27 =>
  aL Mw_25 20 r27 fun x30 =>
  if x30 ≤ w3_25 then
    some (.inr Mw_25)
  else
    gR Mw_25 ths 1 0 fun r35 =>
    wI Mw_25 20 r35 w3_25 2 fun M40 =>
    nm (w3_25 + 1) fun v3_41 =>
    some (.inl (v3_41, M40))
def fn_X1_init (M : QM) (ths : Nat) (p1 : Int32) (p2 : Int32) : Option QM :=
  nA M 20 1600 1600 fun M8 r8 =>
  pR M8 ths 1 0 r8 fun M10 =>
  pI M10 ths 1 1 p1 fun M15 =>
  pI M15 ths 1 2 p2 fun M20 =>
  bnd (itr (fun s25 : Int32 × QM => lp_X1_init_25 ths s25.1 s25.2) FU (0, M20)) fun Mr_25 =>
  some Mr_25
set_option maxRecDepth 100000 in
set_option maxHeartbeats 4000000 in
theorem ct_X1_init (Γ : GT) (l : Launch) (M : QM) (ths : Nat) (p1 : Int32) (p2 : Int32) (ht0 : mt M ths = 1) (M' : QM) (h : fn_X1_init M ths p1 p2 = some M') : CT Γ l yX1_init cX1_init 4 none rm_X1_init (.ref ths :: [.int p1, .int p2]) M none M' := by
  refine ct_intro (own := RX1) (L := [(0, .ref ths), (1, .int p1), (2, .int p2)]) (by decide +kernel) rfl (Nat.le_of_ble_eq_true rfl) rfl ?_
  intro p e s m args below meth c Q hQ cx hnm
  unfold fn_X1_init at h
  refine q_aload_n cx (pc' := 1) 0 rfl dX1_init_0 rfl ?_
  refine q_objInit cx (pc' := 4) aw_34 ⟨aw_1, aw_2⟩ ⟨(Nat.le_of_ble_eq_true rfl), (Nat.le_of_ble_eq_true rfl)⟩ (Nat.le_of_ble_eq_true rfl) dX1_init_1 rfl ?_
  refine q_aload_n cx (pc' := 5) 0 rfl dX1_init_4 rfl ?_
  refine q_sipush cx (pc' := 8) ks_1600 dX1_init_5 rfl ?_
  obtain ⟨hn8, hb8, M8, r8, eM8, er8, h⟩ := nA_i h
  refine q_newI cx (pc' := 10) aw_3 hn8 rfl (by omega) (Nat.le_of_ble_eq_true rfl) (Nat.le_trans (Nat.add_le_add_left hb8 _) (Nat.le_of_ble_eq_true rfl)) eM8 dX1_init_8 rfl ?_
  refine q_widen (k2 := 1) (s2 := 1600) (Nat.le_refl _) (Nat.add_le_add_left hb8 _) ?_
  rw [← er8]
  obtain ⟨ht10, M10, eM10, h⟩ := pR_i h
  refine q_pR cx (pc' := 13) 1 0 fl_X1_9 rfl ht10 (ty := (.array .int)) ⟨(RX1, TX1, 3), rfl, by decide +kernel, Or.inr ⟨hnm, rfl, aw_35⟩⟩ rfl rfl eM10 dX1_init_10 rfl ?_
  refine q_aload_n cx (pc' := 14) 0 rfl dX1_init_13 rfl ?_
  refine q_iload_n cx (pc' := 15) 1 rfl dX1_init_14 rfl ?_
  obtain ⟨ht15, M15, eM15, h⟩ := pI_i h
  refine q_pI cx (pc' := 18) 1 1 fl_X1_15 rfl ht15 (ty := .int) ⟨(RX1, TX1, 3), rfl, by decide +kernel, Or.inr ⟨hnm, rfl, aw_36⟩⟩ rfl rfl eM15 dX1_init_15 rfl ?_
  refine q_aload_n cx (pc' := 19) 0 rfl dX1_init_18 rfl ?_
  refine q_iload_n cx (pc' := 20) 2 rfl dX1_init_19 rfl ?_
  obtain ⟨ht20, M20, eM20, h⟩ := pI_i h
  refine q_pI cx (pc' := 23) 1 2 fl_X1_19 rfl ht20 (ty := .int) ⟨(RX1, TX1, 3), rfl, by decide +kernel, Or.inr ⟨hnm, rfl, aw_37⟩⟩ rfl rfl eM20 dX1_init_20 rfl ?_
  refine q_iconst cx (pc' := 24) ki_0 dX1_init_23 rfl ?_
  refine q_istore_n cx (pc' := 25) rfl rfl (by decide) (L' := [(3, .int 0), (0, .ref ths), (1, .int p1), (2, .int p2)]) rfl dX1_init_24 rfl ?_
  obtain ⟨r25, hL25, h⟩ := bnd_i h
  have hk25_r : ∀ (Mr_25 : QM), Mr_25 = r25 → some Mr_25 = some M' := by
    intro Mr_25 hp
    subst hp
    exact h
  have key25 : ∀ (n : Nat) (w3_25 : Int32) (Mw_25 : QM), itr (fun s25 : Int32 × QM => lp_X1_init_25 ths s25.1 s25.2) n (w3_25, Mw_25) = some r25 → EE p l e rm_X1_init s m args below meth c Q Γ 4 1 1600 25 [(0, .ref ths), (3, .int w3_25)] [] Mw_25 := by
    intro n
    induction n with
    | zero => intro _ _ h; exact (itr_0 h).elim
    | succ n ih =>
      intro w3_25 Mw_25 h
      obtain ⟨z25, h, hz25⟩ := itr_i h
      replace h : lp_X1_init_25 ths w3_25 Mw_25 = some z25 := h
      unfold lp_X1_init_25 at h
      refine q_iload_n cx (pc' := 26) 1 rfl dX1_init_25 rfl ?_
      refine q_aload_n cx (pc' := 27) 0 rfl dX1_init_26 rfl ?_
      obtain ⟨ht27, r27, ex27, h⟩ := gR_i h
      refine q_gR cx (pc' := 30) 1 0 fl_X1_9 rfl ht27 ex27 dX1_init_27 rfl ?_
      obtain ⟨ht30, x30, ex30, h⟩ := aL_i h
      refine q_alen cx (pc' := 31) ht30 ex30 dX1_init_30 rfl ?_
      refine q_icmp_ge cx (pc' := 34) (tgt := 47) dX1_init_31 (by decide) rfl (fun c31 => ?_) (fun c31 => ?_)
      · replace h := ip c31 h
        replace h := hk25_r _ (hz25.2 _ h)
        obtain rfl := o1_i h
        refine q_widen (k2 := 1) (s2 := 1600) (by omega) (by omega) ?_
        rw [hQ]
        exact q_vret cx dX1_init_47
      · replace h := ine c31 h
        refine q_aload_n cx (pc' := 35) 0 rfl dX1_init_34 rfl ?_
        obtain ⟨ht35, r35, ex35, h⟩ := gR_i h
        refine q_gR cx (pc' := 38) 1 0 fl_X1_9 rfl ht35 ex35 dX1_init_35 rfl ?_
        refine q_iload_n cx (pc' := 39) 1 rfl dX1_init_38 rfl ?_
        refine q_iconst cx (pc' := 40) ki_2 dX1_init_39 rfl ?_
        obtain ⟨ht40, hi40, M40, eM40, h⟩ := wI_i h
        refine q_iast cx (pc' := 41) ht40 hi40 eM40 dX1_init_40 rfl ?_
        obtain ⟨v3_41, ev3_41, h⟩ := nm_i h
        refine q_iinc cx (pc' := 44) 1 rfl ki_1 ev3_41 (by decide) (L' := [(3, .int v3_41), (0, .ref ths)]) rfl dX1_init_41 rfl ?_
        refine q_goto cx dX1_init_44 (tgt := 25) (by decide) ?_
        refine q_sub cx [1, 0] rfl ?_
        exact ih _ _ (hz25.1 _ h)
  refine q_sub cx [1, 0] rfl ?_
  exact key25 FU _ _ hL25

abbrev rm_X6_init : Room := { frames := 2, cells := 1, slots := 60, locals := 80 }
def fn_X6_init (M : QM) (ths : Nat) : Option QM :=
  pI M ths 6 0 (-1) fun M6 =>
  nA M6 24 60 60 fun M12 r12 =>
  pR M12 ths 6 2 r12 fun M14 =>
  some M14
set_option maxRecDepth 100000 in
set_option maxHeartbeats 4000000 in
theorem ct_X6_init (Γ : GT) (l : Launch) (M : QM) (ths : Nat) (ht0 : mt M ths = 6) (M' : QM) (h : fn_X6_init M ths = some M') : CT Γ l yX6_init cX6_init 1 none rm_X6_init (.ref ths :: []) M none M' := by
  refine ct_intro (own := RX6) (L := [(0, .ref ths)]) (by decide +kernel) rfl (Nat.le_of_ble_eq_true rfl) rfl ?_
  intro p e s m args below meth c Q hQ cx hnm
  unfold fn_X6_init at h
  refine q_aload_n cx (pc' := 1) 0 rfl dX6_init_0 rfl ?_
  refine q_objInit cx (pc' := 4) aw_38 ⟨aw_1, aw_2⟩ ⟨(Nat.le_of_ble_eq_true rfl), (Nat.le_of_ble_eq_true rfl)⟩ (Nat.le_of_ble_eq_true rfl) dX6_init_1 rfl ?_
  refine q_aload_n cx (pc' := 5) 0 rfl dX6_init_4 rfl ?_
  refine q_iconst cx (pc' := 6) ki_m1 dX6_init_5 rfl ?_
  obtain ⟨ht6, M6, eM6, h⟩ := pI_i h
  refine q_pI cx (pc' := 9) 6 0 fl_X6_9 rfl ht6 (ty := .int) ⟨(RX6, TX6, 3), rfl, by decide +kernel, Or.inl rfl⟩ rfl rfl eM6 dX6_init_6 rfl ?_
  refine q_aload_n cx (pc' := 10) 0 rfl dX6_init_9 rfl ?_
  refine q_bipush cx (pc' := 12) kb_60 dX6_init_10 rfl ?_
  obtain ⟨hn12, hb12, M12, r12, eM12, er12, h⟩ := nA_i h
  refine q_newJ cx (pc' := 14) aw_39 hn12 rfl (by omega) (Nat.le_of_ble_eq_true rfl) (Nat.le_trans (Nat.add_le_add_left hb12 _) (Nat.le_of_ble_eq_true rfl)) eM12 dX6_init_12 rfl ?_
  refine q_widen (k2 := 1) (s2 := 60) (Nat.le_refl _) (Nat.add_le_add_left hb12 _) ?_
  rw [← er12]
  obtain ⟨ht14, M14, eM14, h⟩ := pR_i h
  refine q_pR cx (pc' := 17) 6 2 fl_X6_13 rfl ht14 (ty := (.array .long)) ⟨(RX6, TX6, 3), rfl, by decide +kernel, Or.inr ⟨hnm, rfl, aw_40⟩⟩ rfl rfl eM14 dX6_init_14 rfl ?_
  obtain rfl := o1_i h
  refine q_widen (k2 := 1) (s2 := 60) (by omega) (by omega) ?_
  rw [hQ]
  exact q_vret cx dX6_init_17

abbrev rm_X8_isBelow : Room := { frames := 1, cells := 0, slots := 0, locals := 40 }
def fn_X8_isBelow (p0 : Int32) (p1 : Int32) : Int32 :=
  if p0 < 0 then
    0
  else
    if p1 ≤ p0 then
      0
    else
      1
set_option maxRecDepth 100000 in
set_option maxHeartbeats 4000000 in
theorem ct_X8_isBelow (Γ : GT) (l : Launch) (M : QM) (p0 : Int32) (p1 : Int32) : CT Γ l yX8_isBelow cX8_isBelow 2 (some .boolean) rm_X8_isBelow [.int p0, .int p1] M (some (.int (fn_X8_isBelow p0 p1))) M := by
  generalize h : fn_X8_isBelow p0 p1 = z
  refine ct_intro (own := RX8) (L := [(0, .int p0), (1, .int p1)]) (by decide +kernel) rfl (Nat.le_of_ble_eq_true rfl) rfl ?_
  intro p e s m args below meth c Q hQ cx hnm
  unfold fn_X8_isBelow at h
  refine q_iload_n cx (pc' := 1) 0 rfl dX8_isBelow_0 rfl ?_
  refine q_if_lt cx (pc' := 4) (tgt := 13) dX8_isBelow_1 (by decide) rfl (fun c1 => ?_) (fun c1 => ?_)
  · replace h := ip c1 h
    refine q_iconst cx (pc' := 14) ki_0 dX8_isBelow_13 rfl ?_
    subst h
    rw [hQ]
    exact q_nret cx rfl dX8_isBelow_14
  · replace h := ine c1 h
    refine q_iload_n cx (pc' := 5) 0 rfl dX8_isBelow_4 rfl ?_
    refine q_iload_n cx (pc' := 6) 1 rfl dX8_isBelow_5 rfl ?_
    refine q_icmp_ge cx (pc' := 9) (tgt := 13) dX8_isBelow_6 (by decide) rfl (fun c6 => ?_) (fun c6 => ?_)
    · replace h := ip c6 h
      refine q_iconst cx (pc' := 14) ki_0 dX8_isBelow_13 rfl ?_
      subst h
      rw [hQ]
      exact q_nret cx rfl dX8_isBelow_14
    · replace h := ine c6 h
      refine q_iconst cx (pc' := 10) ki_1 dX8_isBelow_9 rfl ?_
      refine q_goto cx dX8_isBelow_10 (tgt := 14) (by decide) ?_
      subst h
      rw [hQ]
      exact q_nret cx rfl dX8_isBelow_14

abbrev rm_X7_become : Room := { frames := 1, cells := 0, slots := 0, locals := 40 }
def lp_X7_become_18 (ths : Nat) (w4_18 : Int32) (Mw_18 : QM) : Option ((Int32 × QM) ⊕ (QM)) :=
  if 4 ≤ w4_18 then
    some (.inr Mw_18)
  else
    gR Mw_18 ths 7 3 fun r25 =>
    wI Mw_18 20 r25 w4_18 0 fun M31 =>
    nm (w4_18 + 1) fun v4_32 =>
    some (.inl (v4_32, M31))
def fn_X7_become (M : QM) (ths : Nat) (p1 : Int32) (p2 : Int32) (p3 : Int32) : Option QM :=
  pI M ths 7 0 p1 fun M2 =>
  pI M2 ths 7 1 p2 fun M7 =>
  pI M7 ths 7 2 p3 fun M12 =>
  bnd (itr (fun s18 : Int32 × QM => lp_X7_become_18 ths s18.1 s18.2) FU (0, M12)) fun Mr_18 =>
  some Mr_18
set_option maxRecDepth 100000 in
set_option maxHeartbeats 4000000 in
theorem ct_X7_become (Γ : GT) (l : Launch) (M : QM) (ths : Nat) (p1 : Int32) (p2 : Int32) (p3 : Int32) (ht0 : mt M ths = 7) (M' : QM) (h : fn_X7_become M ths p1 p2 p3 = some M') : CT Γ l yX7_become cX7_become 5 none rm_X7_become (.ref ths :: [.int p1, .int p2, .int p3]) M none M' := by
  refine ct_intro (own := RX7) (L := [(0, .ref ths), (1, .int p1), (2, .int p2), (3, .int p3)]) (by decide +kernel) rfl (Nat.le_of_ble_eq_true rfl) rfl ?_
  intro p e s m args below meth c Q hQ cx hnm
  unfold fn_X7_become at h
  refine q_aload_n cx (pc' := 1) 0 rfl dX7_become_0 rfl ?_
  refine q_iload_n cx (pc' := 2) 1 rfl dX7_become_1 rfl ?_
  obtain ⟨ht2, M2, eM2, h⟩ := pI_i h
  refine q_pI cx (pc' := 5) 7 0 fl_X7_15 rfl ht2 (ty := .int) ⟨(RX7, TX7, 4), rfl, by decide +kernel, Or.inl rfl⟩ rfl rfl eM2 dX7_become_2 rfl ?_
  refine q_aload_n cx (pc' := 6) 0 rfl dX7_become_5 rfl ?_
  refine q_iload_n cx (pc' := 7) 2 rfl dX7_become_6 rfl ?_
  obtain ⟨ht7, M7, eM7, h⟩ := pI_i h
  refine q_pI cx (pc' := 10) 7 1 fl_X7_19 rfl ht7 (ty := .int) ⟨(RX7, TX7, 4), rfl, by decide +kernel, Or.inl rfl⟩ rfl rfl eM7 dX7_become_7 rfl ?_
  refine q_aload_n cx (pc' := 11) 0 rfl dX7_become_10 rfl ?_
  refine q_iload_n cx (pc' := 12) 3 rfl dX7_become_11 rfl ?_
  obtain ⟨ht12, M12, eM12, h⟩ := pI_i h
  refine q_pI cx (pc' := 15) 7 2 fl_X7_22 rfl ht12 (ty := .int) ⟨(RX7, TX7, 4), rfl, by decide +kernel, Or.inl rfl⟩ rfl rfl eM12 dX7_become_12 rfl ?_
  refine q_iconst cx (pc' := 16) ki_0 dX7_become_15 rfl ?_
  refine q_istore cx (pc' := 18) rfl (by decide) (L' := [(4, .int 0), (0, .ref ths), (1, .int p1), (2, .int p2), (3, .int p3)]) rfl dX7_become_16 rfl ?_
  obtain ⟨r18, hL18, h⟩ := bnd_i h
  have hk18_r : ∀ (Mr_18 : QM), Mr_18 = r18 → some Mr_18 = some M' := by
    intro Mr_18 hp
    subst hp
    exact h
  have key18 : ∀ (n : Nat) (w4_18 : Int32) (Mw_18 : QM), itr (fun s18 : Int32 × QM => lp_X7_become_18 ths s18.1 s18.2) n (w4_18, Mw_18) = some r18 → EE p l e rm_X7_become s m args below meth c Q Γ 5 0 0 18 [(0, .ref ths), (4, .int w4_18)] [] Mw_18 := by
    intro n
    induction n with
    | zero => intro _ _ h; exact (itr_0 h).elim
    | succ n ih =>
      intro w4_18 Mw_18 h
      obtain ⟨z18, h, hz18⟩ := itr_i h
      replace h : lp_X7_become_18 ths w4_18 Mw_18 = some z18 := h
      unfold lp_X7_become_18 at h
      refine q_iload cx (pc' := 20) 1 rfl dX7_become_18 rfl ?_
      refine q_iconst cx (pc' := 21) ki_4 dX7_become_20 rfl ?_
      refine q_icmp_ge cx (pc' := 24) (tgt := 38) dX7_become_21 (by decide) rfl (fun c21 => ?_) (fun c21 => ?_)
      · replace h := ip c21 h
        replace h := hk18_r _ (hz18.2 _ h)
        obtain rfl := o1_i h
        rw [hQ]
        exact q_vret cx dX7_become_38
      · replace h := ine c21 h
        refine q_aload_n cx (pc' := 25) 0 rfl dX7_become_24 rfl ?_
        obtain ⟨ht25, r25, ex25, h⟩ := gR_i h
        refine q_gR cx (pc' := 28) 7 3 fl_X7_9 rfl ht25 ex25 dX7_become_25 rfl ?_
        refine q_iload cx (pc' := 30) 1 rfl dX7_become_28 rfl ?_
        refine q_iconst cx (pc' := 31) ki_0 dX7_become_30 rfl ?_
        obtain ⟨ht31, hi31, M31, eM31, h⟩ := wI_i h
        refine q_iast cx (pc' := 32) ht31 hi31 eM31 dX7_become_31 rfl ?_
        obtain ⟨v4_32, ev4_32, h⟩ := nm_i h
        refine q_iinc cx (pc' := 35) 1 rfl ki_1 ev4_32 (by decide) (L' := [(4, .int v4_32), (0, .ref ths)]) rfl dX7_become_32 rfl ?_
        refine q_goto cx dX7_become_35 (tgt := 18) (by decide) ?_
        refine q_sub cx [1, 0] rfl ?_
        exact ih _ _ (hz18.1 _ h)
  refine q_sub cx [1, 0] rfl ?_
  exact key18 FU _ _ hL18

abbrev rm_X5_walkerAt : Room := { frames := 2, cells := 0, slots := 0, locals := 61 }
def fn_X5_walkerAt (M : QM) (ths : Nat) (p1 : Int32) : Option (Option Nat) :=
  gI M ths 5 2 fun x2 =>
  if (fn_X8_isBelow p1 x2) = 0 then
    some none
  else
    gR M ths 5 1 fun r12 =>
    aR M 26 r12 p1 fun r16 =>
    some (some r16)
set_option maxRecDepth 100000 in
set_option maxHeartbeats 4000000 in
theorem ct_X5_walkerAt (Γ : GT) (l : Launch) (M : QM) (ths : Nat) (p1 : Int32) (ht0 : mt M ths = 5) (z : Option Nat) (h : fn_X5_walkerAt M ths p1 = some z) : CT Γ l yX5_walkerAt cX5_walkerAt 2 (some (.object "BearMouse$Walker")) rm_X5_walkerAt (.ref ths :: [.int p1]) M (some (va_rf z)) M := by
  refine ct_intro (own := RX5) (L := [(0, .ref ths), (1, .int p1)]) (by decide +kernel) rfl (Nat.le_of_ble_eq_true rfl) rfl ?_
  intro p e s m args below meth c Q hQ cx hnm
  unfold fn_X5_walkerAt at h
  refine q_iload_n cx (pc' := 1) 1 rfl dX5_walkerAt_0 rfl ?_
  refine q_aload_n cx (pc' := 2) 0 rfl dX5_walkerAt_1 rfl ?_
  obtain ⟨ht2, x2, ex2, h⟩ := gI_i h
  refine q_gI cx (pc' := 5) 5 2 fl_X5_44 rfl ht2 ex2 dX5_walkerAt_2 rfl ?_
  refine q_callS cx (pc' := 8) (S := []) (S1 := [.int (fn_X8_isBelow p1 x2)]) (kc' := 0) (ks' := 0) (ct_X8_isBelow Γ l M p1 x2) lki_X8_isBelow lkv_X8_isBelow lkc_X5_62 rfl rfl (Nat.le_of_ble_eq_true rfl) ⟨(Nat.le_of_ble_eq_true rfl), (Nat.le_of_ble_eq_true rfl)⟩ ⟨(Nat.le_of_ble_eq_true rfl), (Nat.le_of_ble_eq_true rfl)⟩ dX5_walkerAt_5 rfl rfl rfl ?_
  refine q_if_eq cx (pc' := 11) (tgt := 20) dX5_walkerAt_8 (by decide) rfl (fun c8 => ?_) (fun c8 => ?_)
  · replace h := ip c8 h
    refine q_null cx (pc' := 21) dX5_walkerAt_20 rfl ?_
    obtain rfl := o1_i h
    rw [hQ]
    exact q_aretN cx dX5_walkerAt_21
  · replace h := ine c8 h
    refine q_aload_n cx (pc' := 12) 0 rfl dX5_walkerAt_11 rfl ?_
    obtain ⟨ht12, r12, ex12, h⟩ := gR_i h
    refine q_gR cx (pc' := 15) 5 1 fl_X5_20 rfl ht12 ex12 dX5_walkerAt_12 rfl ?_
    refine q_iload_n cx (pc' := 16) 1 rfl dX5_walkerAt_15 rfl ?_
    obtain ⟨ht16, hi16, r16, ex16, h⟩ := aR_i h
    refine q_aald6 cx (pc' := 17) ht16 hi16 ex16 dX5_walkerAt_16 rfl ?_
    refine q_goto cx dX5_walkerAt_17 (tgt := 21) (by decide) ?_
    obtain rfl := o1_i h
    rw [hQ]
    exact q_aret cx dX5_walkerAt_21

abbrev rm_X7_needs : Room := { frames := 2, cells := 0, slots := 0, locals := 80 }
def fn_X7_needs (M : QM) (ths : Nat) (p1 : Int32) : Option Int32 :=
  gI M ths 7 0 fun x1 =>
  if x1 = 2 then
    if p1 = 0 then
      gI M ths 7 2 fun x45 =>
      some (x45 / 2)
    else
      gI M ths 7 2 fun x54 =>
      some x54
  else if x1 = 3 then
    gI M ths 7 2 fun x59 =>
    gI M ths 7 1 fun x63 =>
    some (x59 + x63)
  else if x1 = 4 then
    gI M ths 7 2 fun x70 =>
    gI M ths 7 1 fun x74 =>
    some (imm_max 0 (x70 - x74))
  else if x1 = 5 then
    if p1 = 0 then
      gI M ths 7 2 fun x87 =>
      some ((x87 / 2) * 2)
    else
      gI M ths 7 2 fun x98 =>
      some (x98 * 2)
  else if x1 = 6 then
    gI M ths 7 2 fun x105 =>
    gI M ths 7 1 fun x109 =>
    gR M ths 7 3 fun r114 =>
    aI M 20 r114 p1 fun x118 =>
    some ((x105 + x109) + x118)
  else 
    gI M ths 7 2 fun x122 =>
    some x122
set_option maxRecDepth 100000 in
set_option maxHeartbeats 4000000 in
theorem ct_X7_needs (Γ : GT) (l : Launch) (M : QM) (ths : Nat) (p1 : Int32) (ht0 : mt M ths = 7) (z : Int32) (h : fn_X7_needs M ths p1 = some z) : CT Γ l yX7_needs cX7_needs 2 (some .int) rm_X7_needs (.ref ths :: [.int p1]) M (some (.int z)) M := by
  refine ct_intro (own := RX7) (L := [(0, .ref ths), (1, .int p1)]) (by decide +kernel) rfl (Nat.le_of_ble_eq_true rfl) rfl ?_
  intro p e s m args below meth c Q hQ cx hnm
  unfold fn_X7_needs at h
  refine q_aload_n cx (pc' := 1) 0 rfl dX7_needs_0 rfl ?_
  obtain ⟨ht1, x1, ex1, h⟩ := gI_i h
  refine q_gI cx (pc' := 4) 7 0 fl_X7_15 rfl ht1 ex1 dX7_needs_1 rfl ?_
  rcases Decidable.em (x1 = 2) with c4_0 | c4_0
  · replace h := ip c4_0 h
    refine q_tabIn cx (off := 36) (tgt := 40) c4_0 dX7_needs_4 (by decide) (by decide) ?_
    refine q_iload_n cx (pc' := 41) 1 rfl dX7_needs_40 rfl ?_
    refine q_if_ne cx (pc' := 44) (tgt := 53) dX7_needs_41 (by decide) rfl (fun c41 => ?_) (fun c41 => ?_)
    · replace h := ine c41 h
      refine q_aload_n cx (pc' := 54) 0 rfl dX7_needs_53 rfl ?_
      obtain ⟨ht54, x54, ex54, h⟩ := gI_i h
      refine q_gI cx (pc' := 57) 7 2 fl_X7_22 rfl ht54 ex54 dX7_needs_54 rfl ?_
      obtain rfl := o1_i h
      rw [hQ]
      exact q_iret cx dX7_needs_57
    · replace h := ip c41 h
      refine q_aload_n cx (pc' := 45) 0 rfl dX7_needs_44 rfl ?_
      obtain ⟨ht45, x45, ex45, h⟩ := gI_i h
      refine q_gI cx (pc' := 48) 7 2 fl_X7_22 rfl ht45 ex45 dX7_needs_45 rfl ?_
      refine q_iconst cx (pc' := 49) ki_2 dX7_needs_48 rfl ?_
      refine q_idiv cx (pc' := 50) (by decide) dX7_needs_49 rfl ?_
      refine q_goto cx dX7_needs_50 (tgt := 57) (by decide) ?_
      obtain rfl := o1_i h
      rw [hQ]
      exact q_iret cx dX7_needs_57
  replace h := ine c4_0 h
  rcases Decidable.em (x1 = 3) with c4_1 | c4_1
  · replace h := ip c4_1 h
    refine q_tabIn cx (off := 54) (tgt := 58) c4_1 dX7_needs_4 (by decide) (by decide) ?_
    refine q_aload_n cx (pc' := 59) 0 rfl dX7_needs_58 rfl ?_
    obtain ⟨ht59, x59, ex59, h⟩ := gI_i h
    refine q_gI cx (pc' := 62) 7 2 fl_X7_22 rfl ht59 ex59 dX7_needs_59 rfl ?_
    refine q_aload_n cx (pc' := 63) 0 rfl dX7_needs_62 rfl ?_
    obtain ⟨ht63, x63, ex63, h⟩ := gI_i h
    refine q_gI cx (pc' := 66) 7 1 fl_X7_19 rfl ht63 ex63 dX7_needs_63 rfl ?_
    refine q_iadd cx (pc' := 67) dX7_needs_66 rfl ?_
    obtain rfl := o1_i h
    rw [hQ]
    exact q_iret cx dX7_needs_67
  replace h := ine c4_1 h
  rcases Decidable.em (x1 = 4) with c4_2 | c4_2
  · replace h := ip c4_2 h
    refine q_tabIn cx (off := 64) (tgt := 68) c4_2 dX7_needs_4 (by decide) (by decide) ?_
    refine q_iconst cx (pc' := 69) ki_0 dX7_needs_68 rfl ?_
    refine q_aload_n cx (pc' := 70) 0 rfl dX7_needs_69 rfl ?_
    obtain ⟨ht70, x70, ex70, h⟩ := gI_i h
    refine q_gI cx (pc' := 73) 7 2 fl_X7_22 rfl ht70 ex70 dX7_needs_70 rfl ?_
    refine q_aload_n cx (pc' := 74) 0 rfl dX7_needs_73 rfl ?_
    obtain ⟨ht74, x74, ex74, h⟩ := gI_i h
    refine q_gI cx (pc' := 77) 7 1 fl_X7_19 rfl ht74 ex74 dX7_needs_74 rfl ?_
    refine q_isub cx (pc' := 78) dX7_needs_77 rfl ?_
    refine q_mmax cx (pc' := 81) aw_69 ⟨aw_70, aw_71, aw_72⟩ ⟨(Nat.le_of_ble_eq_true rfl), (Nat.le_of_ble_eq_true rfl), (Nat.le_of_ble_eq_true rfl), (Nat.le_of_ble_eq_true rfl)⟩ (Nat.le_of_ble_eq_true rfl) dX7_needs_78 rfl ?_
    obtain rfl := o1_i h
    rw [hQ]
    exact q_iret cx dX7_needs_81
  replace h := ine c4_2 h
  rcases Decidable.em (x1 = 5) with c4_3 | c4_3
  · replace h := ip c4_3 h
    refine q_tabIn cx (off := 78) (tgt := 82) c4_3 dX7_needs_4 (by decide) (by decide) ?_
    refine q_iload_n cx (pc' := 83) 1 rfl dX7_needs_82 rfl ?_
    refine q_if_ne cx (pc' := 86) (tgt := 97) dX7_needs_83 (by decide) rfl (fun c83 => ?_) (fun c83 => ?_)
    · replace h := ine c83 h
      refine q_aload_n cx (pc' := 98) 0 rfl dX7_needs_97 rfl ?_
      obtain ⟨ht98, x98, ex98, h⟩ := gI_i h
      refine q_gI cx (pc' := 101) 7 2 fl_X7_22 rfl ht98 ex98 dX7_needs_98 rfl ?_
      refine q_iconst cx (pc' := 102) ki_2 dX7_needs_101 rfl ?_
      refine q_imul cx (pc' := 103) dX7_needs_102 rfl ?_
      obtain rfl := o1_i h
      rw [hQ]
      exact q_iret cx dX7_needs_103
    · replace h := ip c83 h
      refine q_aload_n cx (pc' := 87) 0 rfl dX7_needs_86 rfl ?_
      obtain ⟨ht87, x87, ex87, h⟩ := gI_i h
      refine q_gI cx (pc' := 90) 7 2 fl_X7_22 rfl ht87 ex87 dX7_needs_87 rfl ?_
      refine q_iconst cx (pc' := 91) ki_2 dX7_needs_90 rfl ?_
      refine q_idiv cx (pc' := 92) (by decide) dX7_needs_91 rfl ?_
      refine q_iconst cx (pc' := 93) ki_2 dX7_needs_92 rfl ?_
      refine q_imul cx (pc' := 94) dX7_needs_93 rfl ?_
      refine q_goto cx dX7_needs_94 (tgt := 103) (by decide) ?_
      obtain rfl := o1_i h
      rw [hQ]
      exact q_iret cx dX7_needs_103
  replace h := ine c4_3 h
  rcases Decidable.em (x1 = 6) with c4_4 | c4_4
  · replace h := ip c4_4 h
    refine q_tabIn cx (off := 100) (tgt := 104) c4_4 dX7_needs_4 (by decide) (by decide) ?_
    refine q_aload_n cx (pc' := 105) 0 rfl dX7_needs_104 rfl ?_
    obtain ⟨ht105, x105, ex105, h⟩ := gI_i h
    refine q_gI cx (pc' := 108) 7 2 fl_X7_22 rfl ht105 ex105 dX7_needs_105 rfl ?_
    refine q_aload_n cx (pc' := 109) 0 rfl dX7_needs_108 rfl ?_
    obtain ⟨ht109, x109, ex109, h⟩ := gI_i h
    refine q_gI cx (pc' := 112) 7 1 fl_X7_19 rfl ht109 ex109 dX7_needs_109 rfl ?_
    refine q_iadd cx (pc' := 113) dX7_needs_112 rfl ?_
    refine q_aload_n cx (pc' := 114) 0 rfl dX7_needs_113 rfl ?_
    obtain ⟨ht114, r114, ex114, h⟩ := gR_i h
    refine q_gR cx (pc' := 117) 7 3 fl_X7_9 rfl ht114 ex114 dX7_needs_114 rfl ?_
    refine q_iload_n cx (pc' := 118) 1 rfl dX7_needs_117 rfl ?_
    obtain ⟨ht118, hi118, x118, ex118, h⟩ := aI_i h
    refine q_iald cx (pc' := 119) ht118 hi118 ex118 dX7_needs_118 rfl ?_
    refine q_iadd cx (pc' := 120) dX7_needs_119 rfl ?_
    obtain rfl := o1_i h
    rw [hQ]
    exact q_iret cx dX7_needs_120
  replace h := ine c4_4 h
  have nt4_0 := lv_neT c4_0 (a := 2) rfl
  have nt4_1 := lv_neT c4_1 (a := 3) rfl
  have nt4_2 := lv_neT c4_2 (a := 4) rfl
  have nt4_3 := lv_neT c4_3 (a := 5) rfl
  have nt4_4 := lv_neT c4_4 (a := 6) rfl
  refine q_tabOut cx (tgt := 121) dX7_needs_4 (by omega) (by decide) ?_
  refine q_aload_n cx (pc' := 122) 0 rfl dX7_needs_121 rfl ?_
  obtain ⟨ht122, x122, ex122, h⟩ := gI_i h
  refine q_gI cx (pc' := 125) 7 2 fl_X7_22 rfl ht122 ex122 dX7_needs_122 rfl ?_
  obtain rfl := o1_i h
  rw [hQ]
  exact q_iret cx dX7_needs_125

abbrev rm_X7_bearers : Room := { frames := 3, cells := 0, slots := 0, locals := 101 }
def lp_X7_bearers_25 (M : QM) (p1 : Nat) (p2 : Int32) (c14 : Int32) (w4_5 : Int32) (w3_25 : Int32) (w6_25 : Int32) : Option ((Int32 × Int32) ⊕ (Int32)) :=
  if ((4 * w4_5) + 4) ≤ w6_25 then
    some (.inr w3_25)
  else
    if w6_25 = p2 then
      nm (w6_25 + 1) fun v6_61 =>
      some (.inl (w3_25, v6_61))
    else
      gR M p1 2 0 fun r43 =>
      aI M 20 r43 w6_25 fun x48 =>
      if x48 < c14 then
        nm (w6_25 + 1) fun v6_61 =>
        some (.inl (w3_25, v6_61))
      else
        nm (w3_25 ||| (1 <<< (w6_25 &&& 31))) fun v3_60 =>
        nm (w6_25 + 1) fun v6_61 =>
        some (.inl (v3_60, v6_61))
def lp_X7_bearers_5 (M : QM) (ths : Nat) (p1 : Nat) (p2 : Int32) (w3_5 : Int32) (w4_5 : Int32) : Option ((Int32 × Int32) ⊕ (Int32)) :=
  if 4 ≤ w4_5 then
    some (.inr w3_5)
  else
    bnd (fn_X7_needs M ths w4_5) fun c14 =>
    nm (4 * w4_5) fun v6_23 =>
    bnd (itr (fun s25 : Int32 × Int32 => lp_X7_bearers_25 M p1 p2 c14 w4_5 s25.1 s25.2) FU (w3_5, v6_23)) fun e3_25 =>
    nm (w4_5 + 1) fun v4_67 =>
    some (.inl (e3_25, v4_67))
def fn_X7_bearers (M : QM) (ths : Nat) (p1 : Nat) (p2 : Int32) : Option Int32 :=
  bnd (itr (fun s5 : Int32 × Int32 => lp_X7_bearers_5 M ths p1 p2 s5.1 s5.2) FU (0, 0)) fun re_5 =>
  some re_5
set_option maxRecDepth 100000 in
set_option maxHeartbeats 4000000 in
theorem ct_X7_bearers (Γ : GT) (l : Launch) (M : QM) (ths : Nat) (p1 : Nat) (p2 : Int32) (ht0 : mt M ths = 7) (z : Int32) (h : fn_X7_bearers M ths p1 p2 = some z) : CT Γ l yX7_bearers cX7_bearers 7 (some .int) rm_X7_bearers (.ref ths :: [.ref p1, .int p2]) M (some (.int z)) M := by
  refine ct_intro (own := RX7) (L := [(0, .ref ths), (1, .ref p1), (2, .int p2)]) (by decide +kernel) rfl (Nat.le_of_ble_eq_true rfl) rfl ?_
  intro p e s m args below meth c Q hQ cx hnm
  unfold fn_X7_bearers at h
  refine q_iconst cx (pc' := 1) ki_0 dX7_bearers_0 rfl ?_
  refine q_istore_n cx (pc' := 2) rfl rfl (by decide) (L' := [(3, .int 0), (0, .ref ths), (1, .ref p1), (2, .int p2)]) rfl dX7_bearers_1 rfl ?_
  refine q_iconst cx (pc' := 3) ki_0 dX7_bearers_2 rfl ?_
  refine q_istore cx (pc' := 5) rfl (by decide) (L' := [(4, .int 0), (3, .int 0), (0, .ref ths), (1, .ref p1), (2, .int p2)]) rfl dX7_bearers_3 rfl ?_
  obtain ⟨r5, hL5, h⟩ := bnd_i h
  have hk5_r : ∀ (re_5 : Int32), re_5 = r5 → some re_5 = some z := by
    intro re_5 hp
    subst hp
    exact h
  have key5 : ∀ (n : Nat) (w3_5 : Int32) (w4_5 : Int32), itr (fun s5 : Int32 × Int32 => lp_X7_bearers_5 M ths p1 p2 s5.1 s5.2) n (w3_5, w4_5) = some r5 → EE p l e rm_X7_bearers s m args below meth c Q Γ 7 0 0 5 [(0, .ref ths), (1, .ref p1), (2, .int p2), (3, .int w3_5), (4, .int w4_5)] [] M := by
    intro n
    induction n with
    | zero => intro _ _ h; exact (itr_0 h).elim
    | succ n ih =>
      intro w3_5 w4_5 h
      obtain ⟨z5, h, hz5⟩ := itr_i h
      replace h : lp_X7_bearers_5 M ths p1 p2 w3_5 w4_5 = some z5 := h
      unfold lp_X7_bearers_5 at h
      refine q_iload cx (pc' := 7) 4 rfl dX7_bearers_5 rfl ?_
      refine q_iconst cx (pc' := 8) ki_4 dX7_bearers_7 rfl ?_
      refine q_icmp_ge cx (pc' := 11) (tgt := 73) dX7_bearers_8 (by decide) rfl (fun c8 => ?_) (fun c8 => ?_)
      · replace h := ip c8 h
        refine q_iload_n cx (pc' := 74) 3 rfl dX7_bearers_73 rfl ?_
        replace h := hk5_r _ (hz5.2 _ h)
        obtain rfl := o1_i h
        rw [hQ]
        exact q_iret cx dX7_bearers_74
      · replace h := ine c8 h
        refine q_aload_n cx (pc' := 12) 0 rfl dX7_bearers_11 rfl ?_
        refine q_iload cx (pc' := 14) 4 rfl dX7_bearers_12 rfl ?_
        obtain ⟨c14, hc14, h⟩ := bnd_i h
        refine q_callV cx (pc' := 17) (S := []) (S1 := [.int c14]) (kc' := 0) (ks' := 0) 7 (ct_X7_needs Γ l M ths w4_5 ht0 _ hc14) lki_X7_needs lkv_X7_needs lkc_X7_37 ht0 (r := (RX7, TX7, 4)) ⟨rfl, by decide, rfl⟩ rfl rfl (Nat.le_of_ble_eq_true rfl) ⟨(Nat.le_of_ble_eq_true rfl), (Nat.le_of_ble_eq_true rfl)⟩ ⟨(Nat.le_of_ble_eq_true rfl), (Nat.le_of_ble_eq_true rfl)⟩ dX7_bearers_14 rfl rfl rfl ?_
        refine q_istore cx (pc' := 19) rfl (by decide) (L' := [(5, .int c14), (0, .ref ths), (1, .ref p1), (2, .int p2), (3, .int w3_5), (4, .int w4_5)]) rfl dX7_bearers_17 rfl ?_
        refine q_iconst cx (pc' := 20) ki_4 dX7_bearers_19 rfl ?_
        refine q_iload cx (pc' := 22) 5 rfl dX7_bearers_20 rfl ?_
        refine q_imul cx (pc' := 23) dX7_bearers_22 rfl ?_
        obtain ⟨v6_23, ev6_23, h⟩ := nm_i h
        refine q_istore cx (pc' := 25) ev6_23 (by decide) (L' := [(6, .int v6_23), (5, .int c14), (0, .ref ths), (1, .ref p1), (2, .int p2), (3, .int w3_5), (4, .int w4_5)]) rfl dX7_bearers_23 rfl ?_
        obtain ⟨r25, hL25, h⟩ := bnd_i h
        have hk25_0 : ∀ (e3_25 : Int32), e3_25 = r25 → EE p l e rm_X7_bearers s m args below meth c Q Γ 7 0 0 67 [(0, .ref ths), (1, .ref p1), (2, .int p2), (3, .int e3_25), (4, .int w4_5)] [] M := by
          intro e3_25 hp
          subst hp
          obtain ⟨v4_67, ev4_67, h⟩ := nm_i h
          refine q_iinc cx (pc' := 70) 4 rfl ki_1 ev4_67 (by decide) (L' := [(4, .int v4_67), (0, .ref ths), (1, .ref p1), (2, .int p2), (3, .int e3_25)]) rfl dX7_bearers_67 rfl ?_
          refine q_goto cx dX7_bearers_70 (tgt := 5) (by decide) ?_
          refine q_sub cx [1, 2, 3, 4, 0] rfl ?_
          exact ih _ _ (hz5.1 _ h)
        have key25 : ∀ (n : Nat) (w3_25 : Int32) (w6_25 : Int32), itr (fun s25 : Int32 × Int32 => lp_X7_bearers_25 M p1 p2 c14 w4_5 s25.1 s25.2) n (w3_25, w6_25) = some r25 → EE p l e rm_X7_bearers s m args below meth c Q Γ 7 0 0 25 [(0, .ref ths), (1, .ref p1), (2, .int p2), (3, .int w3_25), (4, .int w4_5), (5, .int c14), (6, .int w6_25)] [] M := by
          intro n
          induction n with
          | zero => intro _ _ h; exact (itr_0 h).elim
          | succ n ih =>
            intro w3_25 w6_25 h
            obtain ⟨z25, h, hz25⟩ := itr_i h
            replace h : lp_X7_bearers_25 M p1 p2 c14 w4_5 w3_25 w6_25 = some z25 := h
            unfold lp_X7_bearers_25 at h
            refine q_iload cx (pc' := 27) 6 rfl dX7_bearers_25 rfl ?_
            refine q_iconst cx (pc' := 28) ki_4 dX7_bearers_27 rfl ?_
            refine q_iload cx (pc' := 30) 4 rfl dX7_bearers_28 rfl ?_
            refine q_imul cx (pc' := 31) dX7_bearers_30 rfl ?_
            refine q_iconst cx (pc' := 32) ki_4 dX7_bearers_31 rfl ?_
            refine q_iadd cx (pc' := 33) dX7_bearers_32 rfl ?_
            refine q_icmp_ge cx (pc' := 36) (tgt := 67) dX7_bearers_33 (by decide) rfl (fun c33 => ?_) (fun c33 => ?_)
            · replace h := ip c33 h
              refine q_sub cx [0, 1, 2, 3, 4] rfl ?_
              exact hk25_0 _ (hz25.2 _ h)
            · replace h := ine c33 h
              refine q_iload cx (pc' := 38) 6 rfl dX7_bearers_36 rfl ?_
              refine q_iload_n cx (pc' := 39) 2 rfl dX7_bearers_38 rfl ?_
              refine q_icmp_eq cx (pc' := 42) (tgt := 61) dX7_bearers_39 (by decide) rfl (fun c39 => ?_) (fun c39 => ?_)
              · replace h := ip c39 h
                obtain ⟨v6_61, ev6_61, h⟩ := nm_i h
                refine q_iinc cx (pc' := 64) 6 rfl ki_1 ev6_61 (by decide) (L' := [(6, .int v6_61), (0, .ref ths), (1, .ref p1), (2, .int p2), (3, .int w3_25), (4, .int w4_5), (5, .int c14)]) rfl dX7_bearers_61 rfl ?_
                refine q_goto cx dX7_bearers_64 (tgt := 25) (by decide) ?_
                refine q_sub cx [1, 2, 3, 4, 5, 6, 0] rfl ?_
                exact ih _ _ (hz25.1 _ h)
              · replace h := ine c39 h
                refine q_aload_n cx (pc' := 43) 1 rfl dX7_bearers_42 rfl ?_
                obtain ⟨ht43, r43, ex43, h⟩ := gR_i h
                refine q_gR cx (pc' := 46) 2 0 fl_X7_41 rfl ht43 ex43 dX7_bearers_43 rfl ?_
                refine q_iload cx (pc' := 48) 6 rfl dX7_bearers_46 rfl ?_
                obtain ⟨ht48, hi48, x48, ex48, h⟩ := aI_i h
                refine q_iald cx (pc' := 49) ht48 hi48 ex48 dX7_bearers_48 rfl ?_
                refine q_iload cx (pc' := 51) 5 rfl dX7_bearers_49 rfl ?_
                refine q_icmp_lt cx (pc' := 54) (tgt := 61) dX7_bearers_51 (by decide) rfl (fun c51 => ?_) (fun c51 => ?_)
                · replace h := ip c51 h
                  obtain ⟨v6_61, ev6_61, h⟩ := nm_i h
                  refine q_iinc cx (pc' := 64) 6 rfl ki_1 ev6_61 (by decide) (L' := [(6, .int v6_61), (0, .ref ths), (1, .ref p1), (2, .int p2), (3, .int w3_25), (4, .int w4_5), (5, .int c14)]) rfl dX7_bearers_61 rfl ?_
                  refine q_goto cx dX7_bearers_64 (tgt := 25) (by decide) ?_
                  refine q_sub cx [1, 2, 3, 4, 5, 6, 0] rfl ?_
                  exact ih _ _ (hz25.1 _ h)
                · replace h := ine c51 h
                  refine q_iload_n cx (pc' := 55) 3 rfl dX7_bearers_54 rfl ?_
                  refine q_iconst cx (pc' := 56) ki_1 dX7_bearers_55 rfl ?_
                  refine q_iload cx (pc' := 58) 6 rfl dX7_bearers_56 rfl ?_
                  refine q_ishl cx (pc' := 59) dX7_bearers_58 rfl ?_
                  refine q_ior cx (pc' := 60) dX7_bearers_59 rfl ?_
                  obtain ⟨v3_60, ev3_60, h⟩ := nm_i h
                  refine q_istore_n cx (pc' := 61) rfl ev3_60 (by decide) (L' := [(3, .int v3_60), (0, .ref ths), (1, .ref p1), (2, .int p2), (4, .int w4_5), (5, .int c14), (6, .int w6_25)]) rfl dX7_bearers_60 rfl ?_
                  obtain ⟨v6_61, ev6_61, h⟩ := nm_i h
                  refine q_iinc cx (pc' := 64) 6 rfl ki_1 ev6_61 (by decide) (L' := [(6, .int v6_61), (3, .int v3_60), (0, .ref ths), (1, .ref p1), (2, .int p2), (4, .int w4_5), (5, .int c14)]) rfl dX7_bearers_61 rfl ?_
                  refine q_goto cx dX7_bearers_64 (tgt := 25) (by decide) ?_
                  refine q_sub cx [2, 3, 4, 1, 5, 6, 0] rfl ?_
                  exact ih _ _ (hz25.1 _ h)
        refine q_sub cx [2, 3, 4, 5, 6, 1, 0] rfl ?_
        exact key25 FU _ _ hL25
  refine q_sub cx [2, 3, 4, 1, 0] rfl ?_
  exact key5 FU _ _ hL5

abbrev rm_X7_leaps : Room := { frames := 1, cells := 0, slots := 0, locals := 40 }
def fn_X7_leaps (M : QM) (ths : Nat) : Option Int32 :=
  gI M ths 7 0 fun x1 =>
  if x1 = 1 then
    some 1
  else
    gI M ths 7 0 fun x9 =>
    if x9 = 4 then
      some 1
    else
      some 0
set_option maxRecDepth 100000 in
set_option maxHeartbeats 4000000 in
theorem ct_X7_leaps (Γ : GT) (l : Launch) (M : QM) (ths : Nat) (ht0 : mt M ths = 7) (z : Int32) (h : fn_X7_leaps M ths = some z) : CT Γ l yX7_leaps cX7_leaps 1 (some .boolean) rm_X7_leaps (.ref ths :: []) M (some (.int z)) M := by
  refine ct_intro (own := RX7) (L := [(0, .ref ths)]) (by decide +kernel) rfl (Nat.le_of_ble_eq_true rfl) rfl ?_
  intro p e s m args below meth c Q hQ cx hnm
  unfold fn_X7_leaps at h
  refine q_aload_n cx (pc' := 1) 0 rfl dX7_leaps_0 rfl ?_
  obtain ⟨ht1, x1, ex1, h⟩ := gI_i h
  refine q_gI cx (pc' := 4) 7 0 fl_X7_15 rfl ht1 ex1 dX7_leaps_1 rfl ?_
  refine q_iconst cx (pc' := 5) ki_1 dX7_leaps_4 rfl ?_
  refine q_icmp_eq cx (pc' := 8) (tgt := 16) dX7_leaps_5 (by decide) rfl (fun c5 => ?_) (fun c5 => ?_)
  · replace h := ip c5 h
    refine q_iconst cx (pc' := 17) ki_1 dX7_leaps_16 rfl ?_
    refine q_goto cx dX7_leaps_17 (tgt := 21) (by decide) ?_
    obtain rfl := o1_i h
    rw [hQ]
    exact q_nret cx rfl dX7_leaps_21
  · replace h := ine c5 h
    refine q_aload_n cx (pc' := 9) 0 rfl dX7_leaps_8 rfl ?_
    obtain ⟨ht9, x9, ex9, h⟩ := gI_i h
    refine q_gI cx (pc' := 12) 7 0 fl_X7_15 rfl ht9 ex9 dX7_leaps_9 rfl ?_
    refine q_iconst cx (pc' := 13) ki_4 dX7_leaps_12 rfl ?_
    refine q_icmp_ne cx (pc' := 16) (tgt := 20) dX7_leaps_13 (by decide) rfl (fun c13 => ?_) (fun c13 => ?_)
    · replace h := ine c13 h
      refine q_iconst cx (pc' := 21) ki_0 dX7_leaps_20 rfl ?_
      obtain rfl := o1_i h
      rw [hQ]
      exact q_nret cx rfl dX7_leaps_21
    · replace h := ip c13 h
      refine q_iconst cx (pc' := 17) ki_1 dX7_leaps_16 rfl ?_
      refine q_goto cx dX7_leaps_17 (tgt := 21) (by decide) ?_
      obtain rfl := o1_i h
      rw [hQ]
      exact q_nret cx rfl dX7_leaps_21

abbrev rm_X8_around : Room := { frames := 1, cells := 0, slots := 0, locals := 40 }
def fn_X8_around (p0 : Int32) (p1 : Int32) : Int32 :=
  nm ((((p0 <<< (4 &&& 31)) ||| (ushr p0 4)) ||| ((p0 &&& (-34953)) <<< (1 &&& 31))) ||| (ushr (p0 &&& (-4370)) 1)) fun v2_23 =>
  if p1 = 0 then
    (v2_23 &&& 65535)
  else
    nm (v2_23 ||| ((((p0 <<< (8 &&& 31)) ||| (ushr p0 8)) ||| ((p0 &&& 13107) <<< (2 &&& 31))) ||| (ushr (p0 &&& 52428) 2))) fun v2_55 =>
    (v2_55 &&& 65535)
set_option maxRecDepth 100000 in
set_option maxHeartbeats 4000000 in
theorem ct_X8_around (Γ : GT) (l : Launch) (M : QM) (p0 : Int32) (p1 : Int32) : CT Γ l yX8_around cX8_around 3 (some .int) rm_X8_around [.int p0, .int p1] M (some (.int (fn_X8_around p0 p1))) M := by
  generalize h : fn_X8_around p0 p1 = z
  refine ct_intro (own := RX8) (L := [(0, .int p0), (1, .int p1)]) (by decide +kernel) rfl (Nat.le_of_ble_eq_true rfl) rfl ?_
  intro p e s m args below meth c Q hQ cx hnm
  unfold fn_X8_around at h
  refine q_iload_n cx (pc' := 1) 0 rfl dX8_around_0 rfl ?_
  refine q_iconst cx (pc' := 2) ki_4 dX8_around_1 rfl ?_
  refine q_ishl cx (pc' := 3) dX8_around_2 rfl ?_
  refine q_iload_n cx (pc' := 4) 0 rfl dX8_around_3 rfl ?_
  refine q_iconst cx (pc' := 5) ki_4 dX8_around_4 rfl ?_
  refine q_iushr cx (pc' := 6) dX8_around_5 rfl ?_
  refine q_ior cx (pc' := 7) dX8_around_6 rfl ?_
  refine q_iload_n cx (pc' := 8) 0 rfl dX8_around_7 rfl ?_
  refine q_ldcw cx (pc' := 11) aw_73 dX8_around_8 rfl ?_
  refine q_iand cx (pc' := 12) dX8_around_11 rfl ?_
  refine q_iconst cx (pc' := 13) ki_1 dX8_around_12 rfl ?_
  refine q_ishl cx (pc' := 14) dX8_around_13 rfl ?_
  refine q_ior cx (pc' := 15) dX8_around_14 rfl ?_
  refine q_iload_n cx (pc' := 16) 0 rfl dX8_around_15 rfl ?_
  refine q_sipush cx (pc' := 19) ks_m4370 dX8_around_16 rfl ?_
  refine q_iand cx (pc' := 20) dX8_around_19 rfl ?_
  refine q_iconst cx (pc' := 21) ki_1 dX8_around_20 rfl ?_
  refine q_iushr cx (pc' := 22) dX8_around_21 rfl ?_
  refine q_ior cx (pc' := 23) dX8_around_22 rfl ?_
  obtain ⟨v2_23, ev2_23, h⟩ := nm_i h
  refine q_istore_n cx (pc' := 24) rfl ev2_23 (by decide) (L' := [(2, .int v2_23), (0, .int p0), (1, .int p1)]) rfl dX8_around_23 rfl ?_
  refine q_iload_n cx (pc' := 25) 2 rfl dX8_around_24 rfl ?_
  refine q_if_eq cx (pc' := 28) (tgt := 56) dX8_around_25 (by decide) rfl (fun c25 => ?_) (fun c25 => ?_)
  · replace h := ip c25 h
    refine q_iload_n cx (pc' := 57) 0 rfl dX8_around_56 rfl ?_
    refine q_ldc cx (pc' := 59) aw_74 dX8_around_57 rfl ?_
    refine q_iand cx (pc' := 60) dX8_around_59 rfl ?_
    subst h
    rw [hQ]
    exact q_iret cx dX8_around_60
  · replace h := ine c25 h
    refine q_iload_n cx (pc' := 29) 0 rfl dX8_around_28 rfl ?_
    refine q_iload_n cx (pc' := 30) 1 rfl dX8_around_29 rfl ?_
    refine q_bipush cx (pc' := 32) kb_8 dX8_around_30 rfl ?_
    refine q_ishl cx (pc' := 33) dX8_around_32 rfl ?_
    refine q_iload_n cx (pc' := 34) 1 rfl dX8_around_33 rfl ?_
    refine q_bipush cx (pc' := 36) kb_8 dX8_around_34 rfl ?_
    refine q_iushr cx (pc' := 37) dX8_around_36 rfl ?_
    refine q_ior cx (pc' := 38) dX8_around_37 rfl ?_
    refine q_iload_n cx (pc' := 39) 1 rfl dX8_around_38 rfl ?_
    refine q_sipush cx (pc' := 42) ks_13107 dX8_around_39 rfl ?_
    refine q_iand cx (pc' := 43) dX8_around_42 rfl ?_
    refine q_iconst cx (pc' := 44) ki_2 dX8_around_43 rfl ?_
    refine q_ishl cx (pc' := 45) dX8_around_44 rfl ?_
    refine q_ior cx (pc' := 46) dX8_around_45 rfl ?_
    refine q_iload_n cx (pc' := 47) 1 rfl dX8_around_46 rfl ?_
    refine q_ldcw cx (pc' := 50) aw_75 dX8_around_47 rfl ?_
    refine q_iand cx (pc' := 51) dX8_around_50 rfl ?_
    refine q_iconst cx (pc' := 52) ki_2 dX8_around_51 rfl ?_
    refine q_iushr cx (pc' := 53) dX8_around_52 rfl ?_
    refine q_ior cx (pc' := 54) dX8_around_53 rfl ?_
    refine q_ior cx (pc' := 55) dX8_around_54 rfl ?_
    obtain ⟨v2_55, ev2_55, h⟩ := nm_i h
    refine q_istore_n cx (pc' := 56) rfl ev2_55 (by decide) (L' := [(2, .int v2_55), (0, .int p0), (1, .int p1)]) rfl dX8_around_55 rfl ?_
    refine q_iload_n cx (pc' := 57) 0 rfl dX8_around_56 rfl ?_
    refine q_ldc cx (pc' := 59) aw_74 dX8_around_57 rfl ?_
    refine q_iand cx (pc' := 60) dX8_around_59 rfl ?_
    subst h
    rw [hQ]
    exact q_iret cx dX8_around_60

abbrev rm_X8_fewest : Room := { frames := 2, cells := 0, slots := 0, locals := 62 }
def lp_X8_fewest_12 (p1 : Int32) (p2 : Int32) (p3 : Int32) (w4_12 : Int32) (w5_12 : Int32) (w6_12 : Int32) : Option ((Int32 × Int32 × Int32) ⊕ (Int32)) :=
  if 16 ≤ w6_12 then
    some (.inr (-5))
  else
    if w5_12 = 0 then
      some (.inr (-5))
    else
      if (w5_12 &&& p1) = 0 then
        nm (((fn_X8_around w5_12 p3) &&& p2) &&& (w4_12 ^^^ (-1))) fun v5_47 =>
        nm (w4_12 ||| v5_47) fun v4_54 =>
        nm (w6_12 + 1) fun v6_56 =>
        some (.inl (v4_54, v5_47, v6_56))
      else
        some (.inr w6_12)
def fn_X8_fewest (p0 : Int32) (p1 : Int32) (p2 : Int32) (p3 : Int32) : Option Int32 :=
  nm (p0 &&& p2) fun v4_3 =>
  bnd (itr (fun s12 : Int32 × Int32 × Int32 => lp_X8_fewest_12 p1 p2 p3 s12.1 s12.2.1 s12.2.2) FU (v4_3, v4_3, 0)) fun re_12 =>
  some re_12
set_option maxRecDepth 100000 in
set_option maxHeartbeats 4000000 in
theorem ct_X8_fewest (Γ : GT) (l : Launch) (M : QM) (p0 : Int32) (p1 : Int32) (p2 : Int32) (p3 : Int32) (z : Int32) (h : fn_X8_fewest p0 p1 p2 p3 = some z) : CT Γ l yX8_fewest cX8_fewest 7 (some .int) rm_X8_fewest [.int p0, .int p1, .int p2, .int p3] M (some (.int z)) M := by
  refine ct_intro (own := RX8) (L := [(0, .int p0), (1, .int p1), (2, .int p2), (3, .int p3)]) (by decide +kernel) rfl (Nat.le_of_ble_eq_true rfl) rfl ?_
  intro p e s m args below meth c Q hQ cx hnm
  unfold fn_X8_fewest at h
  refine q_iload_n cx (pc' := 1) 0 rfl dX8_fewest_0 rfl ?_
  refine q_iload_n cx (pc' := 2) 2 rfl dX8_fewest_1 rfl ?_
  refine q_iand cx (pc' := 3) dX8_fewest_2 rfl ?_
  obtain ⟨v4_3, ev4_3, h⟩ := nm_i h
  refine q_istore cx (pc' := 5) ev4_3 (by decide) (L' := [(4, .int v4_3), (0, .int p0), (1, .int p1), (2, .int p2), (3, .int p3)]) rfl dX8_fewest_3 rfl ?_
  refine q_iload cx (pc' := 7) 0 rfl dX8_fewest_5 rfl ?_
  refine q_istore cx (pc' := 9) rfl (by decide) (L' := [(5, .int v4_3), (4, .int v4_3), (0, .int p0), (1, .int p1), (2, .int p2), (3, .int p3)]) rfl dX8_fewest_7 rfl ?_
  refine q_iconst cx (pc' := 10) ki_0 dX8_fewest_9 rfl ?_
  refine q_istore cx (pc' := 12) rfl (by decide) (L' := [(6, .int 0), (5, .int v4_3), (4, .int v4_3), (0, .int p0), (1, .int p1), (2, .int p2), (3, .int p3)]) rfl dX8_fewest_10 rfl ?_
  obtain ⟨r12, hL12, h⟩ := bnd_i h
  have hk12_r : ∀ (re_12 : Int32), re_12 = r12 → some re_12 = some z := by
    intro re_12 hp
    subst hp
    exact h
  have key12 : ∀ (n : Nat) (w4_12 : Int32) (w5_12 : Int32) (w6_12 : Int32), itr (fun s12 : Int32 × Int32 × Int32 => lp_X8_fewest_12 p1 p2 p3 s12.1 s12.2.1 s12.2.2) n (w4_12, w5_12, w6_12) = some r12 → EE p l e rm_X8_fewest s m args below meth c Q Γ 7 0 0 12 [(1, .int p1), (2, .int p2), (3, .int p3), (4, .int w4_12), (5, .int w5_12), (6, .int w6_12)] [] M := by
    intro n
    induction n with
    | zero => intro _ _ _ h; exact (itr_0 h).elim
    | succ n ih =>
      intro w4_12 w5_12 w6_12 h
      obtain ⟨z12, h, hz12⟩ := itr_i h
      replace h : lp_X8_fewest_12 p1 p2 p3 w4_12 w5_12 w6_12 = some z12 := h
      unfold lp_X8_fewest_12 at h
      refine q_iload cx (pc' := 14) 5 rfl dX8_fewest_12 rfl ?_
      refine q_bipush cx (pc' := 16) kb_16 dX8_fewest_14 rfl ?_
      refine q_icmp_ge cx (pc' := 19) (tgt := 62) dX8_fewest_16 (by decide) rfl (fun c16 => ?_) (fun c16 => ?_)
      · replace h := ip c16 h
        refine q_bipush cx (pc' := 64) kb_m5 dX8_fewest_62 rfl ?_
        replace h := hk12_r _ (hz12.2 _ h)
        obtain rfl := o1_i h
        rw [hQ]
        exact q_iret cx dX8_fewest_64
      · replace h := ine c16 h
        refine q_iload cx (pc' := 21) 4 rfl dX8_fewest_19 rfl ?_
        refine q_if_eq cx (pc' := 24) (tgt := 62) dX8_fewest_21 (by decide) rfl (fun c21 => ?_) (fun c21 => ?_)
        · replace h := ip c21 h
          refine q_bipush cx (pc' := 64) kb_m5 dX8_fewest_62 rfl ?_
          replace h := hk12_r _ (hz12.2 _ h)
          obtain rfl := o1_i h
          rw [hQ]
          exact q_iret cx dX8_fewest_64
        · replace h := ine c21 h
          refine q_iload cx (pc' := 26) 4 rfl dX8_fewest_24 rfl ?_
          refine q_iload_n cx (pc' := 27) 0 rfl dX8_fewest_26 rfl ?_
          refine q_iand cx (pc' := 28) dX8_fewest_27 rfl ?_
          refine q_if_eq cx (pc' := 31) (tgt := 34) dX8_fewest_28 (by decide) rfl (fun c28 => ?_) (fun c28 => ?_)
          · replace h := ip c28 h
            refine q_iload cx (pc' := 36) 4 rfl dX8_fewest_34 rfl ?_
            refine q_iload_n cx (pc' := 37) 2 rfl dX8_fewest_36 rfl ?_
            refine q_callS cx (pc' := 40) (S := []) (S1 := [.int (fn_X8_around w5_12 p3)]) (kc' := 0) (ks' := 0) (ct_X8_around Γ l M w5_12 p3) lki_X8_around lkv_X8_around lkc_X8_138 rfl rfl (Nat.le_of_ble_eq_true rfl) ⟨(Nat.le_of_ble_eq_true rfl), (Nat.le_of_ble_eq_true rfl)⟩ ⟨(Nat.le_of_ble_eq_true rfl), (Nat.le_of_ble_eq_true rfl)⟩ dX8_fewest_37 rfl rfl rfl ?_
            refine q_iload_n cx (pc' := 41) 1 rfl dX8_fewest_40 rfl ?_
            refine q_iand cx (pc' := 42) dX8_fewest_41 rfl ?_
            refine q_iload cx (pc' := 44) 3 rfl dX8_fewest_42 rfl ?_
            refine q_iconst cx (pc' := 45) ki_m1 dX8_fewest_44 rfl ?_
            refine q_ixor cx (pc' := 46) dX8_fewest_45 rfl ?_
            refine q_iand cx (pc' := 47) dX8_fewest_46 rfl ?_
            obtain ⟨v5_47, ev5_47, h⟩ := nm_i h
            refine q_istore cx (pc' := 49) ev5_47 (by decide) (L' := [(5, .int v5_47), (1, .int p1), (2, .int p2), (3, .int p3), (4, .int w4_12), (6, .int w6_12)]) rfl dX8_fewest_47 rfl ?_
            refine q_iload cx (pc' := 51) 4 rfl dX8_fewest_49 rfl ?_
            refine q_iload cx (pc' := 53) 0 rfl dX8_fewest_51 rfl ?_
            refine q_ior cx (pc' := 54) dX8_fewest_53 rfl ?_
            obtain ⟨v4_54, ev4_54, h⟩ := nm_i h
            refine q_istore cx (pc' := 56) ev4_54 (by decide) (L' := [(4, .int v4_54), (5, .int v5_47), (1, .int p1), (2, .int p2), (3, .int p3), (6, .int w6_12)]) rfl dX8_fewest_54 rfl ?_
            obtain ⟨v6_56, ev6_56, h⟩ := nm_i h
            refine q_iinc cx (pc' := 59) 5 rfl ki_1 ev6_56 (by decide) (L' := [(6, .int v6_56), (4, .int v4_54), (5, .int v5_47), (1, .int p1), (2, .int p2), (3, .int p3)]) rfl dX8_fewest_56 rfl ?_
            refine q_goto cx dX8_fewest_59 (tgt := 12) (by decide) ?_
            refine q_sub cx [3, 4, 5, 1, 2, 0] rfl ?_
            exact ih _ _ _ (hz12.1 _ h)
          · replace h := ine c28 h
            refine q_iload cx (pc' := 33) 5 rfl dX8_fewest_31 rfl ?_
            replace h := hk12_r _ (hz12.2 _ h)
            obtain rfl := o1_i h
            rw [hQ]
            exact q_iret cx dX8_fewest_33
  refine q_sub cx [4, 5, 6, 2, 1, 0] rfl ?_
  exact key12 FU _ _ _ hL12

abbrev rm_X7_crossing : Room := { frames := 4, cells := 0, slots := 0, locals := 127 }
def fn_X7_crossing (M : QM) (ths : Nat) (p1 : Nat) (p2 : Int32) : Option Int32 :=
  bnd (fn_X7_bearers M ths p1 p2) fun c8 =>
  bnd (fn_X7_leaps M ths) fun c12 =>
  bnd (fn_X8_fewest 4369 34952 c8 c12) fun c15 =>
  some c15
set_option maxRecDepth 100000 in
set_option maxHeartbeats 4000000 in
theorem ct_X7_crossing (Γ : GT) (l : Launch) (M : QM) (ths : Nat) (p1 : Nat) (p2 : Int32) (ht0 : mt M ths = 7) (z : Int32) (h : fn_X7_crossing M ths p1 p2 = some z) : CT Γ l yX7_crossing cX7_crossing 3 (some .int) rm_X7_crossing (.ref ths :: [.ref p1, .int p2]) M (some (.int z)) M := by
  refine ct_intro (own := RX7) (L := [(0, .ref ths), (1, .ref p1), (2, .int p2)]) (by decide +kernel) rfl (Nat.le_of_ble_eq_true rfl) rfl ?_
  intro p e s m args below meth c Q hQ cx hnm
  unfold fn_X7_crossing at h
  refine q_sipush cx (pc' := 3) ks_4369 dX7_crossing_0 rfl ?_
  refine q_ldc cx (pc' := 5) aw_76 dX7_crossing_3 rfl ?_
  refine q_aload_n cx (pc' := 6) 0 rfl dX7_crossing_5 rfl ?_
  refine q_aload_n cx (pc' := 7) 1 rfl dX7_crossing_6 rfl ?_
  refine q_iload_n cx (pc' := 8) 2 rfl dX7_crossing_7 rfl ?_
  obtain ⟨c8, hc8, h⟩ := bnd_i h
  refine q_callV cx (pc' := 11) (S := [.int 34952, .int 4369]) (S1 := [.int c8, .int 34952, .int 4369]) (kc' := 0) (ks' := 0) 7 (ct_X7_bearers Γ l M ths p1 p2 ht0 _ hc8) lki_X7_bearers lkv_X7_bearers lkc_X7_47 ht0 (r := (RX7, TX7, 4)) ⟨rfl, by decide, rfl⟩ rfl rfl (Nat.le_of_ble_eq_true rfl) ⟨(Nat.le_of_ble_eq_true rfl), (Nat.le_of_ble_eq_true rfl)⟩ ⟨(Nat.le_of_ble_eq_true rfl), (Nat.le_of_ble_eq_true rfl)⟩ dX7_crossing_8 rfl rfl rfl ?_
  refine q_aload_n cx (pc' := 12) 0 rfl dX7_crossing_11 rfl ?_
  obtain ⟨c12, hc12, h⟩ := bnd_i h
  refine q_callV cx (pc' := 15) (S := [.int c8, .int 34952, .int 4369]) (S1 := [.int c12, .int c8, .int 34952, .int 4369]) (kc' := 0) (ks' := 0) 7 (ct_X7_leaps Γ l M ths ht0 _ hc12) lki_X7_leaps lkv_X7_leaps lkc_X7_51 ht0 (r := (RX7, TX7, 4)) ⟨rfl, by decide, rfl⟩ rfl rfl (Nat.le_of_ble_eq_true rfl) ⟨(Nat.le_of_ble_eq_true rfl), (Nat.le_of_ble_eq_true rfl)⟩ ⟨(Nat.le_of_ble_eq_true rfl), (Nat.le_of_ble_eq_true rfl)⟩ dX7_crossing_12 rfl rfl rfl ?_
  obtain ⟨c15, hc15, h⟩ := bnd_i h
  refine q_callS cx (pc' := 18) (S := []) (S1 := [.int c15]) (kc' := 0) (ks' := 0) (ct_X8_fewest Γ l M 4369 34952 c8 c12 _ hc15) lki_X8_fewest lkv_X8_fewest lkc_X7_55 rfl rfl (Nat.le_of_ble_eq_true rfl) ⟨(Nat.le_of_ble_eq_true rfl), (Nat.le_of_ble_eq_true rfl)⟩ ⟨(Nat.le_of_ble_eq_true rfl), (Nat.le_of_ble_eq_true rfl)⟩ dX7_crossing_15 rfl rfl rfl ?_
  obtain rfl := o1_i h
  rw [hQ]
  exact q_iret cx dX7_crossing_18

abbrev rm_X8_rowOf : Room := { frames := 1, cells := 0, slots := 0, locals := 40 }
def fn_X8_rowOf (p0 : Int32) : Int32 :=
  (p0 / 4)
set_option maxRecDepth 100000 in
set_option maxHeartbeats 4000000 in
theorem ct_X8_rowOf (Γ : GT) (l : Launch) (M : QM) (p0 : Int32) : CT Γ l yX8_rowOf cX8_rowOf 1 (some .int) rm_X8_rowOf [.int p0] M (some (.int (fn_X8_rowOf p0))) M := by
  generalize h : fn_X8_rowOf p0 = z
  refine ct_intro (own := RX8) (L := [(0, .int p0)]) (by decide +kernel) rfl (Nat.le_of_ble_eq_true rfl) rfl ?_
  intro p e s m args below meth c Q hQ cx hnm
  unfold fn_X8_rowOf at h
  refine q_iload_n cx (pc' := 1) 0 rfl dX8_rowOf_0 rfl ?_
  refine q_iconst cx (pc' := 2) ki_4 dX8_rowOf_1 rfl ?_
  refine q_idiv cx (pc' := 3) (by decide) dX8_rowOf_2 rfl ?_
  subst h
  rw [hQ]
  exact q_iret cx dX8_rowOf_3

abbrev rm_X1_growthOf : Room := { frames := 1, cells := 0, slots := 0, locals := 40 }
def fn_X1_growthOf (M : QM) (ths : Nat) (p1 : Int32) (p2 : Int32) (p3 : Int32) : Option Int32 :=
  gR M ths 1 0 fun r1 =>
  aI M 20 r1 (((((p3 - p3 / 10 * 10) * 10) + (p2 / 10)) * 16) + p1) fun x21 =>
  some x21
set_option maxRecDepth 100000 in
set_option maxHeartbeats 4000000 in
theorem ct_X1_growthOf (Γ : GT) (l : Launch) (M : QM) (ths : Nat) (p1 : Int32) (p2 : Int32) (p3 : Int32) (ht0 : mt M ths = 1) (z : Int32) (h : fn_X1_growthOf M ths p1 p2 p3 = some z) : CT Γ l yX1_growthOf cX1_growthOf 4 (some .int) rm_X1_growthOf (.ref ths :: [.int p1, .int p2, .int p3]) M (some (.int z)) M := by
  refine ct_intro (own := RX1) (L := [(0, .ref ths), (1, .int p1), (2, .int p2), (3, .int p3)]) (by decide +kernel) rfl (Nat.le_of_ble_eq_true rfl) rfl ?_
  intro p e s m args below meth c Q hQ cx hnm
  unfold fn_X1_growthOf at h
  refine q_aload_n cx (pc' := 1) 0 rfl dX1_growthOf_0 rfl ?_
  obtain ⟨ht1, r1, ex1, h⟩ := gR_i h
  refine q_gR cx (pc' := 4) 1 0 fl_X1_9 rfl ht1 ex1 dX1_growthOf_1 rfl ?_
  refine q_iload_n cx (pc' := 5) 3 rfl dX1_growthOf_4 rfl ?_
  refine q_bipush cx (pc' := 7) kb_10 dX1_growthOf_5 rfl ?_
  refine q_irem cx (pc' := 8) (by decide) dX1_growthOf_7 rfl ?_
  refine q_bipush cx (pc' := 10) kb_10 dX1_growthOf_8 rfl ?_
  refine q_imul cx (pc' := 11) dX1_growthOf_10 rfl ?_
  refine q_iload_n cx (pc' := 12) 2 rfl dX1_growthOf_11 rfl ?_
  refine q_bipush cx (pc' := 14) kb_10 dX1_growthOf_12 rfl ?_
  refine q_idiv cx (pc' := 15) (by decide) dX1_growthOf_14 rfl ?_
  refine q_iadd cx (pc' := 16) dX1_growthOf_15 rfl ?_
  refine q_bipush cx (pc' := 18) kb_16 dX1_growthOf_16 rfl ?_
  refine q_imul cx (pc' := 19) dX1_growthOf_18 rfl ?_
  refine q_iload_n cx (pc' := 20) 1 rfl dX1_growthOf_19 rfl ?_
  refine q_iadd cx (pc' := 21) dX1_growthOf_20 rfl ?_
  obtain ⟨ht21, hi21, x21, ex21, h⟩ := aI_i h
  refine q_iald cx (pc' := 22) ht21 hi21 ex21 dX1_growthOf_21 rfl ?_
  obtain rfl := o1_i h
  rw [hQ]
  exact q_iret cx dX1_growthOf_22

abbrev rm_X5_borneOnAll : Room := { frames := 4, cells := 0, slots := 0, locals := 127 }
def lp_X5_borneOnAll_4 (M : QM) (ths : Nat) (p1 : Int32) (w2_4 : Int32) (w3_4 : Int32) : Option ((Int32 × Int32) ⊕ (Int32)) :=
  gI M ths 5 2 fun x6 =>
  if x6 ≤ w3_4 then
    some (.inr w2_4)
  else
    gR M ths 5 1 fun r14 =>
    aR M 26 r14 w3_4 fun r18 =>
    gR M ths 5 0 fun r20 =>
    gR M ths 5 7 fun r24 =>
    gI M r24 1 1 fun x27 =>
    ck M r18 7 <|
    bnd (fn_X7_bearers M r18 r20 x27) fun c30 =>
    if (p1 &&& (c30 ^^^ (-1))) = 0 then
      nm (w2_4 ||| (1 <<< (w3_4 &&& 31))) fun v2_44 =>
      nm (w3_4 + 1) fun v3_45 =>
      some (.inl (v2_44, v3_45))
    else
      nm (w3_4 + 1) fun v3_45 =>
      some (.inl (w2_4, v3_45))
def fn_X5_borneOnAll (M : QM) (ths : Nat) (p1 : Int32) : Option Int32 :=
  bnd (itr (fun s4 : Int32 × Int32 => lp_X5_borneOnAll_4 M ths p1 s4.1 s4.2) FU (0, 0)) fun re_4 =>
  some re_4
set_option maxRecDepth 100000 in
set_option maxHeartbeats 4000000 in
theorem ct_X5_borneOnAll (Γ : GT) (l : Launch) (M : QM) (ths : Nat) (p1 : Int32) (ht0 : mt M ths = 5) (z : Int32) (h : fn_X5_borneOnAll M ths p1 = some z) : CT Γ l yX5_borneOnAll cX5_borneOnAll 4 (some .int) rm_X5_borneOnAll (.ref ths :: [.int p1]) M (some (.int z)) M := by
  refine ct_intro (own := RX5) (L := [(0, .ref ths), (1, .int p1)]) (by decide +kernel) rfl (Nat.le_of_ble_eq_true rfl) rfl ?_
  intro p e s m args below meth c Q hQ cx hnm
  unfold fn_X5_borneOnAll at h
  refine q_iconst cx (pc' := 1) ki_0 dX5_borneOnAll_0 rfl ?_
  refine q_istore_n cx (pc' := 2) rfl rfl (by decide) (L' := [(2, .int 0), (0, .ref ths), (1, .int p1)]) rfl dX5_borneOnAll_1 rfl ?_
  refine q_iconst cx (pc' := 3) ki_0 dX5_borneOnAll_2 rfl ?_
  refine q_istore_n cx (pc' := 4) rfl rfl (by decide) (L' := [(3, .int 0), (2, .int 0), (0, .ref ths), (1, .int p1)]) rfl dX5_borneOnAll_3 rfl ?_
  obtain ⟨r4, hL4, h⟩ := bnd_i h
  have hk4_r : ∀ (re_4 : Int32), re_4 = r4 → some re_4 = some z := by
    intro re_4 hp
    subst hp
    exact h
  have key4 : ∀ (n : Nat) (w2_4 : Int32) (w3_4 : Int32), itr (fun s4 : Int32 × Int32 => lp_X5_borneOnAll_4 M ths p1 s4.1 s4.2) n (w2_4, w3_4) = some r4 → EE p l e rm_X5_borneOnAll s m args below meth c Q Γ 4 0 0 4 [(0, .ref ths), (1, .int p1), (2, .int w2_4), (3, .int w3_4)] [] M := by
    intro n
    induction n with
    | zero => intro _ _ h; exact (itr_0 h).elim
    | succ n ih =>
      intro w2_4 w3_4 h
      obtain ⟨z4, h, hz4⟩ := itr_i h
      replace h : lp_X5_borneOnAll_4 M ths p1 w2_4 w3_4 = some z4 := h
      unfold lp_X5_borneOnAll_4 at h
      refine q_iload_n cx (pc' := 5) 3 rfl dX5_borneOnAll_4 rfl ?_
      refine q_aload_n cx (pc' := 6) 0 rfl dX5_borneOnAll_5 rfl ?_
      obtain ⟨ht6, x6, ex6, h⟩ := gI_i h
      refine q_gI cx (pc' := 9) 5 2 fl_X5_44 rfl ht6 ex6 dX5_borneOnAll_6 rfl ?_
      refine q_icmp_ge cx (pc' := 12) (tgt := 51) dX5_borneOnAll_9 (by decide) rfl (fun c9 => ?_) (fun c9 => ?_)
      · replace h := ip c9 h
        refine q_iload_n cx (pc' := 52) 2 rfl dX5_borneOnAll_51 rfl ?_
        replace h := hk4_r _ (hz4.2 _ h)
        obtain rfl := o1_i h
        rw [hQ]
        exact q_iret cx dX5_borneOnAll_52
      · replace h := ine c9 h
        refine q_iload_n cx (pc' := 13) 1 rfl dX5_borneOnAll_12 rfl ?_
        refine q_aload_n cx (pc' := 14) 0 rfl dX5_borneOnAll_13 rfl ?_
        obtain ⟨ht14, r14, ex14, h⟩ := gR_i h
        refine q_gR cx (pc' := 17) 5 1 fl_X5_20 rfl ht14 ex14 dX5_borneOnAll_14 rfl ?_
        refine q_iload_n cx (pc' := 18) 3 rfl dX5_borneOnAll_17 rfl ?_
        obtain ⟨ht18, hi18, r18, ex18, h⟩ := aR_i h
        refine q_aald6 cx (pc' := 19) ht18 hi18 ex18 dX5_borneOnAll_18 rfl ?_
        refine q_aload_n cx (pc' := 20) 0 rfl dX5_borneOnAll_19 rfl ?_
        obtain ⟨ht20, r20, ex20, h⟩ := gR_i h
        refine q_gR cx (pc' := 23) 5 0 fl_X5_12 rfl ht20 ex20 dX5_borneOnAll_20 rfl ?_
        refine q_aload_n cx (pc' := 24) 0 rfl dX5_borneOnAll_23 rfl ?_
        obtain ⟨ht24, r24, ex24, h⟩ := gR_i h
        refine q_gR cx (pc' := 27) 5 7 fl_X5_58 rfl ht24 ex24 dX5_borneOnAll_24 rfl ?_
        obtain ⟨ht27, x27, ex27, h⟩ := gI_i h
        refine q_gI cx (pc' := 30) 1 1 fl_X5_66 rfl ht27 ex27 dX5_borneOnAll_27 rfl ?_
        obtain ⟨hk30, h⟩ := ck_i h
        obtain ⟨c30, hc30, h⟩ := bnd_i h
        refine q_callV cx (pc' := 33) (S := [.int p1]) (S1 := [.int c30, .int p1]) (kc' := 0) (ks' := 0) 7 (ct_X7_bearers Γ l M r18 r20 x27 hk30 _ hc30) lki_X7_bearers lkv_X7_bearers lkc_X5_75 hk30 (r := (RX7, TX7, 4)) ⟨rfl, by decide, rfl⟩ rfl rfl (Nat.le_of_ble_eq_true rfl) ⟨(Nat.le_of_ble_eq_true rfl), (Nat.le_of_ble_eq_true rfl)⟩ ⟨(Nat.le_of_ble_eq_true rfl), (Nat.le_of_ble_eq_true rfl)⟩ dX5_borneOnAll_30 rfl rfl rfl ?_
        refine q_iconst cx (pc' := 34) ki_m1 dX5_borneOnAll_33 rfl ?_
        refine q_ixor cx (pc' := 35) dX5_borneOnAll_34 rfl ?_
        refine q_iand cx (pc' := 36) dX5_borneOnAll_35 rfl ?_
        refine q_if_ne cx (pc' := 39) (tgt := 45) dX5_borneOnAll_36 (by decide) rfl (fun c36 => ?_) (fun c36 => ?_)
        · replace h := ine c36 h
          obtain ⟨v3_45, ev3_45, h⟩ := nm_i h
          refine q_iinc cx (pc' := 48) 3 rfl ki_1 ev3_45 (by decide) (L' := [(3, .int v3_45), (0, .ref ths), (1, .int p1), (2, .int w2_4)]) rfl dX5_borneOnAll_45 rfl ?_
          refine q_goto cx dX5_borneOnAll_48 (tgt := 4) (by decide) ?_
          refine q_sub cx [1, 2, 3, 0] rfl ?_
          exact ih _ _ (hz4.1 _ h)
        · replace h := ip c36 h
          refine q_iload_n cx (pc' := 40) 2 rfl dX5_borneOnAll_39 rfl ?_
          refine q_iconst cx (pc' := 41) ki_1 dX5_borneOnAll_40 rfl ?_
          refine q_iload_n cx (pc' := 42) 3 rfl dX5_borneOnAll_41 rfl ?_
          refine q_ishl cx (pc' := 43) dX5_borneOnAll_42 rfl ?_
          refine q_ior cx (pc' := 44) dX5_borneOnAll_43 rfl ?_
          obtain ⟨v2_44, ev2_44, h⟩ := nm_i h
          refine q_istore_n cx (pc' := 45) rfl ev2_44 (by decide) (L' := [(2, .int v2_44), (0, .ref ths), (1, .int p1), (3, .int w3_4)]) rfl dX5_borneOnAll_44 rfl ?_
          obtain ⟨v3_45, ev3_45, h⟩ := nm_i h
          refine q_iinc cx (pc' := 48) 3 rfl ki_1 ev3_45 (by decide) (L' := [(3, .int v3_45), (2, .int v2_44), (0, .ref ths), (1, .int p1)]) rfl dX5_borneOnAll_45 rfl ?_
          refine q_goto cx dX5_borneOnAll_48 (tgt := 4) (by decide) ?_
          refine q_sub cx [2, 3, 1, 0] rfl ?_
          exact ih _ _ (hz4.1 _ h)
  refine q_sub cx [2, 3, 1, 0] rfl ?_
  exact key4 FU _ _ hL4

abbrev rm_X2_pour : Room := { frames := 2, cells := 0, slots := 0, locals := 80 }
def fn_X2_pour (M : QM) (ths : Nat) (p1 : Int32) (p2 : Int32) : Option QM :=
  gR M ths 2 0 fun r1 =>
  gR M ths 2 0 fun r7 =>
  aI M 20 r7 p1 fun x11 =>
  wI M 20 r1 p1 (imm_max 0 (x11 - p2)) fun M17 =>
  some M17
set_option maxRecDepth 100000 in
set_option maxHeartbeats 4000000 in
theorem ct_X2_pour (Γ : GT) (l : Launch) (M : QM) (ths : Nat) (p1 : Int32) (p2 : Int32) (ht0 : mt M ths = 2) (M' : QM) (h : fn_X2_pour M ths p1 p2 = some M') : CT Γ l yX2_pour cX2_pour 3 none rm_X2_pour (.ref ths :: [.int p1, .int p2]) M none M' := by
  refine ct_intro (own := RX2) (L := [(0, .ref ths), (1, .int p1), (2, .int p2)]) (by decide +kernel) rfl (Nat.le_of_ble_eq_true rfl) rfl ?_
  intro p e s m args below meth c Q hQ cx hnm
  unfold fn_X2_pour at h
  refine q_aload_n cx (pc' := 1) 0 rfl dX2_pour_0 rfl ?_
  obtain ⟨ht1, r1, ex1, h⟩ := gR_i h
  refine q_gR cx (pc' := 4) 2 0 fl_X2_9 rfl ht1 ex1 dX2_pour_1 rfl ?_
  refine q_iload_n cx (pc' := 5) 1 rfl dX2_pour_4 rfl ?_
  refine q_iconst cx (pc' := 6) ki_0 dX2_pour_5 rfl ?_
  refine q_aload_n cx (pc' := 7) 0 rfl dX2_pour_6 rfl ?_
  obtain ⟨ht7, r7, ex7, h⟩ := gR_i h
  refine q_gR cx (pc' := 10) 2 0 fl_X2_9 rfl ht7 ex7 dX2_pour_7 rfl ?_
  refine q_iload_n cx (pc' := 11) 1 rfl dX2_pour_10 rfl ?_
  obtain ⟨ht11, hi11, x11, ex11, h⟩ := aI_i h
  refine q_iald cx (pc' := 12) ht11 hi11 ex11 dX2_pour_11 rfl ?_
  refine q_iload_n cx (pc' := 13) 2 rfl dX2_pour_12 rfl ?_
  refine q_isub cx (pc' := 14) dX2_pour_13 rfl ?_
  refine q_mmax cx (pc' := 17) aw_77 ⟨aw_70, aw_71, aw_72⟩ ⟨(Nat.le_of_ble_eq_true rfl), (Nat.le_of_ble_eq_true rfl), (Nat.le_of_ble_eq_true rfl), (Nat.le_of_ble_eq_true rfl)⟩ (Nat.le_of_ble_eq_true rfl) dX2_pour_14 rfl ?_
  obtain ⟨ht17, hi17, M17, eM17, h⟩ := wI_i h
  refine q_iast cx (pc' := 18) ht17 hi17 eM17 dX2_pour_17 rfl ?_
  obtain rfl := o1_i h
  rw [hQ]
  exact q_vret cx dX2_pour_18

abbrev rm_X2_swap : Room := { frames := 1, cells := 0, slots := 0, locals := 40 }
def fn_X2_swap (M : QM) (ths : Nat) (p1 : Int32) (p2 : Int32) : Option QM :=
  gR M ths 2 0 fun r1 =>
  aI M 20 r1 p1 fun x5 =>
  gR M ths 2 0 fun r8 =>
  gR M ths 2 0 fun r13 =>
  aI M 20 r13 p2 fun x17 =>
  wI M 20 r8 p1 x17 fun M18 =>
  gR M18 ths 2 0 fun r20 =>
  wI M18 20 r20 p2 x5 fun M25 =>
  some M25
set_option maxRecDepth 100000 in
set_option maxHeartbeats 4000000 in
theorem ct_X2_swap (Γ : GT) (l : Launch) (M : QM) (ths : Nat) (p1 : Int32) (p2 : Int32) (ht0 : mt M ths = 2) (M' : QM) (h : fn_X2_swap M ths p1 p2 = some M') : CT Γ l yX2_swap cX2_swap 4 none rm_X2_swap (.ref ths :: [.int p1, .int p2]) M none M' := by
  refine ct_intro (own := RX2) (L := [(0, .ref ths), (1, .int p1), (2, .int p2)]) (by decide +kernel) rfl (Nat.le_of_ble_eq_true rfl) rfl ?_
  intro p e s m args below meth c Q hQ cx hnm
  unfold fn_X2_swap at h
  refine q_aload_n cx (pc' := 1) 0 rfl dX2_swap_0 rfl ?_
  obtain ⟨ht1, r1, ex1, h⟩ := gR_i h
  refine q_gR cx (pc' := 4) 2 0 fl_X2_9 rfl ht1 ex1 dX2_swap_1 rfl ?_
  refine q_iload_n cx (pc' := 5) 1 rfl dX2_swap_4 rfl ?_
  obtain ⟨ht5, hi5, x5, ex5, h⟩ := aI_i h
  refine q_iald cx (pc' := 6) ht5 hi5 ex5 dX2_swap_5 rfl ?_
  refine q_istore_n cx (pc' := 7) rfl rfl (by decide) (L' := [(3, .int x5), (0, .ref ths), (1, .int p1), (2, .int p2)]) rfl dX2_swap_6 rfl ?_
  refine q_aload_n cx (pc' := 8) 1 rfl dX2_swap_7 rfl ?_
  obtain ⟨ht8, r8, ex8, h⟩ := gR_i h
  refine q_gR cx (pc' := 11) 2 0 fl_X2_9 rfl ht8 ex8 dX2_swap_8 rfl ?_
  refine q_iload_n cx (pc' := 12) 2 rfl dX2_swap_11 rfl ?_
  refine q_aload_n cx (pc' := 13) 1 rfl dX2_swap_12 rfl ?_
  obtain ⟨ht13, r13, ex13, h⟩ := gR_i h
  refine q_gR cx (pc' := 16) 2 0 fl_X2_9 rfl ht13 ex13 dX2_swap_13 rfl ?_
  refine q_iload_n cx (pc' := 17) 3 rfl dX2_swap_16 rfl ?_
  obtain ⟨ht17, hi17, x17, ex17, h⟩ := aI_i h
  refine q_iald cx (pc' := 18) ht17 hi17 ex17 dX2_swap_17 rfl ?_
  obtain ⟨ht18, hi18, M18, eM18, h⟩ := wI_i h
  refine q_iast cx (pc' := 19) ht18 hi18 eM18 dX2_swap_18 rfl ?_
  refine q_aload_n cx (pc' := 20) 1 rfl dX2_swap_19 rfl ?_
  obtain ⟨ht20, r20, ex20, h⟩ := gR_i h
  refine q_gR cx (pc' := 23) 2 0 fl_X2_9 rfl ht20 ex20 dX2_swap_20 rfl ?_
  refine q_iload_n cx (pc' := 24) 3 rfl dX2_swap_23 rfl ?_
  refine q_iload_n cx (pc' := 25) 0 rfl dX2_swap_24 rfl ?_
  obtain ⟨ht25, hi25, M25, eM25, h⟩ := wI_i h
  refine q_iast cx (pc' := 26) ht25 hi25 eM25 dX2_swap_25 rfl ?_
  obtain rfl := o1_i h
  rw [hQ]
  exact q_vret cx dX2_swap_26

abbrev rm_X3_append : Room := { frames := 1, cells := 0, slots := 0, locals := 40 }
def fn_X3_append (M : QM) (ths : Nat) (p1 : Int32) : Option (Int32 × QM) :=
  gI M ths 3 1 fun x1 =>
  if x1 < 100 then
    gR M ths 3 0 fun r12 =>
    gI M ths 3 1 fun x16 =>
    wI M 22 r12 x16 (i2ch p1) fun M20 =>
    gI M20 ths 3 1 fun x23 =>
    pI M20 ths 3 1 (x23 + 1) fun M28 =>
    some (1, M28)
  else
    some (0, M)
set_option maxRecDepth 100000 in
set_option maxHeartbeats 4000000 in
theorem ct_X3_append (Γ : GT) (l : Launch) (M : QM) (ths : Nat) (p1 : Int32) (ht0 : mt M ths = 3) (z : Int32) (M' : QM) (h : fn_X3_append M ths p1 = some (z, M')) : CT Γ l yX3_append cX3_append 2 (some .boolean) rm_X3_append (.ref ths :: [.int p1]) M (some (.int z)) M' := by
  refine ct_intro (own := RX3) (L := [(0, .ref ths), (1, .int p1)]) (by decide +kernel) rfl (Nat.le_of_ble_eq_true rfl) rfl ?_
  intro p e s m args below meth c Q hQ cx hnm
  unfold fn_X3_append at h
  refine q_aload_n cx (pc' := 1) 0 rfl dX3_append_0 rfl ?_
  obtain ⟨ht1, x1, ex1, h⟩ := gI_i h
  refine q_gI cx (pc' := 4) 3 1 fl_X3_19 rfl ht1 ex1 dX3_append_1 rfl ?_
  refine q_bipush cx (pc' := 6) kb_100 dX3_append_4 rfl ?_
  refine q_icmp_lt cx (pc' := 9) (tgt := 11) dX3_append_6 (by decide) rfl (fun c6 => ?_) (fun c6 => ?_)
  · replace h := ip c6 h
    refine q_aload_n cx (pc' := 12) 0 rfl dX3_append_11 rfl ?_
    obtain ⟨ht12, r12, ex12, h⟩ := gR_i h
    refine q_gR cx (pc' := 15) 3 0 fl_X3_11 rfl ht12 ex12 dX3_append_12 rfl ?_
    refine q_aload_n cx (pc' := 16) 0 rfl dX3_append_15 rfl ?_
    obtain ⟨ht16, x16, ex16, h⟩ := gI_i h
    refine q_gI cx (pc' := 19) 3 1 fl_X3_19 rfl ht16 ex16 dX3_append_16 rfl ?_
    refine q_iload_n cx (pc' := 20) 1 rfl dX3_append_19 rfl ?_
    obtain ⟨ht20, hi20, M20, eM20, h⟩ := wI_i h
    refine q_cast cx (pc' := 21) ht20 hi20 eM20 dX3_append_20 rfl ?_
    refine q_aload_n cx (pc' := 22) 0 rfl dX3_append_21 rfl ?_
    refine q_dup cx (pc' := 23) rfl dX3_append_22 rfl ?_
    obtain ⟨ht23, x23, ex23, h⟩ := gI_i h
    refine q_gI cx (pc' := 26) 3 1 fl_X3_19 rfl ht23 ex23 dX3_append_23 rfl ?_
    refine q_iconst cx (pc' := 27) ki_1 dX3_append_26 rfl ?_
    refine q_iadd cx (pc' := 28) dX3_append_27 rfl ?_
    obtain ⟨ht28, M28, eM28, h⟩ := pI_i h
    refine q_pI cx (pc' := 31) 3 1 fl_X3_19 rfl ht28 (ty := .int) ⟨(RX3, TX3, 9), rfl, by decide +kernel, Or.inl rfl⟩ rfl rfl eM28 dX3_append_28 rfl ?_
    refine q_iconst cx (pc' := 32) ki_1 dX3_append_31 rfl ?_
    obtain ⟨rfl, rfl⟩ := o2_i h
    rw [hQ]
    exact q_nret cx rfl dX3_append_32
  · replace h := ine c6 h
    refine q_iconst cx (pc' := 10) ki_0 dX3_append_9 rfl ?_
    obtain ⟨rfl, rfl⟩ := o2_i h
    rw [hQ]
    exact q_nret cx rfl dX3_append_10

abbrev rm_X3_takes : Room := { frames := 1, cells := 0, slots := 0, locals := 40 }
def fn_X3_takes (M : QM) (ths : Nat) (p1 : Int32) : Option (Int32 × QM) :=
  gI M ths 3 3 fun x1 =>
  if x1 = 0 then
    gI M ths 3 2 fun x8 =>
    gI M ths 3 1 fun x12 =>
    if x12 ≤ x8 then
      some (0, M)
    else
      gR M ths 3 0 fun r19 =>
      gI M ths 3 2 fun x23 =>
      aI M 22 r19 x23 fun x26 =>
      if x26 = p1 then
        gI M ths 3 2 fun x35 =>
        pI M ths 3 2 (x35 + 1) fun M40 =>
        some (1, M40)
      else
        some (0, M)
  else
    some (0, M)
set_option maxRecDepth 100000 in
set_option maxHeartbeats 4000000 in
theorem ct_X3_takes (Γ : GT) (l : Launch) (M : QM) (ths : Nat) (p1 : Int32) (ht0 : mt M ths = 3) (z : Int32) (M' : QM) (h : fn_X3_takes M ths p1 = some (z, M')) : CT Γ l yX3_takes cX3_takes 2 (some .boolean) rm_X3_takes (.ref ths :: [.int p1]) M (some (.int z)) M' := by
  refine ct_intro (own := RX3) (L := [(0, .ref ths), (1, .int p1)]) (by decide +kernel) rfl (Nat.le_of_ble_eq_true rfl) rfl ?_
  intro p e s m args below meth c Q hQ cx hnm
  unfold fn_X3_takes at h
  refine q_aload_n cx (pc' := 1) 0 rfl dX3_takes_0 rfl ?_
  obtain ⟨ht1, x1, ex1, h⟩ := gI_i h
  refine q_gI cx (pc' := 4) 3 3 fl_X3_26 rfl ht1 ex1 dX3_takes_1 rfl ?_
  refine q_if_ne cx (pc' := 7) (tgt := 31) dX3_takes_4 (by decide) rfl (fun c4 => ?_) (fun c4 => ?_)
  · replace h := ine c4 h
    refine q_iconst cx (pc' := 32) ki_0 dX3_takes_31 rfl ?_
    obtain ⟨rfl, rfl⟩ := o2_i h
    rw [hQ]
    exact q_nret cx rfl dX3_takes_32
  · replace h := ip c4 h
    refine q_aload_n cx (pc' := 8) 0 rfl dX3_takes_7 rfl ?_
    obtain ⟨ht8, x8, ex8, h⟩ := gI_i h
    refine q_gI cx (pc' := 11) 3 2 fl_X3_23 rfl ht8 ex8 dX3_takes_8 rfl ?_
    refine q_aload_n cx (pc' := 12) 0 rfl dX3_takes_11 rfl ?_
    obtain ⟨ht12, x12, ex12, h⟩ := gI_i h
    refine q_gI cx (pc' := 15) 3 1 fl_X3_19 rfl ht12 ex12 dX3_takes_12 rfl ?_
    refine q_icmp_ge cx (pc' := 18) (tgt := 31) dX3_takes_15 (by decide) rfl (fun c15 => ?_) (fun c15 => ?_)
    · replace h := ip c15 h
      refine q_iconst cx (pc' := 32) ki_0 dX3_takes_31 rfl ?_
      obtain ⟨rfl, rfl⟩ := o2_i h
      rw [hQ]
      exact q_nret cx rfl dX3_takes_32
    · replace h := ine c15 h
      refine q_aload_n cx (pc' := 19) 0 rfl dX3_takes_18 rfl ?_
      obtain ⟨ht19, r19, ex19, h⟩ := gR_i h
      refine q_gR cx (pc' := 22) 3 0 fl_X3_11 rfl ht19 ex19 dX3_takes_19 rfl ?_
      refine q_aload_n cx (pc' := 23) 0 rfl dX3_takes_22 rfl ?_
      obtain ⟨ht23, x23, ex23, h⟩ := gI_i h
      refine q_gI cx (pc' := 26) 3 2 fl_X3_23 rfl ht23 ex23 dX3_takes_23 rfl ?_
      obtain ⟨ht26, hi26, x26, ex26, h⟩ := aI_i h
      refine q_cald cx (pc' := 27) ht26 hi26 ex26 dX3_takes_26 rfl ?_
      refine q_iload_n cx (pc' := 28) 1 rfl dX3_takes_27 rfl ?_
      refine q_icmp_eq cx (pc' := 31) (tgt := 33) dX3_takes_28 (by decide) rfl (fun c28 => ?_) (fun c28 => ?_)
      · replace h := ip c28 h
        refine q_aload_n cx (pc' := 34) 0 rfl dX3_takes_33 rfl ?_
        refine q_dup cx (pc' := 35) rfl dX3_takes_34 rfl ?_
        obtain ⟨ht35, x35, ex35, h⟩ := gI_i h
        refine q_gI cx (pc' := 38) 3 2 fl_X3_23 rfl ht35 ex35 dX3_takes_35 rfl ?_
        refine q_iconst cx (pc' := 39) ki_1 dX3_takes_38 rfl ?_
        refine q_iadd cx (pc' := 40) dX3_takes_39 rfl ?_
        obtain ⟨ht40, M40, eM40, h⟩ := pI_i h
        refine q_pI cx (pc' := 43) 3 2 fl_X3_23 rfl ht40 (ty := .int) ⟨(RX3, TX3, 9), rfl, by decide +kernel, Or.inl rfl⟩ rfl rfl eM40 dX3_takes_40 rfl ?_
        refine q_iconst cx (pc' := 44) ki_1 dX3_takes_43 rfl ?_
        obtain ⟨rfl, rfl⟩ := o2_i h
        rw [hQ]
        exact q_nret cx rfl dX3_takes_44
      · replace h := ine c28 h
        refine q_iconst cx (pc' := 32) ki_0 dX3_takes_31 rfl ?_
        obtain ⟨rfl, rfl⟩ := o2_i h
        rw [hQ]
        exact q_nret cx rfl dX3_takes_32

abbrev rm_J0_coder_7d493 : Room := { frames := 1, cells := 0, slots := 0, locals := 40 }
def fn_J0_coder_7d493 (ths : Nat) : Option Int32 :=
  if (1 : Int32) = 0 then
    some 1
  else
    sk ths <|
    some 0
set_option maxRecDepth 100000 in
set_option maxHeartbeats 4000000 in
theorem ct_J0_coder_7d493 (Γ : GT) (l : Launch) (M : QM) (ths : Nat) (z : Int32) (h : fn_J0_coder_7d493 ths = some z) : CT Γ l yJ0_coder_7d493 cJ0_coder_7d493 1 (some .byte) rm_J0_coder_7d493 (.ref (gS Γ (2 + ths)) :: []) M (some (.int z)) M := by
  refine ct_intro (own := RJ0) (L := [(0, .ref (gS Γ (2 + ths)))]) (by decide +kernel) rfl (Nat.le_of_ble_eq_true rfl) rfl ?_
  intro p e s m args below meth c Q hQ cx hnm
  unfold fn_J0_coder_7d493 at h
  refine q_getsCS cx (pc' := 3) aw_78 dJ0_coder_7d493_0 rfl ?_
  refine q_if_eq cx (pc' := 6) (tgt := 13) dJ0_coder_7d493_3 (by decide) rfl (fun c3 => ?_) (fun c3 => ?_)
  · replace h := ip c3 h
    refine q_iconst cx (pc' := 14) ki_1 dJ0_coder_7d493_13 rfl ?_
    obtain rfl := o1_i h
    rw [hQ]
    exact q_nret cx rfl dJ0_coder_7d493_14
  · replace h := ine c3 h
    refine q_aload_n cx (pc' := 7) 0 rfl dJ0_coder_7d493_6 rfl ?_
    obtain ⟨hq7, h⟩ := sk_i h
    refine q_strC cx (pc' := 10) hq7 aw_79 dJ0_coder_7d493_7 rfl ?_
    refine q_goto cx dJ0_coder_7d493_10 (tgt := 14) (by decide) ?_
    obtain rfl := o1_i h
    rw [hQ]
    exact q_nret cx rfl dJ0_coder_7d493_14

abbrev rm_J0_length_8abf5 : Room := { frames := 2, cells := 0, slots := 0, locals := 60 }
def fn_J0_length_8abf5 (ths : Nat) : Option Int32 :=
  sk ths <|
  bL ths <|
  sk ths <|
  bnd (fn_J0_coder_7d493 ths) fun c6 =>
  some ((nI (sLen.getD ths 0)) >>> (c6 &&& 31))
set_option maxRecDepth 100000 in
set_option maxHeartbeats 4000000 in
theorem ct_J0_length_8abf5 (Γ : GT) (l : Launch) (M : QM) (ths : Nat) (z : Int32) (h : fn_J0_length_8abf5 ths = some z) : CT Γ l yJ0_length_8abf5 cJ0_length_8abf5 1 (some .int) rm_J0_length_8abf5 (.ref (gS Γ (2 + ths)) :: []) M (some (.int z)) M := by
  refine ct_intro (own := RJ0) (L := [(0, .ref (gS Γ (2 + ths)))]) (by decide +kernel) rfl (Nat.le_of_ble_eq_true rfl) rfl ?_
  intro p e s m args below meth c Q hQ cx hnm
  unfold fn_J0_length_8abf5 at h
  refine q_aload_n cx (pc' := 1) 0 rfl dJ0_length_8abf5_0 rfl ?_
  obtain ⟨hq1, h⟩ := sk_i h
  refine q_strV cx (pc' := 4) hq1 aw_80 dJ0_length_8abf5_1 rfl ?_
  obtain ⟨hq4, h⟩ := bL_i h
  refine q_strL cx (pc' := 5) hq4 dJ0_length_8abf5_4 rfl ?_
  refine q_aload_n cx (pc' := 6) 0 rfl dJ0_length_8abf5_5 rfl ?_
  obtain ⟨hk6, h⟩ := sk_i h
  obtain ⟨c6, hc6, h⟩ := bnd_i h
  refine q_callStr cx (pc' := 9) (S := [.int (nI (sLen.getD ths 0))]) (S1 := [.int c6, .int (nI (sLen.getD ths 0))]) (kc' := 0) (ks' := 0) hk6 (ct_J0_coder_7d493 Γ l M ths _ hc6) lki_J0_coder_7d493 lkv_J0_coder_7d493 lkc_J0_335 rfl rfl rfl (Nat.le_of_ble_eq_true rfl) ⟨(Nat.le_of_ble_eq_true rfl), (Nat.le_of_ble_eq_true rfl)⟩ ⟨(Nat.le_of_ble_eq_true rfl), (Nat.le_of_ble_eq_true rfl)⟩ dJ0_length_8abf5_6 rfl rfl rfl ?_
  refine q_ishr cx (pc' := 10) dJ0_length_8abf5_9 rfl ?_
  obtain rfl := o1_i h
  rw [hQ]
  exact q_iret cx dJ0_length_8abf5_10

abbrev rm_J0_isLatin1_aae02 : Room := { frames := 1, cells := 0, slots := 0, locals := 40 }
def fn_J0_isLatin1_aae02 (ths : Nat) : Option Int32 :=
  if (1 : Int32) = 0 then
    some 0
  else
    sk ths <|
    if (0 : Int32) = 0 then
      some 1
    else
      some 0
set_option maxRecDepth 100000 in
set_option maxHeartbeats 4000000 in
theorem ct_J0_isLatin1_aae02 (Γ : GT) (l : Launch) (M : QM) (ths : Nat) (z : Int32) (h : fn_J0_isLatin1_aae02 ths = some z) : CT Γ l yJ0_isLatin1_aae02 cJ0_isLatin1_aae02 1 (some .boolean) rm_J0_isLatin1_aae02 (.ref (gS Γ (2 + ths)) :: []) M (some (.int z)) M := by
  refine ct_intro (own := RJ0) (L := [(0, .ref (gS Γ (2 + ths)))]) (by decide +kernel) rfl (Nat.le_of_ble_eq_true rfl) rfl ?_
  intro p e s m args below meth c Q hQ cx hnm
  unfold fn_J0_isLatin1_aae02 at h
  refine q_getsCS cx (pc' := 3) aw_78 dJ0_isLatin1_aae02_0 rfl ?_
  refine q_if_eq cx (pc' := 6) (tgt := 17) dJ0_isLatin1_aae02_3 (by decide) rfl (fun c3 => ?_) (fun c3 => ?_)
  · replace h := ip c3 h
    refine q_iconst cx (pc' := 18) ki_0 dJ0_isLatin1_aae02_17 rfl ?_
    obtain rfl := o1_i h
    rw [hQ]
    exact q_nret cx rfl dJ0_isLatin1_aae02_18
  · replace h := ine c3 h
    refine q_aload_n cx (pc' := 7) 0 rfl dJ0_isLatin1_aae02_6 rfl ?_
    obtain ⟨hq7, h⟩ := sk_i h
    refine q_strC cx (pc' := 10) hq7 aw_79 dJ0_isLatin1_aae02_7 rfl ?_
    refine q_if_ne cx (pc' := 13) (tgt := 17) dJ0_isLatin1_aae02_10 (by decide) rfl (fun c10 => ?_) (fun c10 => ?_)
    · replace h := ine c10 h
      refine q_iconst cx (pc' := 18) ki_0 dJ0_isLatin1_aae02_17 rfl ?_
      obtain rfl := o1_i h
      rw [hQ]
      exact q_nret cx rfl dJ0_isLatin1_aae02_18
    · replace h := ip c10 h
      refine q_iconst cx (pc' := 14) ki_1 dJ0_isLatin1_aae02_13 rfl ?_
      refine q_goto cx dJ0_isLatin1_aae02_14 (tgt := 18) (by decide) ?_
      obtain rfl := o1_i h
      rw [hQ]
      exact q_nret cx rfl dJ0_isLatin1_aae02_18

abbrev rm_J3_checkIndex_8e157 : Room := { frames := 2, cells := 0, slots := 0, locals := 80 }
def fn_J3_checkIndex_8e157 (p0 : Int32) (p1 : Int32) : Option Int32 :=
  if p0 < 0 then
    none
  else
    if p0 < p1 then
      some p0
    else
      none
set_option maxRecDepth 100000 in
set_option maxHeartbeats 4000000 in
theorem ct_J3_checkIndex_8e157 (Γ : GT) (l : Launch) (M : QM) (p0 : Int32) (p1 : Int32) (z : Int32) (h : fn_J3_checkIndex_8e157 p0 p1 = some z) : CT Γ l yJ3_checkIndex_8e157 cJ3_checkIndex_8e157 3 (some .int) rm_J3_checkIndex_8e157 [.int p0, .int p1, gV Γ] M (some (.int z)) M := by
  refine ct_intro (own := RJ3) (L := [(0, .int p0), (1, .int p1), (2, gV Γ)]) (by decide +kernel) rfl (lg_gV _ _ _) rfl ?_
  intro p e s m args below meth c Q hQ cx hnm
  unfold fn_J3_checkIndex_8e157 at h
  refine q_iload_n cx (pc' := 1) 0 rfl dJ3_checkIndex_8e157_0 rfl ?_
  refine q_if_lt cx (pc' := 4) (tgt := 9) dJ3_checkIndex_8e157_1 (by decide) rfl (fun c1 => ?_) (fun c1 => ?_)
  · replace h := ip c1 h
    cases h
  · replace h := ine c1 h
    refine q_iload_n cx (pc' := 5) 0 rfl dJ3_checkIndex_8e157_4 rfl ?_
    refine q_iload_n cx (pc' := 6) 1 rfl dJ3_checkIndex_8e157_5 rfl ?_
    refine q_icmp_lt cx (pc' := 9) (tgt := 16) dJ3_checkIndex_8e157_6 (by decide) rfl (fun c6 => ?_) (fun c6 => ?_)
    · replace h := ip c6 h
      refine q_iload_n cx (pc' := 17) 0 rfl dJ3_checkIndex_8e157_16 rfl ?_
      obtain rfl := o1_i h
      rw [hQ]
      exact q_iret cx dJ3_checkIndex_8e157_17
    · replace h := ine c6 h
      cases h

abbrev rm_J0_checkIndex_df160 : Room := { frames := 3, cells := 0, slots := 0, locals := 102 }
def fn_J0_checkIndex_df160 (p0 : Int32) (p1 : Int32) : Option Unit :=
  bnd (fn_J3_checkIndex_8e157 p0 p1) fun c5 =>
  some ()
set_option maxRecDepth 100000 in
set_option maxHeartbeats 4000000 in
theorem ct_J0_checkIndex_df160 (Γ : GT) (l : Launch) (M : QM) (p0 : Int32) (p1 : Int32) (h : fn_J0_checkIndex_df160 p0 p1 = some ()) : CT Γ l yJ0_checkIndex_df160 cJ0_checkIndex_df160 2 none rm_J0_checkIndex_df160 [.int p0, .int p1] M none M := by
  refine ct_intro (own := RJ0) (L := [(0, .int p0), (1, .int p1)]) (by decide +kernel) rfl (Nat.le_of_ble_eq_true rfl) rfl ?_
  intro p e s m args below meth c Q hQ cx hnm
  unfold fn_J0_checkIndex_df160 at h
  refine q_iload_n cx (pc' := 1) 0 rfl dJ0_checkIndex_df160_0 rfl ?_
  refine q_iload_n cx (pc' := 2) 1 rfl dJ0_checkIndex_df160_1 rfl ?_
  refine q_getsFm cx (pc' := 5) aw_81 dJ0_checkIndex_df160_2 rfl ?_
  obtain ⟨c5, hc5, h⟩ := bnd_i h
  refine q_callS cx (pc' := 8) (S := []) (S1 := [.int c5]) (kc' := 0) (ks' := 0) (ct_J3_checkIndex_8e157 Γ l M p0 p1 _ hc5) lki_J3_checkIndex_8e157 lkv_J3_checkIndex_8e157 lkc_J0_1059 rfl rfl (Nat.le_of_ble_eq_true rfl) ⟨(Nat.le_of_ble_eq_true rfl), (Nat.le_of_ble_eq_true rfl)⟩ ⟨(Nat.le_of_ble_eq_true rfl), (Nat.le_of_ble_eq_true rfl)⟩ dJ0_checkIndex_df160_5 rfl rfl rfl ?_
  refine q_pop cx (pc' := 9) rfl dJ0_checkIndex_df160_8 rfl ?_
  rw [hQ]
  exact q_vret cx dJ0_checkIndex_df160_9

abbrev rm_J1_charAt_3b067 : Room := { frames := 4, cells := 0, slots := 0, locals := 123 }
def fn_J1_charAt_3b067 (p0 : Nat) (p1 : Int32) : Option Int32 :=
  bL p0 <|
  bnd (fn_J0_checkIndex_df160 p1 (nI (sLen.getD p0 0))) fun _ =>
  bA p0 p1 fun x8 =>
  some (i2ch (i2ch (x8 &&& 255)))
set_option maxRecDepth 100000 in
set_option maxHeartbeats 4000000 in
theorem ct_J1_charAt_3b067 (Γ : GT) (l : Launch) (M : QM) (p0 : Nat) (p1 : Int32) (z : Int32) (h : fn_J1_charAt_3b067 p0 p1 = some z) : CT Γ l yJ1_charAt_3b067 cJ1_charAt_3b067 2 (some .char) rm_J1_charAt_3b067 [.ref (gS Γ (10 + p0)), .int p1] M (some (.int z)) M := by
  refine ct_intro (own := RJ1) (L := [(0, .ref (gS Γ (10 + p0))), (1, .int p1)]) (by decide +kernel) rfl (Nat.le_of_ble_eq_true rfl) rfl ?_
  intro p e s m args below meth c Q hQ cx hnm
  unfold fn_J1_charAt_3b067 at h
  refine q_iload_n cx (pc' := 1) 1 rfl dJ1_charAt_3b067_0 rfl ?_
  refine q_aload_n cx (pc' := 2) 0 rfl dJ1_charAt_3b067_1 rfl ?_
  obtain ⟨hq2, h⟩ := bL_i h
  refine q_strL cx (pc' := 3) hq2 dJ1_charAt_3b067_2 rfl ?_
  obtain ⟨_, hc3, h⟩ := bnd_i h
  refine q_callS cx (pc' := 6) (S := []) (S1 := []) (kc' := 0) (ks' := 0) (ct_J0_checkIndex_df160 Γ l M p1 (nI (sLen.getD p0 0)) hc3) lki_J0_checkIndex_df160 lkv_J0_checkIndex_df160 lkc_J1_9 rfl rfl (Nat.le_of_ble_eq_true rfl) ⟨(Nat.le_of_ble_eq_true rfl), (Nat.le_of_ble_eq_true rfl)⟩ ⟨(Nat.le_of_ble_eq_true rfl), (Nat.le_of_ble_eq_true rfl)⟩ dJ1_charAt_3b067_3 rfl rfl rfl ?_
  refine q_aload_n cx (pc' := 7) 0 rfl dJ1_charAt_3b067_6 rfl ?_
  refine q_iload_n cx (pc' := 8) 1 rfl dJ1_charAt_3b067_7 rfl ?_
  obtain ⟨hq8, hi8, x8, ex8, h⟩ := bA_i h
  refine q_strB cx (pc' := 9) hq8 hi8 ex8 dJ1_charAt_3b067_8 rfl ?_
  refine q_sipush cx (pc' := 12) ks_255 dJ1_charAt_3b067_9 rfl ?_
  refine q_iand cx (pc' := 13) dJ1_charAt_3b067_12 rfl ?_
  refine q_i2c cx (pc' := 14) dJ1_charAt_3b067_13 rfl ?_
  obtain rfl := o1_i h
  rw [hQ]
  exact q_nret cx rfl dJ1_charAt_3b067_14

abbrev rm_J0_charAt_5068e : Room := { frames := 5, cells := 0, slots := 0, locals := 144 }
def fn_J0_charAt_5068e (ths : Nat) (p1 : Int32) : Option Int32 :=
  sk ths <|
  bnd (fn_J0_isLatin1_aae02 ths) fun c1 =>
  if c1 = 0 then
    none
  else
    sk ths <|
    bnd (fn_J1_charAt_3b067 ths p1) fun c12 =>
    some (i2ch c12)
set_option maxRecDepth 100000 in
set_option maxHeartbeats 4000000 in
theorem ct_J0_charAt_5068e (Γ : GT) (l : Launch) (M : QM) (ths : Nat) (p1 : Int32) (z : Int32) (h : fn_J0_charAt_5068e ths p1 = some z) : CT Γ l yJ0_charAt_5068e cJ0_charAt_5068e 2 (some .char) rm_J0_charAt_5068e (.ref (gS Γ (2 + ths)) :: [.int p1]) M (some (.int z)) M := by
  refine ct_intro (own := RJ0) (L := [(0, .ref (gS Γ (2 + ths))), (1, .int p1)]) (by decide +kernel) rfl (Nat.le_of_ble_eq_true rfl) rfl ?_
  intro p e s m args below meth c Q hQ cx hnm
  unfold fn_J0_charAt_5068e at h
  refine q_aload_n cx (pc' := 1) 0 rfl dJ0_charAt_5068e_0 rfl ?_
  obtain ⟨hk1, h⟩ := sk_i h
  obtain ⟨c1, hc1, h⟩ := bnd_i h
  refine q_callStr cx (pc' := 4) (S := []) (S1 := [.int c1]) (kc' := 0) (ks' := 0) hk1 (ct_J0_isLatin1_aae02 Γ l M ths _ hc1) lki_J0_isLatin1_aae02 lkv_J0_isLatin1_aae02 lkc_J0_492 rfl rfl rfl (Nat.le_of_ble_eq_true rfl) ⟨(Nat.le_of_ble_eq_true rfl), (Nat.le_of_ble_eq_true rfl)⟩ ⟨(Nat.le_of_ble_eq_true rfl), (Nat.le_of_ble_eq_true rfl)⟩ dJ0_charAt_5068e_1 rfl rfl rfl ?_
  refine q_if_eq cx (pc' := 7) (tgt := 16) dJ0_charAt_5068e_4 (by decide) rfl (fun c4 => ?_) (fun c4 => ?_)
  · replace h := ip c4 h
    cases h
  · replace h := ine c4 h
    refine q_aload_n cx (pc' := 8) 0 rfl dJ0_charAt_5068e_7 rfl ?_
    obtain ⟨hq8, h⟩ := sk_i h
    refine q_strV cx (pc' := 11) hq8 aw_80 dJ0_charAt_5068e_8 rfl ?_
    refine q_iload_n cx (pc' := 12) 1 rfl dJ0_charAt_5068e_11 rfl ?_
    obtain ⟨c12, hc12, h⟩ := bnd_i h
    refine q_callS cx (pc' := 15) (S := []) (S1 := [.int c12]) (kc' := 0) (ks' := 0) (ct_J1_charAt_3b067 Γ l M ths p1 _ hc12) lki_J1_charAt_3b067 lkv_J1_charAt_3b067 lkc_J0_495 rfl rfl (Nat.le_of_ble_eq_true rfl) ⟨(Nat.le_of_ble_eq_true rfl), (Nat.le_of_ble_eq_true rfl)⟩ ⟨(Nat.le_of_ble_eq_true rfl), (Nat.le_of_ble_eq_true rfl)⟩ dJ0_charAt_5068e_12 rfl rfl rfl ?_
    obtain rfl := o1_i h
    rw [hQ]
    exact q_nret cx rfl dJ0_charAt_5068e_15

abbrev rm_X3_expect : Room := { frames := 6, cells := 0, slots := 0, locals := 165 }
def lp_X3_expect_2 (ths : Nat) (p1 : Nat) (w2_2 : Int32) (Mw_2 : QM) : Option ((Int32 × QM) ⊕ (QM)) :=
  sk p1 <|
  bnd (fn_J0_length_8abf5 p1) fun c4 =>
  if c4 ≤ w2_2 then
    some (.inr Mw_2)
  else
    sk p1 <|
    bnd (fn_J0_charAt_5068e p1 w2_2) fun c13 =>
    ck Mw_2 ths 3 <|
    bnd (fn_X3_takes Mw_2 ths c13) fun y16 =>
    pr2 y16 fun c16 M16 =>
    if c16 = 0 then
      pI M16 ths 3 3 1 fun M24 =>
      nm (w2_2 + 1) fun v2_27 =>
      some (.inl (v2_27, M24))
    else
      nm (w2_2 + 1) fun v2_27 =>
      some (.inl (v2_27, M16))
def fn_X3_expect (M : QM) (ths : Nat) (p1 : Nat) : Option QM :=
  bnd (itr (fun s2 : Int32 × QM => lp_X3_expect_2 ths p1 s2.1 s2.2) FU (0, M)) fun Mr_2 =>
  some Mr_2
set_option maxRecDepth 100000 in
set_option maxHeartbeats 4000000 in
theorem ct_X3_expect (Γ : GT) (l : Launch) (M : QM) (ths : Nat) (p1 : Nat) (ht0 : mt M ths = 3) (M' : QM) (h : fn_X3_expect M ths p1 = some M') : CT Γ l yX3_expect cX3_expect 3 none rm_X3_expect (.ref ths :: [.ref (gS Γ (2 + p1))]) M none M' := by
  refine ct_intro (own := RX3) (L := [(0, .ref ths), (1, .ref (gS Γ (2 + p1)))]) (by decide +kernel) rfl (Nat.le_of_ble_eq_true rfl) rfl ?_
  intro p e s m args below meth c Q hQ cx hnm
  unfold fn_X3_expect at h
  refine q_iconst cx (pc' := 1) ki_0 dX3_expect_0 rfl ?_
  refine q_istore_n cx (pc' := 2) rfl rfl (by decide) (L' := [(2, .int 0), (0, .ref ths), (1, .ref (gS Γ (2 + p1)))]) rfl dX3_expect_1 rfl ?_
  obtain ⟨r2, hL2, h⟩ := bnd_i h
  have hk2_r : ∀ (Mr_2 : QM), Mr_2 = r2 → some Mr_2 = some M' := by
    intro Mr_2 hp
    subst hp
    exact h
  have key2 : ∀ (n : Nat) (w2_2 : Int32) (Mw_2 : QM), itr (fun s2 : Int32 × QM => lp_X3_expect_2 ths p1 s2.1 s2.2) n (w2_2, Mw_2) = some r2 → EE p l e rm_X3_expect s m args below meth c Q Γ 3 0 0 2 [(0, .ref ths), (1, .ref (gS Γ (2 + p1))), (2, .int w2_2)] [] Mw_2 := by
    intro n
    induction n with
    | zero => intro _ _ h; exact (itr_0 h).elim
    | succ n ih =>
      intro w2_2 Mw_2 h
      obtain ⟨z2, h, hz2⟩ := itr_i h
      replace h : lp_X3_expect_2 ths p1 w2_2 Mw_2 = some z2 := h
      unfold lp_X3_expect_2 at h
      refine q_iload_n cx (pc' := 3) 2 rfl dX3_expect_2 rfl ?_
      refine q_aload_n cx (pc' := 4) 1 rfl dX3_expect_3 rfl ?_
      obtain ⟨hk4, h⟩ := sk_i h
      obtain ⟨c4, hc4, h⟩ := bnd_i h
      refine q_callStr cx (pc' := 7) (S := [.int w2_2]) (S1 := [.int c4, .int w2_2]) (kc' := 0) (ks' := 0) hk4 (ct_J0_length_8abf5 Γ l Mw_2 p1 _ hc4) lki_J0_length_8abf5 lkv_J0_length_8abf5 lkc_X3_100 rfl rfl rfl (Nat.le_of_ble_eq_true rfl) ⟨(Nat.le_of_ble_eq_true rfl), (Nat.le_of_ble_eq_true rfl)⟩ ⟨(Nat.le_of_ble_eq_true rfl), (Nat.le_of_ble_eq_true rfl)⟩ dX3_expect_4 rfl rfl rfl ?_
      refine q_icmp_ge cx (pc' := 10) (tgt := 33) dX3_expect_7 (by decide) rfl (fun c7 => ?_) (fun c7 => ?_)
      · replace h := ip c7 h
        replace h := hk2_r _ (hz2.2 _ h)
        obtain rfl := o1_i h
        rw [hQ]
        exact q_vret cx dX3_expect_33
      · replace h := ine c7 h
        refine q_aload_n cx (pc' := 11) 0 rfl dX3_expect_10 rfl ?_
        refine q_aload_n cx (pc' := 12) 1 rfl dX3_expect_11 rfl ?_
        refine q_iload_n cx (pc' := 13) 2 rfl dX3_expect_12 rfl ?_
        obtain ⟨hk13, h⟩ := sk_i h
        obtain ⟨c13, hc13, h⟩ := bnd_i h
        refine q_callStr cx (pc' := 16) (S := [.ref ths]) (S1 := [.int c13, .ref ths]) (kc' := 0) (ks' := 0) hk13 (ct_J0_charAt_5068e Γ l Mw_2 p1 w2_2 _ hc13) lki_J0_charAt_5068e lkv_J0_charAt_5068e lkc_X3_104 rfl rfl rfl (Nat.le_of_ble_eq_true rfl) ⟨(Nat.le_of_ble_eq_true rfl), (Nat.le_of_ble_eq_true rfl)⟩ ⟨(Nat.le_of_ble_eq_true rfl), (Nat.le_of_ble_eq_true rfl)⟩ dX3_expect_13 rfl rfl rfl ?_
        obtain ⟨hk16, h⟩ := ck_i h
        obtain ⟨⟨c16, M16⟩, hc16, h⟩ := bnd_i h
        replace h := pr2_i h
        refine q_callV cx (pc' := 19) (S := []) (S1 := [.int c16]) (kc' := 0) (ks' := 0) 3 (ct_X3_takes Γ l Mw_2 ths c13 hk16 _ _ hc16) lki_X3_takes lkv_X3_takes lkc_X3_45 hk16 (r := (RX3, TX3, 9)) ⟨rfl, by decide, rfl⟩ rfl rfl (Nat.le_of_ble_eq_true rfl) ⟨(Nat.le_of_ble_eq_true rfl), (Nat.le_of_ble_eq_true rfl)⟩ ⟨(Nat.le_of_ble_eq_true rfl), (Nat.le_of_ble_eq_true rfl)⟩ dX3_expect_16 rfl rfl rfl ?_
        refine q_if_ne cx (pc' := 22) (tgt := 27) dX3_expect_19 (by decide) rfl (fun c19 => ?_) (fun c19 => ?_)
        · replace h := ine c19 h
          obtain ⟨v2_27, ev2_27, h⟩ := nm_i h
          refine q_iinc cx (pc' := 30) 2 rfl ki_1 ev2_27 (by decide) (L' := [(2, .int v2_27), (0, .ref ths), (1, .ref (gS Γ (2 + p1)))]) rfl dX3_expect_27 rfl ?_
          refine q_goto cx dX3_expect_30 (tgt := 2) (by decide) ?_
          refine q_sub cx [1, 2, 0] rfl ?_
          exact ih _ _ (hz2.1 _ h)
        · replace h := ip c19 h
          refine q_aload_n cx (pc' := 23) 0 rfl dX3_expect_22 rfl ?_
          refine q_iconst cx (pc' := 24) ki_1 dX3_expect_23 rfl ?_
          obtain ⟨ht24, M24, eM24, h⟩ := pI_i h
          refine q_pI cx (pc' := 27) 3 3 fl_X3_26 rfl ht24 (ty := .boolean) ⟨(RX3, TX3, 9), rfl, by decide +kernel, Or.inl rfl⟩ (by decide) (by decide) eM24 dX3_expect_24 rfl ?_
          obtain ⟨v2_27, ev2_27, h⟩ := nm_i h
          refine q_iinc cx (pc' := 30) 2 rfl ki_1 ev2_27 (by decide) (L' := [(2, .int v2_27), (0, .ref ths), (1, .ref (gS Γ (2 + p1)))]) rfl dX3_expect_27 rfl ?_
          refine q_goto cx dX3_expect_30 (tgt := 2) (by decide) ?_
          refine q_sub cx [1, 2, 0] rfl ?_
          exact ih _ _ (hz2.1 _ h)
  refine q_sub cx [1, 2, 0] rfl ?_
  exact key2 FU _ _ hL2

abbrev rm_X3_number : Room := { frames := 1, cells := 0, slots := 0, locals := 40 }
def lp_X3_number_6 (ths : Nat) (w1_6 : Int32) (w2_6 : Int32) (w3_6 : Int32) (Mw_6 : QM) : Option ((Int32 × Int32 × Int32 × QM) ⊕ (Int32 × Int32 × QM)) :=
  if 2 ≤ w3_6 then
    some (.inr (w1_6, w2_6, Mw_6))
  else
    gI Mw_6 ths 3 3 fun x12 =>
    if x12 = 0 then
      gI Mw_6 ths 3 2 fun x19 =>
      gI Mw_6 ths 3 1 fun x23 =>
      if x23 ≤ x19 then
        nm (w3_6 + 1) fun v3_88 =>
        some (.inl (w1_6, w2_6, v3_88, Mw_6))
      else
        gR Mw_6 ths 3 0 fun r30 =>
        gI Mw_6 ths 3 2 fun x34 =>
        aI Mw_6 22 r30 x34 fun x37 =>
        if x37 < 48 then
          nm (w3_6 + 1) fun v3_88 =>
          some (.inl (w1_6, w2_6, v3_88, Mw_6))
        else
          gR Mw_6 ths 3 0 fun r44 =>
          gI Mw_6 ths 3 2 fun x48 =>
          aI Mw_6 22 r44 x48 fun x51 =>
          if 57 < x51 then
            nm (w3_6 + 1) fun v3_88 =>
            some (.inl (w1_6, w2_6, v3_88, Mw_6))
          else
            gR Mw_6 ths 3 0 fun r62 =>
            gI Mw_6 ths 3 2 fun x66 =>
            aI Mw_6 22 r62 x66 fun x69 =>
            nm (((10 * w1_6) + x69) - 48) fun v1_74 =>
            gI Mw_6 ths 3 2 fun x77 =>
            pI Mw_6 ths 3 2 (x77 + 1) fun M82 =>
            nm (w2_6 + 1) fun v2_85 =>
            nm (w3_6 + 1) fun v3_88 =>
            some (.inl (v1_74, v2_85, v3_88, M82))
    else
      nm (w3_6 + 1) fun v3_88 =>
      some (.inl (w1_6, w2_6, v3_88, Mw_6))
def fn_X3_number (M : QM) (ths : Nat) : Option (Int32 × QM) :=
  bnd (itr (fun s6 : Int32 × Int32 × Int32 × QM => lp_X3_number_6 ths s6.1 s6.2.1 s6.2.2.1 s6.2.2.2) FU (0, 0, 0, M)) fun r6 =>
  pr3 r6 fun e1_6 e2_6 Me_6 =>
  if e2_6 = 0 then
    pI Me_6 ths 3 3 1 fun M100 =>
    some (e1_6, M100)
  else
    some (e1_6, Me_6)
set_option maxRecDepth 100000 in
set_option maxHeartbeats 4000000 in
theorem ct_X3_number (Γ : GT) (l : Launch) (M : QM) (ths : Nat) (ht0 : mt M ths = 3) (z : Int32) (M' : QM) (h : fn_X3_number M ths = some (z, M')) : CT Γ l yX3_number cX3_number 4 (some .int) rm_X3_number (.ref ths :: []) M (some (.int z)) M' := by
  refine ct_intro (own := RX3) (L := [(0, .ref ths)]) (by decide +kernel) rfl (Nat.le_of_ble_eq_true rfl) rfl ?_
  intro p e s m args below meth c Q hQ cx hnm
  unfold fn_X3_number at h
  refine q_iconst cx (pc' := 1) ki_0 dX3_number_0 rfl ?_
  refine q_istore_n cx (pc' := 2) rfl rfl (by decide) (L' := [(1, .int 0), (0, .ref ths)]) rfl dX3_number_1 rfl ?_
  refine q_iconst cx (pc' := 3) ki_0 dX3_number_2 rfl ?_
  refine q_istore_n cx (pc' := 4) rfl rfl (by decide) (L' := [(2, .int 0), (1, .int 0), (0, .ref ths)]) rfl dX3_number_3 rfl ?_
  refine q_iconst cx (pc' := 5) ki_0 dX3_number_4 rfl ?_
  refine q_istore_n cx (pc' := 6) rfl rfl (by decide) (L' := [(3, .int 0), (2, .int 0), (1, .int 0), (0, .ref ths)]) rfl dX3_number_5 rfl ?_
  obtain ⟨r6, hL6, h⟩ := bnd_i h
  have hk6_0 : ∀ (e1_6 : Int32) (e2_6 : Int32) (Me_6 : QM), (e1_6, e2_6, Me_6) = r6 → EE p l e rm_X3_number s m args below meth c Q Γ 4 0 0 94 [(0, .ref ths), (1, .int e1_6), (2, .int e2_6)] [] Me_6 := by
    intro e1_6 e2_6 Me_6 hp
    subst hp
    replace h := pr3_i h
    refine q_iload_n cx (pc' := 95) 2 rfl dX3_number_94 rfl ?_
    refine q_if_ne cx (pc' := 98) (tgt := 103) dX3_number_95 (by decide) rfl (fun c95 => ?_) (fun c95 => ?_)
    · replace h := ine c95 h
      refine q_iload_n cx (pc' := 104) 1 rfl dX3_number_103 rfl ?_
      obtain ⟨rfl, rfl⟩ := o2_i h
      rw [hQ]
      exact q_iret cx dX3_number_104
    · replace h := ip c95 h
      refine q_aload_n cx (pc' := 99) 0 rfl dX3_number_98 rfl ?_
      refine q_iconst cx (pc' := 100) ki_1 dX3_number_99 rfl ?_
      obtain ⟨ht100, M100, eM100, h⟩ := pI_i h
      refine q_pI cx (pc' := 103) 3 3 fl_X3_26 rfl ht100 (ty := .boolean) ⟨(RX3, TX3, 9), rfl, by decide +kernel, Or.inl rfl⟩ (by decide) (by decide) eM100 dX3_number_100 rfl ?_
      refine q_iload_n cx (pc' := 104) 1 rfl dX3_number_103 rfl ?_
      obtain ⟨rfl, rfl⟩ := o2_i h
      rw [hQ]
      exact q_iret cx dX3_number_104
  have key6 : ∀ (n : Nat) (w1_6 : Int32) (w2_6 : Int32) (w3_6 : Int32) (Mw_6 : QM), itr (fun s6 : Int32 × Int32 × Int32 × QM => lp_X3_number_6 ths s6.1 s6.2.1 s6.2.2.1 s6.2.2.2) n (w1_6, w2_6, w3_6, Mw_6) = some r6 → EE p l e rm_X3_number s m args below meth c Q Γ 4 0 0 6 [(0, .ref ths), (1, .int w1_6), (2, .int w2_6), (3, .int w3_6)] [] Mw_6 := by
    intro n
    induction n with
    | zero => intro _ _ _ _ h; exact (itr_0 h).elim
    | succ n ih =>
      intro w1_6 w2_6 w3_6 Mw_6 h
      obtain ⟨z6, h, hz6⟩ := itr_i h
      replace h : lp_X3_number_6 ths w1_6 w2_6 w3_6 Mw_6 = some z6 := h
      unfold lp_X3_number_6 at h
      refine q_iload_n cx (pc' := 7) 3 rfl dX3_number_6 rfl ?_
      refine q_iconst cx (pc' := 8) ki_2 dX3_number_7 rfl ?_
      refine q_icmp_ge cx (pc' := 11) (tgt := 94) dX3_number_8 (by decide) rfl (fun c8 => ?_) (fun c8 => ?_)
      · replace h := ip c8 h
        refine q_sub cx [0, 1, 2] rfl ?_
        exact hk6_0 _ _ _ (hz6.2 _ h)
      · replace h := ine c8 h
        refine q_aload_n cx (pc' := 12) 0 rfl dX3_number_11 rfl ?_
        obtain ⟨ht12, x12, ex12, h⟩ := gI_i h
        refine q_gI cx (pc' := 15) 3 3 fl_X3_26 rfl ht12 ex12 dX3_number_12 rfl ?_
        refine q_if_ne cx (pc' := 18) (tgt := 88) dX3_number_15 (by decide) rfl (fun c15 => ?_) (fun c15 => ?_)
        · replace h := ine c15 h
          obtain ⟨v3_88, ev3_88, h⟩ := nm_i h
          refine q_iinc cx (pc' := 91) 3 rfl ki_1 ev3_88 (by decide) (L' := [(3, .int v3_88), (0, .ref ths), (1, .int w1_6), (2, .int w2_6)]) rfl dX3_number_88 rfl ?_
          refine q_goto cx dX3_number_91 (tgt := 6) (by decide) ?_
          refine q_sub cx [1, 2, 3, 0] rfl ?_
          exact ih _ _ _ _ (hz6.1 _ h)
        · replace h := ip c15 h
          refine q_aload_n cx (pc' := 19) 0 rfl dX3_number_18 rfl ?_
          obtain ⟨ht19, x19, ex19, h⟩ := gI_i h
          refine q_gI cx (pc' := 22) 3 2 fl_X3_23 rfl ht19 ex19 dX3_number_19 rfl ?_
          refine q_aload_n cx (pc' := 23) 0 rfl dX3_number_22 rfl ?_
          obtain ⟨ht23, x23, ex23, h⟩ := gI_i h
          refine q_gI cx (pc' := 26) 3 1 fl_X3_19 rfl ht23 ex23 dX3_number_23 rfl ?_
          refine q_icmp_ge cx (pc' := 29) (tgt := 88) dX3_number_26 (by decide) rfl (fun c26 => ?_) (fun c26 => ?_)
          · replace h := ip c26 h
            obtain ⟨v3_88, ev3_88, h⟩ := nm_i h
            refine q_iinc cx (pc' := 91) 3 rfl ki_1 ev3_88 (by decide) (L' := [(3, .int v3_88), (0, .ref ths), (1, .int w1_6), (2, .int w2_6)]) rfl dX3_number_88 rfl ?_
            refine q_goto cx dX3_number_91 (tgt := 6) (by decide) ?_
            refine q_sub cx [1, 2, 3, 0] rfl ?_
            exact ih _ _ _ _ (hz6.1 _ h)
          · replace h := ine c26 h
            refine q_aload_n cx (pc' := 30) 0 rfl dX3_number_29 rfl ?_
            obtain ⟨ht30, r30, ex30, h⟩ := gR_i h
            refine q_gR cx (pc' := 33) 3 0 fl_X3_11 rfl ht30 ex30 dX3_number_30 rfl ?_
            refine q_aload_n cx (pc' := 34) 0 rfl dX3_number_33 rfl ?_
            obtain ⟨ht34, x34, ex34, h⟩ := gI_i h
            refine q_gI cx (pc' := 37) 3 2 fl_X3_23 rfl ht34 ex34 dX3_number_34 rfl ?_
            obtain ⟨ht37, hi37, x37, ex37, h⟩ := aI_i h
            refine q_cald cx (pc' := 38) ht37 hi37 ex37 dX3_number_37 rfl ?_
            refine q_bipush cx (pc' := 40) kb_48 dX3_number_38 rfl ?_
            refine q_icmp_lt cx (pc' := 43) (tgt := 88) dX3_number_40 (by decide) rfl (fun c40 => ?_) (fun c40 => ?_)
            · replace h := ip c40 h
              obtain ⟨v3_88, ev3_88, h⟩ := nm_i h
              refine q_iinc cx (pc' := 91) 3 rfl ki_1 ev3_88 (by decide) (L' := [(3, .int v3_88), (0, .ref ths), (1, .int w1_6), (2, .int w2_6)]) rfl dX3_number_88 rfl ?_
              refine q_goto cx dX3_number_91 (tgt := 6) (by decide) ?_
              refine q_sub cx [1, 2, 3, 0] rfl ?_
              exact ih _ _ _ _ (hz6.1 _ h)
            · replace h := ine c40 h
              refine q_aload_n cx (pc' := 44) 0 rfl dX3_number_43 rfl ?_
              obtain ⟨ht44, r44, ex44, h⟩ := gR_i h
              refine q_gR cx (pc' := 47) 3 0 fl_X3_11 rfl ht44 ex44 dX3_number_44 rfl ?_
              refine q_aload_n cx (pc' := 48) 0 rfl dX3_number_47 rfl ?_
              obtain ⟨ht48, x48, ex48, h⟩ := gI_i h
              refine q_gI cx (pc' := 51) 3 2 fl_X3_23 rfl ht48 ex48 dX3_number_48 rfl ?_
              obtain ⟨ht51, hi51, x51, ex51, h⟩ := aI_i h
              refine q_cald cx (pc' := 52) ht51 hi51 ex51 dX3_number_51 rfl ?_
              refine q_bipush cx (pc' := 54) kb_57 dX3_number_52 rfl ?_
              refine q_icmp_gt cx (pc' := 57) (tgt := 88) dX3_number_54 (by decide) rfl (fun c54 => ?_) (fun c54 => ?_)
              · replace h := ip c54 h
                obtain ⟨v3_88, ev3_88, h⟩ := nm_i h
                refine q_iinc cx (pc' := 91) 3 rfl ki_1 ev3_88 (by decide) (L' := [(3, .int v3_88), (0, .ref ths), (1, .int w1_6), (2, .int w2_6)]) rfl dX3_number_88 rfl ?_
                refine q_goto cx dX3_number_91 (tgt := 6) (by decide) ?_
                refine q_sub cx [1, 2, 3, 0] rfl ?_
                exact ih _ _ _ _ (hz6.1 _ h)
              · replace h := ine c54 h
                refine q_bipush cx (pc' := 59) kb_10 dX3_number_57 rfl ?_
                refine q_iload_n cx (pc' := 60) 1 rfl dX3_number_59 rfl ?_
                refine q_imul cx (pc' := 61) dX3_number_60 rfl ?_
                refine q_aload_n cx (pc' := 62) 0 rfl dX3_number_61 rfl ?_
                obtain ⟨ht62, r62, ex62, h⟩ := gR_i h
                refine q_gR cx (pc' := 65) 3 0 fl_X3_11 rfl ht62 ex62 dX3_number_62 rfl ?_
                refine q_aload_n cx (pc' := 66) 0 rfl dX3_number_65 rfl ?_
                obtain ⟨ht66, x66, ex66, h⟩ := gI_i h
                refine q_gI cx (pc' := 69) 3 2 fl_X3_23 rfl ht66 ex66 dX3_number_66 rfl ?_
                obtain ⟨ht69, hi69, x69, ex69, h⟩ := aI_i h
                refine q_cald cx (pc' := 70) ht69 hi69 ex69 dX3_number_69 rfl ?_
                refine q_iadd cx (pc' := 71) dX3_number_70 rfl ?_
                refine q_bipush cx (pc' := 73) kb_48 dX3_number_71 rfl ?_
                refine q_isub cx (pc' := 74) dX3_number_73 rfl ?_
                obtain ⟨v1_74, ev1_74, h⟩ := nm_i h
                refine q_istore_n cx (pc' := 75) rfl ev1_74 (by decide) (L' := [(1, .int v1_74), (0, .ref ths), (2, .int w2_6), (3, .int w3_6)]) rfl dX3_number_74 rfl ?_
                refine q_aload_n cx (pc' := 76) 1 rfl dX3_number_75 rfl ?_
                refine q_dup cx (pc' := 77) rfl dX3_number_76 rfl ?_
                obtain ⟨ht77, x77, ex77, h⟩ := gI_i h
                refine q_gI cx (pc' := 80) 3 2 fl_X3_23 rfl ht77 ex77 dX3_number_77 rfl ?_
                refine q_iconst cx (pc' := 81) ki_1 dX3_number_80 rfl ?_
                refine q_iadd cx (pc' := 82) dX3_number_81 rfl ?_
                obtain ⟨ht82, M82, eM82, h⟩ := pI_i h
                refine q_pI cx (pc' := 85) 3 2 fl_X3_23 rfl ht82 (ty := .int) ⟨(RX3, TX3, 9), rfl, by decide +kernel, Or.inl rfl⟩ rfl rfl eM82 dX3_number_82 rfl ?_
                obtain ⟨v2_85, ev2_85, h⟩ := nm_i h
                refine q_iinc cx (pc' := 88) 2 rfl ki_1 ev2_85 (by decide) (L' := [(2, .int v2_85), (1, .int v1_74), (0, .ref ths), (3, .int w3_6)]) rfl dX3_number_85 rfl ?_
                obtain ⟨v3_88, ev3_88, h⟩ := nm_i h
                refine q_iinc cx (pc' := 91) 3 rfl ki_1 ev3_88 (by decide) (L' := [(3, .int v3_88), (2, .int v2_85), (1, .int v1_74), (0, .ref ths)]) rfl dX3_number_88 rfl ?_
                refine q_goto cx dX3_number_91 (tgt := 6) (by decide) ?_
                refine q_sub cx [3, 2, 1, 0] rfl ?_
                exact ih _ _ _ _ (hz6.1 _ h)
  refine q_sub cx [3, 2, 1, 0] rfl ?_
  exact key6 FU _ _ _ _ hL6

abbrev rm_J1_canEncode_9a6ad : Room := { frames := 1, cells := 0, slots := 0, locals := 40 }
def fn_J1_canEncode_9a6ad (p0 : Int32) : Int32 :=
  if p0 < 0 then
    0
  else
    if 255 < p0 then
      0
    else
      1
set_option maxRecDepth 100000 in
set_option maxHeartbeats 4000000 in
theorem ct_J1_canEncode_9a6ad (Γ : GT) (l : Launch) (M : QM) (p0 : Int32) : CT Γ l yJ1_canEncode_9a6ad cJ1_canEncode_9a6ad 1 (some .boolean) rm_J1_canEncode_9a6ad [.int p0] M (some (.int (fn_J1_canEncode_9a6ad p0))) M := by
  generalize h : fn_J1_canEncode_9a6ad p0 = z
  refine ct_intro (own := RJ1) (L := [(0, .int p0)]) (by decide +kernel) rfl (Nat.le_of_ble_eq_true rfl) rfl ?_
  intro p e s m args below meth c Q hQ cx hnm
  unfold fn_J1_canEncode_9a6ad at h
  refine q_iload_n cx (pc' := 1) 0 rfl dJ1_canEncode_9a6ad_0 rfl ?_
  refine q_if_lt cx (pc' := 4) (tgt := 15) dJ1_canEncode_9a6ad_1 (by decide) rfl (fun c1 => ?_) (fun c1 => ?_)
  · replace h := ip c1 h
    refine q_iconst cx (pc' := 16) ki_0 dJ1_canEncode_9a6ad_15 rfl ?_
    subst h
    rw [hQ]
    exact q_nret cx rfl dJ1_canEncode_9a6ad_16
  · replace h := ine c1 h
    refine q_iload_n cx (pc' := 5) 0 rfl dJ1_canEncode_9a6ad_4 rfl ?_
    refine q_sipush cx (pc' := 8) ks_255 dJ1_canEncode_9a6ad_5 rfl ?_
    refine q_icmp_gt cx (pc' := 11) (tgt := 15) dJ1_canEncode_9a6ad_8 (by decide) rfl (fun c8 => ?_) (fun c8 => ?_)
    · replace h := ip c8 h
      refine q_iconst cx (pc' := 16) ki_0 dJ1_canEncode_9a6ad_15 rfl ?_
      subst h
      rw [hQ]
      exact q_nret cx rfl dJ1_canEncode_9a6ad_16
    · replace h := ine c8 h
      refine q_iconst cx (pc' := 12) ki_1 dJ1_canEncode_9a6ad_11 rfl ?_
      refine q_goto cx dJ1_canEncode_9a6ad_12 (tgt := 16) (by decide) ?_
      subst h
      rw [hQ]
      exact q_nret cx rfl dJ1_canEncode_9a6ad_16

abbrev rm_J1_indexOfChar_4cfef : Room := { frames := 1, cells := 0, slots := 0, locals := 40 }
def lp_J1_indexOfChar_4cfef_7 (p0 : Nat) (p3 : Int32) (v4_2 : Int32) (w5_7 : Int32) : Option ((Int32) ⊕ (Int32)) :=
  if p3 ≤ w5_7 then
    some (.inr (-1))
  else
    bA p0 w5_7 fun x16 =>
    if x16 = v4_2 then
      some (.inr w5_7)
    else
      nm (w5_7 + 1) fun v5_25 =>
      some (.inl v5_25)
def fn_J1_indexOfChar_4cfef (p0 : Nat) (p1 : Int32) (p2 : Int32) (p3 : Int32) : Option Int32 :=
  nm p1.toInt8.toInt32 fun v4_2 =>
  bnd (itr (fun s7 : Int32 => lp_J1_indexOfChar_4cfef_7 p0 p3 v4_2 s7) FU p2) fun re_7 =>
  some re_7
set_option maxRecDepth 100000 in
set_option maxHeartbeats 4000000 in
theorem ct_J1_indexOfChar_4cfef (Γ : GT) (l : Launch) (M : QM) (p0 : Nat) (p1 : Int32) (p2 : Int32) (p3 : Int32) (z : Int32) (h : fn_J1_indexOfChar_4cfef p0 p1 p2 p3 = some z) : CT Γ l yJ1_indexOfChar_4cfef cJ1_indexOfChar_4cfef 6 (some .int) rm_J1_indexOfChar_4cfef [.ref (gS Γ (10 + p0)), .int p1, .int p2, .int p3] M (some (.int z)) M := by
  refine ct_intro (own := RJ1) (L := [(0, .ref (gS Γ (10 + p0))), (1, .int p1), (2, .int p2), (3, .int p3)]) (by decide +kernel) rfl (Nat.le_of_ble_eq_true rfl) rfl ?_
  intro p e s m args below meth c Q hQ cx hnm
  unfold fn_J1_indexOfChar_4cfef at h
  refine q_iload_n cx (pc' := 1) 1 rfl dJ1_indexOfChar_4cfef_0 rfl ?_
  refine q_i2b cx (pc' := 2) dJ1_indexOfChar_4cfef_1 rfl ?_
  obtain ⟨v4_2, ev4_2, h⟩ := nm_i h
  refine q_istore cx (pc' := 4) ev4_2 (by decide) (L' := [(4, .int v4_2), (0, .ref (gS Γ (10 + p0))), (1, .int p1), (2, .int p2), (3, .int p3)]) rfl dJ1_indexOfChar_4cfef_2 rfl ?_
  refine q_iload_n cx (pc' := 5) 3 rfl dJ1_indexOfChar_4cfef_4 rfl ?_
  refine q_istore cx (pc' := 7) rfl (by decide) (L' := [(5, .int p2), (4, .int v4_2), (0, .ref (gS Γ (10 + p0))), (1, .int p1), (2, .int p2), (3, .int p3)]) rfl dJ1_indexOfChar_4cfef_5 rfl ?_
  obtain ⟨r7, hL7, h⟩ := bnd_i h
  have hk7_r : ∀ (re_7 : Int32), re_7 = r7 → some re_7 = some z := by
    intro re_7 hp
    subst hp
    exact h
  have key7 : ∀ (n : Nat) (w5_7 : Int32), itr (fun s7 : Int32 => lp_J1_indexOfChar_4cfef_7 p0 p3 v4_2 s7) n w5_7 = some r7 → EE p l e rm_J1_indexOfChar_4cfef s m args below meth c Q Γ 6 0 0 7 [(0, .ref (gS Γ (10 + p0))), (3, .int p3), (4, .int v4_2), (5, .int w5_7)] [] M := by
    intro n
    induction n with
    | zero => intro _ h; exact (itr_0 h).elim
    | succ n ih =>
      intro w5_7 h
      obtain ⟨z7, h, hz7⟩ := itr_i h
      replace h : lp_J1_indexOfChar_4cfef_7 p0 p3 v4_2 w5_7 = some z7 := h
      unfold lp_J1_indexOfChar_4cfef_7 at h
      refine q_iload cx (pc' := 9) 3 rfl dJ1_indexOfChar_4cfef_7 rfl ?_
      refine q_iload_n cx (pc' := 10) 1 rfl dJ1_indexOfChar_4cfef_9 rfl ?_
      refine q_icmp_ge cx (pc' := 13) (tgt := 31) dJ1_indexOfChar_4cfef_10 (by decide) rfl (fun c10 => ?_) (fun c10 => ?_)
      · replace h := ip c10 h
        refine q_iconst cx (pc' := 32) ki_m1 dJ1_indexOfChar_4cfef_31 rfl ?_
        replace h := hk7_r _ (hz7.2 _ h)
        obtain rfl := o1_i h
        rw [hQ]
        exact q_iret cx dJ1_indexOfChar_4cfef_32
      · replace h := ine c10 h
        refine q_aload_n cx (pc' := 14) 0 rfl dJ1_indexOfChar_4cfef_13 rfl ?_
        refine q_iload cx (pc' := 16) 3 rfl dJ1_indexOfChar_4cfef_14 rfl ?_
        obtain ⟨hq16, hi16, x16, ex16, h⟩ := bA_i h
        refine q_strB cx (pc' := 17) hq16 hi16 ex16 dJ1_indexOfChar_4cfef_16 rfl ?_
        refine q_iload cx (pc' := 19) 2 rfl dJ1_indexOfChar_4cfef_17 rfl ?_
        refine q_icmp_ne cx (pc' := 22) (tgt := 25) dJ1_indexOfChar_4cfef_19 (by decide) rfl (fun c19 => ?_) (fun c19 => ?_)
        · replace h := ine c19 h
          obtain ⟨v5_25, ev5_25, h⟩ := nm_i h
          refine q_iinc cx (pc' := 28) 3 rfl ki_1 ev5_25 (by decide) (L' := [(5, .int v5_25), (0, .ref (gS Γ (10 + p0))), (3, .int p3), (4, .int v4_2)]) rfl dJ1_indexOfChar_4cfef_25 rfl ?_
          refine q_goto cx dJ1_indexOfChar_4cfef_28 (tgt := 7) (by decide) ?_
          refine q_sub cx [1, 2, 3, 0] rfl ?_
          exact ih _ (hz7.1 _ h)
        · replace h := ip c19 h
          refine q_iload cx (pc' := 24) 3 rfl dJ1_indexOfChar_4cfef_22 rfl ?_
          replace h := hk7_r _ (hz7.2 _ h)
          obtain rfl := o1_i h
          rw [hQ]
          exact q_iret cx dJ1_indexOfChar_4cfef_24
  refine q_sub cx [2, 5, 1, 0] rfl ?_
  exact key7 FU _ hL7

abbrev rm_J1_indexOf_4cfef : Room := { frames := 2, cells := 0, slots := 0, locals := 80 }
def fn_J1_indexOf_4cfef (p0 : Nat) (p1 : Int32) (p2 : Int32) (p3 : Int32) : Option Int32 :=
  if (fn_J1_canEncode_9a6ad p1) = 0 then
    some (-1)
  else
    nm (imm_max p2 0) fun v2_14 =>
    bL p0 <|
    nm (imm_min p3 (nI (sLen.getD p0 0))) fun v3_21 =>
    if v2_14 < v3_21 then
      bnd (fn_J1_indexOfChar_4cfef p0 p1 v2_14 v3_21) fun c33 =>
      some c33
    else
      some (-1)
set_option maxRecDepth 100000 in
set_option maxHeartbeats 4000000 in
theorem ct_J1_indexOf_4cfef (Γ : GT) (l : Launch) (M : QM) (p0 : Nat) (p1 : Int32) (p2 : Int32) (p3 : Int32) (z : Int32) (h : fn_J1_indexOf_4cfef p0 p1 p2 p3 = some z) : CT Γ l yJ1_indexOf_4cfef cJ1_indexOf_4cfef 4 (some .int) rm_J1_indexOf_4cfef [.ref (gS Γ (10 + p0)), .int p1, .int p2, .int p3] M (some (.int z)) M := by
  refine ct_intro (own := RJ1) (L := [(0, .ref (gS Γ (10 + p0))), (1, .int p1), (2, .int p2), (3, .int p3)]) (by decide +kernel) rfl (Nat.le_of_ble_eq_true rfl) rfl ?_
  intro p e s m args below meth c Q hQ cx hnm
  unfold fn_J1_indexOf_4cfef at h
  refine q_iload_n cx (pc' := 1) 1 rfl dJ1_indexOf_4cfef_0 rfl ?_
  refine q_callS cx (pc' := 4) (S := []) (S1 := [.int (fn_J1_canEncode_9a6ad p1)]) (kc' := 0) (ks' := 0) (ct_J1_canEncode_9a6ad Γ l M p1) lki_J1_canEncode_9a6ad lkv_J1_canEncode_9a6ad lkc_J1_88 rfl rfl (Nat.le_of_ble_eq_true rfl) ⟨(Nat.le_of_ble_eq_true rfl), (Nat.le_of_ble_eq_true rfl)⟩ ⟨(Nat.le_of_ble_eq_true rfl), (Nat.le_of_ble_eq_true rfl)⟩ dJ1_indexOf_4cfef_1 rfl rfl rfl ?_
  refine q_if_ne cx (pc' := 7) (tgt := 9) dJ1_indexOf_4cfef_4 (by decide) rfl (fun c4 => ?_) (fun c4 => ?_)
  · replace h := ine c4 h
    refine q_iload_n cx (pc' := 10) 2 rfl dJ1_indexOf_4cfef_9 rfl ?_
    refine q_iconst cx (pc' := 11) ki_0 dJ1_indexOf_4cfef_10 rfl ?_
    refine q_mmax cx (pc' := 14) aw_82 ⟨aw_70, aw_71, aw_72⟩ ⟨(Nat.le_of_ble_eq_true rfl), (Nat.le_of_ble_eq_true rfl), (Nat.le_of_ble_eq_true rfl), (Nat.le_of_ble_eq_true rfl)⟩ (Nat.le_of_ble_eq_true rfl) dJ1_indexOf_4cfef_11 rfl ?_
    obtain ⟨v2_14, ev2_14, h⟩ := nm_i h
    refine q_istore_n cx (pc' := 15) rfl ev2_14 (by decide) (L' := [(2, .int v2_14), (0, .ref (gS Γ (10 + p0))), (1, .int p1), (3, .int p3)]) rfl dJ1_indexOf_4cfef_14 rfl ?_
    refine q_iload_n cx (pc' := 16) 3 rfl dJ1_indexOf_4cfef_15 rfl ?_
    refine q_aload_n cx (pc' := 17) 1 rfl dJ1_indexOf_4cfef_16 rfl ?_
    obtain ⟨hq17, h⟩ := bL_i h
    refine q_strL cx (pc' := 18) hq17 dJ1_indexOf_4cfef_17 rfl ?_
    refine q_mmin cx (pc' := 21) aw_83 ⟨aw_84, aw_71, aw_85⟩ ⟨(Nat.le_of_ble_eq_true rfl), (Nat.le_of_ble_eq_true rfl), (Nat.le_of_ble_eq_true rfl), (Nat.le_of_ble_eq_true rfl)⟩ (Nat.le_of_ble_eq_true rfl) dJ1_indexOf_4cfef_18 rfl ?_
    obtain ⟨v3_21, ev3_21, h⟩ := nm_i h
    refine q_istore_n cx (pc' := 22) rfl ev3_21 (by decide) (L' := [(3, .int v3_21), (2, .int v2_14), (0, .ref (gS Γ (10 + p0))), (1, .int p1)]) rfl dJ1_indexOf_4cfef_21 rfl ?_
    refine q_iload_n cx (pc' := 23) 1 rfl dJ1_indexOf_4cfef_22 rfl ?_
    refine q_iload_n cx (pc' := 24) 0 rfl dJ1_indexOf_4cfef_23 rfl ?_
    refine q_icmp_lt cx (pc' := 27) (tgt := 29) dJ1_indexOf_4cfef_24 (by decide) rfl (fun c24 => ?_) (fun c24 => ?_)
    · replace h := ip c24 h
      refine q_aload_n cx (pc' := 30) 2 rfl dJ1_indexOf_4cfef_29 rfl ?_
      refine q_iload_n cx (pc' := 31) 3 rfl dJ1_indexOf_4cfef_30 rfl ?_
      refine q_iload_n cx (pc' := 32) 1 rfl dJ1_indexOf_4cfef_31 rfl ?_
      refine q_iload_n cx (pc' := 33) 0 rfl dJ1_indexOf_4cfef_32 rfl ?_
      obtain ⟨c33, hc33, h⟩ := bnd_i h
      refine q_callS cx (pc' := 36) (S := []) (S1 := [.int c33]) (kc' := 0) (ks' := 0) (ct_J1_indexOfChar_4cfef Γ l M p0 p1 v2_14 v3_21 _ hc33) lki_J1_indexOfChar_4cfef lkv_J1_indexOfChar_4cfef lkc_J1_95 rfl rfl (Nat.le_of_ble_eq_true rfl) ⟨(Nat.le_of_ble_eq_true rfl), (Nat.le_of_ble_eq_true rfl)⟩ ⟨(Nat.le_of_ble_eq_true rfl), (Nat.le_of_ble_eq_true rfl)⟩ dJ1_indexOf_4cfef_33 rfl rfl rfl ?_
      obtain rfl := o1_i h
      rw [hQ]
      exact q_iret cx dJ1_indexOf_4cfef_36
    · replace h := ine c24 h
      refine q_iconst cx (pc' := 28) ki_m1 dJ1_indexOf_4cfef_27 rfl ?_
      obtain rfl := o1_i h
      rw [hQ]
      exact q_iret cx dJ1_indexOf_4cfef_28
  · replace h := ip c4 h
    refine q_iconst cx (pc' := 8) ki_m1 dJ1_indexOf_4cfef_7 rfl ?_
    obtain rfl := o1_i h
    rw [hQ]
    exact q_iret cx dJ1_indexOf_4cfef_8

abbrev rm_J0_indexOf_7cf53 : Room := { frames := 3, cells := 0, slots := 0, locals := 103 }
def fn_J0_indexOf_7cf53 (ths : Nat) (p1 : Int32) (p2 : Int32) : Option Int32 :=
  sk ths <|
  bnd (fn_J0_isLatin1_aae02 ths) fun c1 =>
  if c1 = 0 then
    sk ths <|
    sk ths <|
    bnd (fn_J0_length_8abf5 ths) fun c30 =>
    none
  else
    sk ths <|
    sk ths <|
    bnd (fn_J0_length_8abf5 ths) fun c14 =>
    bnd (fn_J1_indexOf_4cfef ths p1 p2 c14) fun c17 =>
    some c17
set_option maxRecDepth 100000 in
set_option maxHeartbeats 4000000 in
theorem ct_J0_indexOf_7cf53 (Γ : GT) (l : Launch) (M : QM) (ths : Nat) (p1 : Int32) (p2 : Int32) (z : Int32) (h : fn_J0_indexOf_7cf53 ths p1 p2 = some z) : CT Γ l yJ0_indexOf_7cf53 cJ0_indexOf_7cf53 3 (some .int) rm_J0_indexOf_7cf53 (.ref (gS Γ (2 + ths)) :: [.int p1, .int p2]) M (some (.int z)) M := by
  refine ct_intro (own := RJ0) (L := [(0, .ref (gS Γ (2 + ths))), (1, .int p1), (2, .int p2)]) (by decide +kernel) rfl (Nat.le_of_ble_eq_true rfl) rfl ?_
  intro p e s m args below meth c Q hQ cx hnm
  unfold fn_J0_indexOf_7cf53 at h
  refine q_aload_n cx (pc' := 1) 0 rfl dJ0_indexOf_7cf53_0 rfl ?_
  obtain ⟨hk1, h⟩ := sk_i h
  obtain ⟨c1, hc1, h⟩ := bnd_i h
  refine q_callStr cx (pc' := 4) (S := []) (S1 := [.int c1]) (kc' := 0) (ks' := 0) hk1 (ct_J0_isLatin1_aae02 Γ l M ths _ hc1) lki_J0_isLatin1_aae02 lkv_J0_isLatin1_aae02 lkc_J0_492 rfl rfl rfl (Nat.le_of_ble_eq_true rfl) ⟨(Nat.le_of_ble_eq_true rfl), (Nat.le_of_ble_eq_true rfl)⟩ ⟨(Nat.le_of_ble_eq_true rfl), (Nat.le_of_ble_eq_true rfl)⟩ dJ0_indexOf_7cf53_1 rfl rfl rfl ?_
  refine q_if_eq cx (pc' := 7) (tgt := 23) dJ0_indexOf_7cf53_4 (by decide) rfl (fun c4 => ?_) (fun c4 => ?_)
  · replace h := ip c4 h
    refine q_aload_n cx (pc' := 24) 0 rfl dJ0_indexOf_7cf53_23 rfl ?_
    obtain ⟨hq24, h⟩ := sk_i h
    refine q_strV cx (pc' := 27) hq24 aw_80 dJ0_indexOf_7cf53_24 rfl ?_
    refine q_iload_n cx (pc' := 28) 1 rfl dJ0_indexOf_7cf53_27 rfl ?_
    refine q_iload_n cx (pc' := 29) 2 rfl dJ0_indexOf_7cf53_28 rfl ?_
    refine q_aload_n cx (pc' := 30) 0 rfl dJ0_indexOf_7cf53_29 rfl ?_
    obtain ⟨hk30, h⟩ := sk_i h
    obtain ⟨c30, hc30, h⟩ := bnd_i h
    refine q_callStr cx (pc' := 33) (S := [.int p2, .int p1, .ref (gS Γ (10 + ths))]) (S1 := [.int c30, .int p2, .int p1, .ref (gS Γ (10 + ths))]) (kc' := 0) (ks' := 0) hk30 (ct_J0_length_8abf5 Γ l M ths _ hc30) lki_J0_length_8abf5 lkv_J0_length_8abf5 lkc_J0_505 rfl rfl rfl (Nat.le_of_ble_eq_true rfl) ⟨(Nat.le_of_ble_eq_true rfl), (Nat.le_of_ble_eq_true rfl)⟩ ⟨(Nat.le_of_ble_eq_true rfl), (Nat.le_of_ble_eq_true rfl)⟩ dJ0_indexOf_7cf53_30 rfl rfl rfl ?_
    cases h
  · replace h := ine c4 h
    refine q_aload_n cx (pc' := 8) 0 rfl dJ0_indexOf_7cf53_7 rfl ?_
    obtain ⟨hq8, h⟩ := sk_i h
    refine q_strV cx (pc' := 11) hq8 aw_80 dJ0_indexOf_7cf53_8 rfl ?_
    refine q_iload_n cx (pc' := 12) 1 rfl dJ0_indexOf_7cf53_11 rfl ?_
    refine q_iload_n cx (pc' := 13) 2 rfl dJ0_indexOf_7cf53_12 rfl ?_
    refine q_aload_n cx (pc' := 14) 0 rfl dJ0_indexOf_7cf53_13 rfl ?_
    obtain ⟨hk14, h⟩ := sk_i h
    obtain ⟨c14, hc14, h⟩ := bnd_i h
    refine q_callStr cx (pc' := 17) (S := [.int p2, .int p1, .ref (gS Γ (10 + ths))]) (S1 := [.int c14, .int p2, .int p1, .ref (gS Γ (10 + ths))]) (kc' := 0) (ks' := 0) hk14 (ct_J0_length_8abf5 Γ l M ths _ hc14) lki_J0_length_8abf5 lkv_J0_length_8abf5 lkc_J0_505 rfl rfl rfl (Nat.le_of_ble_eq_true rfl) ⟨(Nat.le_of_ble_eq_true rfl), (Nat.le_of_ble_eq_true rfl)⟩ ⟨(Nat.le_of_ble_eq_true rfl), (Nat.le_of_ble_eq_true rfl)⟩ dJ0_indexOf_7cf53_14 rfl rfl rfl ?_
    obtain ⟨c17, hc17, h⟩ := bnd_i h
    refine q_callS cx (pc' := 20) (S := []) (S1 := [.int c17]) (kc' := 0) (ks' := 0) (ct_J1_indexOf_4cfef Γ l M ths p1 p2 c14 _ hc17) lki_J1_indexOf_4cfef lkv_J1_indexOf_4cfef lkc_J0_637 rfl rfl (Nat.le_of_ble_eq_true rfl) ⟨(Nat.le_of_ble_eq_true rfl), (Nat.le_of_ble_eq_true rfl)⟩ ⟨(Nat.le_of_ble_eq_true rfl), (Nat.le_of_ble_eq_true rfl)⟩ dJ0_indexOf_7cf53_17 rfl rfl rfl ?_
    refine q_goto cx dJ0_indexOf_7cf53_20 (tgt := 36) (by decide) ?_
    obtain rfl := o1_i h
    rw [hQ]
    exact q_iret cx dJ0_indexOf_7cf53_36

abbrev rm_J0_indexOf_0f7a4 : Room := { frames := 4, cells := 0, slots := 0, locals := 125 }
def fn_J0_indexOf_0f7a4 (ths : Nat) (p1 : Int32) : Option Int32 :=
  sk ths <|
  bnd (fn_J0_indexOf_7cf53 ths p1 0) fun c3 =>
  some c3
set_option maxRecDepth 100000 in
set_option maxHeartbeats 4000000 in
theorem ct_J0_indexOf_0f7a4 (Γ : GT) (l : Launch) (M : QM) (ths : Nat) (p1 : Int32) (z : Int32) (h : fn_J0_indexOf_0f7a4 ths p1 = some z) : CT Γ l yJ0_indexOf_0f7a4 cJ0_indexOf_0f7a4 2 (some .int) rm_J0_indexOf_0f7a4 (.ref (gS Γ (2 + ths)) :: [.int p1]) M (some (.int z)) M := by
  refine ct_intro (own := RJ0) (L := [(0, .ref (gS Γ (2 + ths))), (1, .int p1)]) (by decide +kernel) rfl (Nat.le_of_ble_eq_true rfl) rfl ?_
  intro p e s m args below meth c Q hQ cx hnm
  unfold fn_J0_indexOf_0f7a4 at h
  refine q_aload_n cx (pc' := 1) 0 rfl dJ0_indexOf_0f7a4_0 rfl ?_
  refine q_iload_n cx (pc' := 2) 1 rfl dJ0_indexOf_0f7a4_1 rfl ?_
  refine q_iconst cx (pc' := 3) ki_0 dJ0_indexOf_0f7a4_2 rfl ?_
  obtain ⟨hk3, h⟩ := sk_i h
  obtain ⟨c3, hc3, h⟩ := bnd_i h
  refine q_callStr cx (pc' := 6) (S := []) (S1 := [.int c3]) (kc' := 0) (ks' := 0) hk3 (ct_J0_indexOf_7cf53 Γ l M ths p1 0 _ hc3) lki_J0_indexOf_7cf53 lkv_J0_indexOf_7cf53 lkc_J0_633 rfl rfl rfl (Nat.le_of_ble_eq_true rfl) ⟨(Nat.le_of_ble_eq_true rfl), (Nat.le_of_ble_eq_true rfl)⟩ ⟨(Nat.le_of_ble_eq_true rfl), (Nat.le_of_ble_eq_true rfl)⟩ dJ0_indexOf_0f7a4_3 rfl rfl rfl ?_
  obtain rfl := o1_i h
  rw [hQ]
  exact q_iret cx dJ0_indexOf_0f7a4_6

abbrev rm_X3_oneOf : Room := { frames := 5, cells := 0, slots := 0, locals := 146 }
def jn_X3_oneOf_35 (ths : Nat) (js0_35 : Int32) (Mj_35 : QM) : Option (Int32 × QM) :=
  if 0 ≤ js0_35 then
    gI Mj_35 ths 3 2 fun x50 =>
    pI Mj_35 ths 3 2 (x50 + 1) fun M55 =>
    some (js0_35, M55)
  else
    pI Mj_35 ths 3 3 1 fun M42 =>
    some (js0_35, M42)
def jn_X3_oneOf_18 (ths : Nat) (Mj_18 : QM) : Option (Int32 × QM) :=
  jn_X3_oneOf_35 ths (-1) Mj_18
def fn_X3_oneOf (M : QM) (ths : Nat) (p1 : Nat) : Option (Int32 × QM) :=
  gI M ths 3 3 fun x1 =>
  if x1 = 0 then
    gI M ths 3 2 fun x8 =>
    gI M ths 3 1 fun x12 =>
    if x8 < x12 then
      gR M ths 3 0 fun r24 =>
      gI M ths 3 2 fun x28 =>
      aI M 22 r24 x28 fun x31 =>
      sk p1 <|
      bnd (fn_J0_indexOf_0f7a4 p1 x31) fun c32 =>
      jn_X3_oneOf_35 ths c32 M
    else
      jn_X3_oneOf_18 ths M
  else
    jn_X3_oneOf_18 ths M
set_option maxRecDepth 100000 in
set_option maxHeartbeats 4000000 in
theorem ct_X3_oneOf (Γ : GT) (l : Launch) (M : QM) (ths : Nat) (p1 : Nat) (ht0 : mt M ths = 3) (z : Int32) (M' : QM) (h : fn_X3_oneOf M ths p1 = some (z, M')) : CT Γ l yX3_oneOf cX3_oneOf 3 (some .int) rm_X3_oneOf (.ref ths :: [.ref (gS Γ (2 + p1))]) M (some (.int z)) M' := by
  refine ct_intro (own := RX3) (L := [(0, .ref ths), (1, .ref (gS Γ (2 + p1)))]) (by decide +kernel) rfl (Nat.le_of_ble_eq_true rfl) rfl ?_
  intro p e s m args below meth c Q hQ cx hnm
  unfold fn_X3_oneOf at h
  have hj35 : ∀ (js0_35 : Int32) (Mj_35 : QM), jn_X3_oneOf_35 ths js0_35 Mj_35 = some (z, M') → EE p l e rm_X3_oneOf s m args below meth c Q Γ 3 0 0 35 [(0, .ref ths)] [.int js0_35] Mj_35 := by
    intro js0_35 Mj_35 h
    unfold jn_X3_oneOf_35 at h
    refine q_istore_n cx (pc' := 36) rfl rfl (by decide) (L' := [(2, .int js0_35), (0, .ref ths)]) rfl dX3_oneOf_35 rfl ?_
    refine q_iload_n cx (pc' := 37) 0 rfl dX3_oneOf_36 rfl ?_
    refine q_if_ge cx (pc' := 40) (tgt := 48) dX3_oneOf_37 (by decide) rfl (fun c37 => ?_) (fun c37 => ?_)
    · replace h := ip c37 h
      refine q_aload_n cx (pc' := 49) 1 rfl dX3_oneOf_48 rfl ?_
      refine q_dup cx (pc' := 50) rfl dX3_oneOf_49 rfl ?_
      obtain ⟨ht50, x50, ex50, h⟩ := gI_i h
      refine q_gI cx (pc' := 53) 3 2 fl_X3_23 rfl ht50 ex50 dX3_oneOf_50 rfl ?_
      refine q_iconst cx (pc' := 54) ki_1 dX3_oneOf_53 rfl ?_
      refine q_iadd cx (pc' := 55) dX3_oneOf_54 rfl ?_
      obtain ⟨ht55, M55, eM55, h⟩ := pI_i h
      refine q_pI cx (pc' := 58) 3 2 fl_X3_23 rfl ht55 (ty := .int) ⟨(RX3, TX3, 9), rfl, by decide +kernel, Or.inl rfl⟩ rfl rfl eM55 dX3_oneOf_55 rfl ?_
      refine q_iload_n cx (pc' := 59) 0 rfl dX3_oneOf_58 rfl ?_
      obtain ⟨rfl, rfl⟩ := o2_i h
      rw [hQ]
      exact q_iret cx dX3_oneOf_59
    · replace h := ine c37 h
      refine q_aload_n cx (pc' := 41) 1 rfl dX3_oneOf_40 rfl ?_
      refine q_iconst cx (pc' := 42) ki_1 dX3_oneOf_41 rfl ?_
      obtain ⟨ht42, M42, eM42, h⟩ := pI_i h
      refine q_pI cx (pc' := 45) 3 3 fl_X3_26 rfl ht42 (ty := .boolean) ⟨(RX3, TX3, 9), rfl, by decide +kernel, Or.inl rfl⟩ (by decide) (by decide) eM42 dX3_oneOf_42 rfl ?_
      refine q_goto cx dX3_oneOf_45 (tgt := 58) (by decide) ?_
      refine q_iload_n cx (pc' := 59) 0 rfl dX3_oneOf_58 rfl ?_
      obtain ⟨rfl, rfl⟩ := o2_i h
      rw [hQ]
      exact q_iret cx dX3_oneOf_59
  have hj18 : ∀ (Mj_18 : QM), jn_X3_oneOf_18 ths Mj_18 = some (z, M') → EE p l e rm_X3_oneOf s m args below meth c Q Γ 3 0 0 18 [(0, .ref ths)] [] Mj_18 := by
    intro Mj_18 h
    unfold jn_X3_oneOf_18 at h
    refine q_iconst cx (pc' := 19) ki_m1 dX3_oneOf_18 rfl ?_
    refine q_goto cx dX3_oneOf_19 (tgt := 35) (by decide) ?_
    refine q_sub cx [0] rfl ?_
    exact hj35 _ _ h
  refine q_aload_n cx (pc' := 1) 0 rfl dX3_oneOf_0 rfl ?_
  obtain ⟨ht1, x1, ex1, h⟩ := gI_i h
  refine q_gI cx (pc' := 4) 3 3 fl_X3_26 rfl ht1 ex1 dX3_oneOf_1 rfl ?_
  refine q_if_ne cx (pc' := 7) (tgt := 18) dX3_oneOf_4 (by decide) rfl (fun c4 => ?_) (fun c4 => ?_)
  · replace h := ine c4 h
    refine q_sub cx [0] rfl ?_
    exact hj18 _ h
  · replace h := ip c4 h
    refine q_aload_n cx (pc' := 8) 0 rfl dX3_oneOf_7 rfl ?_
    obtain ⟨ht8, x8, ex8, h⟩ := gI_i h
    refine q_gI cx (pc' := 11) 3 2 fl_X3_23 rfl ht8 ex8 dX3_oneOf_8 rfl ?_
    refine q_aload_n cx (pc' := 12) 0 rfl dX3_oneOf_11 rfl ?_
    obtain ⟨ht12, x12, ex12, h⟩ := gI_i h
    refine q_gI cx (pc' := 15) 3 1 fl_X3_19 rfl ht12 ex12 dX3_oneOf_12 rfl ?_
    refine q_icmp_lt cx (pc' := 18) (tgt := 22) dX3_oneOf_15 (by decide) rfl (fun c15 => ?_) (fun c15 => ?_)
    · replace h := ip c15 h
      refine q_aload_n cx (pc' := 23) 1 rfl dX3_oneOf_22 rfl ?_
      refine q_aload_n cx (pc' := 24) 0 rfl dX3_oneOf_23 rfl ?_
      obtain ⟨ht24, r24, ex24, h⟩ := gR_i h
      refine q_gR cx (pc' := 27) 3 0 fl_X3_11 rfl ht24 ex24 dX3_oneOf_24 rfl ?_
      refine q_aload_n cx (pc' := 28) 0 rfl dX3_oneOf_27 rfl ?_
      obtain ⟨ht28, x28, ex28, h⟩ := gI_i h
      refine q_gI cx (pc' := 31) 3 2 fl_X3_23 rfl ht28 ex28 dX3_oneOf_28 rfl ?_
      obtain ⟨ht31, hi31, x31, ex31, h⟩ := aI_i h
      refine q_cald cx (pc' := 32) ht31 hi31 ex31 dX3_oneOf_31 rfl ?_
      obtain ⟨hk32, h⟩ := sk_i h
      obtain ⟨c32, hc32, h⟩ := bnd_i h
      refine q_callStr cx (pc' := 35) (S := []) (S1 := [.int c32]) (kc' := 0) (ks' := 0) hk32 (ct_J0_indexOf_0f7a4 Γ l M p1 x31 _ hc32) lki_J0_indexOf_0f7a4 lkv_J0_indexOf_0f7a4 lkc_X3_108 rfl rfl rfl (Nat.le_of_ble_eq_true rfl) ⟨(Nat.le_of_ble_eq_true rfl), (Nat.le_of_ble_eq_true rfl)⟩ ⟨(Nat.le_of_ble_eq_true rfl), (Nat.le_of_ble_eq_true rfl)⟩ dX3_oneOf_32 rfl rfl rfl ?_
      refine q_sub cx [0] rfl ?_
      exact hj35 _ _ h
    · replace h := ine c15 h
      refine q_sub cx [0] rfl ?_
      exact hj18 _ h

abbrev rm_X3_valueOf : Room := { frames := 2, cells := 0, slots := 0, locals := 60 }
def fn_X3_valueOf (M : QM) (ths : Nat) (p1 : Int32) (p2 : Int32) : Option Int32 :=
  nm (fn_X8_rowOf p2) fun v3_4 =>
  nm (p2 - p2 / 4 * 4) fun v4_8 =>
  if p1 = 0 then
    some p2
  else if p1 = 1 then
    some v3_4
  else if p1 = 2 then
    some v4_8
  else if p1 = 3 then
    gI M ths 3 4 fun x52 =>
    some x52
  else if p1 = 4 then
    if v3_4 = 0 then
      some 1
    else
      if v3_4 = 3 then
        some 1
      else
        if v4_8 = 0 then
          some 1
        else
          if v4_8 = 3 then
            some 1
          else
            some 0
  else 
    gI M ths 3 5 fun x83 =>
    some x83
set_option maxRecDepth 100000 in
set_option maxHeartbeats 4000000 in
theorem ct_X3_valueOf (Γ : GT) (l : Launch) (M : QM) (ths : Nat) (p1 : Int32) (p2 : Int32) (ht0 : mt M ths = 3) (z : Int32) (h : fn_X3_valueOf M ths p1 p2 = some z) : CT Γ l yX3_valueOf cX3_valueOf 5 (some .int) rm_X3_valueOf (.ref ths :: [.int p1, .int p2]) M (some (.int z)) M := by
  refine ct_intro (own := RX3) (L := [(0, .ref ths), (1, .int p1), (2, .int p2)]) (by decide +kernel) rfl (Nat.le_of_ble_eq_true rfl) rfl ?_
  intro p e s m args below meth c Q hQ cx hnm
  unfold fn_X3_valueOf at h
  refine q_iload_n cx (pc' := 1) 2 rfl dX3_valueOf_0 rfl ?_
  refine q_callS cx (pc' := 4) (S := []) (S1 := [.int (fn_X8_rowOf p2)]) (kc' := 0) (ks' := 0) (ct_X8_rowOf Γ l M p2) lki_X8_rowOf lkv_X8_rowOf lkc_X3_97 rfl rfl (Nat.le_of_ble_eq_true rfl) ⟨(Nat.le_of_ble_eq_true rfl), (Nat.le_of_ble_eq_true rfl)⟩ ⟨(Nat.le_of_ble_eq_true rfl), (Nat.le_of_ble_eq_true rfl)⟩ dX3_valueOf_1 rfl rfl rfl ?_
  obtain ⟨v3_4, ev3_4, h⟩ := nm_i h
  refine q_istore_n cx (pc' := 5) rfl ev3_4 (by decide) (L' := [(3, .int v3_4), (0, .ref ths), (1, .int p1), (2, .int p2)]) rfl dX3_valueOf_4 rfl ?_
  refine q_iload_n cx (pc' := 6) 3 rfl dX3_valueOf_5 rfl ?_
  refine q_iconst cx (pc' := 7) ki_4 dX3_valueOf_6 rfl ?_
  refine q_irem cx (pc' := 8) (by decide) dX3_valueOf_7 rfl ?_
  obtain ⟨v4_8, ev4_8, h⟩ := nm_i h
  refine q_istore cx (pc' := 10) ev4_8 (by decide) (L' := [(4, .int v4_8), (3, .int v3_4), (0, .ref ths), (1, .int p1), (2, .int p2)]) rfl dX3_valueOf_8 rfl ?_
  refine q_iload_n cx (pc' := 11) 3 rfl dX3_valueOf_10 rfl ?_
  rcases Decidable.em (p1 = 0) with c11_0 | c11_0
  · replace h := ip c11_0 h
    refine q_tabIn cx (off := 33) (tgt := 44) c11_0 dX3_valueOf_11 (by decide) (by decide) ?_
    refine q_iload_n cx (pc' := 45) 4 rfl dX3_valueOf_44 rfl ?_
    obtain rfl := o1_i h
    rw [hQ]
    exact q_iret cx dX3_valueOf_45
  replace h := ine c11_0 h
  rcases Decidable.em (p1 = 1) with c11_1 | c11_1
  · replace h := ip c11_1 h
    refine q_tabIn cx (off := 35) (tgt := 46) c11_1 dX3_valueOf_11 (by decide) (by decide) ?_
    refine q_iload_n cx (pc' := 47) 1 rfl dX3_valueOf_46 rfl ?_
    obtain rfl := o1_i h
    rw [hQ]
    exact q_iret cx dX3_valueOf_47
  replace h := ine c11_1 h
  rcases Decidable.em (p1 = 2) with c11_2 | c11_2
  · replace h := ip c11_2 h
    refine q_tabIn cx (off := 37) (tgt := 48) c11_2 dX3_valueOf_11 (by decide) (by decide) ?_
    refine q_iload cx (pc' := 50) 0 rfl dX3_valueOf_48 rfl ?_
    obtain rfl := o1_i h
    rw [hQ]
    exact q_iret cx dX3_valueOf_50
  replace h := ine c11_2 h
  rcases Decidable.em (p1 = 3) with c11_3 | c11_3
  · replace h := ip c11_3 h
    refine q_tabIn cx (off := 40) (tgt := 51) c11_3 dX3_valueOf_11 (by decide) (by decide) ?_
    refine q_aload_n cx (pc' := 52) 2 rfl dX3_valueOf_51 rfl ?_
    obtain ⟨ht52, x52, ex52, h⟩ := gI_i h
    refine q_gI cx (pc' := 55) 3 4 fl_X3_30 rfl ht52 ex52 dX3_valueOf_52 rfl ?_
    obtain rfl := o1_i h
    rw [hQ]
    exact q_iret cx dX3_valueOf_55
  replace h := ine c11_3 h
  rcases Decidable.em (p1 = 4) with c11_4 | c11_4
  · replace h := ip c11_4 h
    refine q_tabIn cx (off := 45) (tgt := 56) c11_4 dX3_valueOf_11 (by decide) (by decide) ?_
    refine q_iload_n cx (pc' := 57) 1 rfl dX3_valueOf_56 rfl ?_
    refine q_if_eq cx (pc' := 60) (tgt := 76) dX3_valueOf_57 (by decide) rfl (fun c57 => ?_) (fun c57 => ?_)
    · replace h := ip c57 h
      refine q_iconst cx (pc' := 77) ki_1 dX3_valueOf_76 rfl ?_
      refine q_goto cx dX3_valueOf_77 (tgt := 81) (by decide) ?_
      obtain rfl := o1_i h
      rw [hQ]
      exact q_iret cx dX3_valueOf_81
    · replace h := ine c57 h
      refine q_iload_n cx (pc' := 61) 1 rfl dX3_valueOf_60 rfl ?_
      refine q_iconst cx (pc' := 62) ki_3 dX3_valueOf_61 rfl ?_
      refine q_icmp_eq cx (pc' := 65) (tgt := 76) dX3_valueOf_62 (by decide) rfl (fun c62 => ?_) (fun c62 => ?_)
      · replace h := ip c62 h
        refine q_iconst cx (pc' := 77) ki_1 dX3_valueOf_76 rfl ?_
        refine q_goto cx dX3_valueOf_77 (tgt := 81) (by decide) ?_
        obtain rfl := o1_i h
        rw [hQ]
        exact q_iret cx dX3_valueOf_81
      · replace h := ine c62 h
        refine q_iload cx (pc' := 67) 0 rfl dX3_valueOf_65 rfl ?_
        refine q_if_eq cx (pc' := 70) (tgt := 76) dX3_valueOf_67 (by decide) rfl (fun c67 => ?_) (fun c67 => ?_)
        · replace h := ip c67 h
          refine q_iconst cx (pc' := 77) ki_1 dX3_valueOf_76 rfl ?_
          refine q_goto cx dX3_valueOf_77 (tgt := 81) (by decide) ?_
          obtain rfl := o1_i h
          rw [hQ]
          exact q_iret cx dX3_valueOf_81
        · replace h := ine c67 h
          refine q_iload cx (pc' := 72) 0 rfl dX3_valueOf_70 rfl ?_
          refine q_iconst cx (pc' := 73) ki_3 dX3_valueOf_72 rfl ?_
          refine q_icmp_ne cx (pc' := 76) (tgt := 80) dX3_valueOf_73 (by decide) rfl (fun c73 => ?_) (fun c73 => ?_)
          · replace h := ine c73 h
            refine q_iconst cx (pc' := 81) ki_0 dX3_valueOf_80 rfl ?_
            obtain rfl := o1_i h
            rw [hQ]
            exact q_iret cx dX3_valueOf_81
          · replace h := ip c73 h
            refine q_iconst cx (pc' := 77) ki_1 dX3_valueOf_76 rfl ?_
            refine q_goto cx dX3_valueOf_77 (tgt := 81) (by decide) ?_
            obtain rfl := o1_i h
            rw [hQ]
            exact q_iret cx dX3_valueOf_81
  replace h := ine c11_4 h
  have nt11_0 := lv_neT c11_0 (a := 0) rfl
  have nt11_1 := lv_neT c11_1 (a := 1) rfl
  have nt11_2 := lv_neT c11_2 (a := 2) rfl
  have nt11_3 := lv_neT c11_3 (a := 3) rfl
  have nt11_4 := lv_neT c11_4 (a := 4) rfl
  refine q_tabOut cx (tgt := 82) dX3_valueOf_11 (by omega) (by decide) ?_
  refine q_aload_n cx (pc' := 83) 2 rfl dX3_valueOf_82 rfl ?_
  obtain ⟨ht83, x83, ex83, h⟩ := gI_i h
  refine q_gI cx (pc' := 86) 3 5 fl_X3_33 rfl ht83 ex83 dX3_valueOf_83 rfl ?_
  obtain rfl := o1_i h
  rw [hQ]
  exact q_iret cx dX3_valueOf_86

abbrev rm_J6_compare_7cf53 : Room := { frames := 1, cells := 0, slots := 0, locals := 40 }
def fn_J6_compare_7cf53 (p0 : Int32) (p1 : Int32) : Int32 :=
  if p1 ≤ p0 then
    if p0 = p1 then
      0
    else
      1
  else
    (-1)
set_option maxRecDepth 100000 in
set_option maxHeartbeats 4000000 in
theorem ct_J6_compare_7cf53 (Γ : GT) (l : Launch) (M : QM) (p0 : Int32) (p1 : Int32) : CT Γ l yJ6_compare_7cf53 cJ6_compare_7cf53 2 (some .int) rm_J6_compare_7cf53 [.int p0, .int p1] M (some (.int (fn_J6_compare_7cf53 p0 p1))) M := by
  generalize h : fn_J6_compare_7cf53 p0 p1 = z
  refine ct_intro (own := RJ6) (L := [(0, .int p0), (1, .int p1)]) (by decide +kernel) rfl (Nat.le_of_ble_eq_true rfl) rfl ?_
  intro p e s m args below meth c Q hQ cx hnm
  unfold fn_J6_compare_7cf53 at h
  refine q_iload_n cx (pc' := 1) 0 rfl dJ6_compare_7cf53_0 rfl ?_
  refine q_iload_n cx (pc' := 2) 1 rfl dJ6_compare_7cf53_1 rfl ?_
  refine q_icmp_ge cx (pc' := 5) (tgt := 9) dJ6_compare_7cf53_2 (by decide) rfl (fun c2 => ?_) (fun c2 => ?_)
  · replace h := ip c2 h
    refine q_iload_n cx (pc' := 10) 0 rfl dJ6_compare_7cf53_9 rfl ?_
    refine q_iload_n cx (pc' := 11) 1 rfl dJ6_compare_7cf53_10 rfl ?_
    refine q_icmp_ne cx (pc' := 14) (tgt := 18) dJ6_compare_7cf53_11 (by decide) rfl (fun c11 => ?_) (fun c11 => ?_)
    · replace h := ine c11 h
      refine q_iconst cx (pc' := 19) ki_1 dJ6_compare_7cf53_18 rfl ?_
      subst h
      rw [hQ]
      exact q_iret cx dJ6_compare_7cf53_19
    · replace h := ip c11 h
      refine q_iconst cx (pc' := 15) ki_0 dJ6_compare_7cf53_14 rfl ?_
      refine q_goto cx dJ6_compare_7cf53_15 (tgt := 19) (by decide) ?_
      subst h
      rw [hQ]
      exact q_iret cx dJ6_compare_7cf53_19
  · replace h := ine c2 h
    refine q_iconst cx (pc' := 6) ki_m1 dJ6_compare_7cf53_5 rfl ?_
    refine q_goto cx dJ6_compare_7cf53_6 (tgt := 19) (by decide) ?_
    subst h
    rw [hQ]
    exact q_iret cx dJ6_compare_7cf53_19

abbrev rm_X3_test : Room := { frames := 6, cells := 0, slots := 0, locals := 168 }
def lp_X3_test_25 (ths : Nat) (M15 : QM) (c10 : Int32) (c15 : Int32) (c3 : Int32) (w4_25 : Int32) (w5_25 : Int32) : Option ((Int32 × Int32) ⊕ (Int32)) :=
  if 16 ≤ w5_25 then
    some (.inr w4_25)
  else
    ck M15 ths 3 <|
    bnd (fn_X3_valueOf M15 ths c3 w5_25) fun c37 =>
    if (1 + (fn_J6_compare_7cf53 c37 c15)) = c10 then
      nm (w4_25 ||| (1 <<< (w5_25 &&& 31))) fun v4_56 =>
      nm (w5_25 + 1) fun v5_58 =>
      some (.inl (v4_56, v5_58))
    else
      nm (w5_25 + 1) fun v5_58 =>
      some (.inl (w4_25, v5_58))
def fn_X3_test (M : QM) (ths : Nat) : Option (Int32 × QM) :=
  bnd (fn_X3_oneOf M ths 6) fun y3 =>
  pr2 y3 fun c3 M3 =>
  ck M3 ths 3 <|
  bnd (fn_X3_oneOf M3 ths 7) fun y10 =>
  pr2 y10 fun c10 M10 =>
  ck M10 ths 3 <|
  bnd (fn_X3_number M10 ths) fun y15 =>
  pr2 y15 fun c15 M15 =>
  bnd (itr (fun s25 : Int32 × Int32 => lp_X3_test_25 ths M15 c10 c15 c3 s25.1 s25.2) FU (0, 0)) fun re_25 =>
  some (re_25, M15)
set_option maxRecDepth 100000 in
set_option maxHeartbeats 4000000 in
theorem ct_X3_test (Γ : GT) (l : Launch) (M : QM) (ths : Nat) (ht0 : mt M ths = 3) (z : Int32) (M' : QM) (h : fn_X3_test M ths = some (z, M')) : CT Γ l yX3_test cX3_test 6 (some .int) rm_X3_test (.ref ths :: []) M (some (.int z)) M' := by
  refine ct_intro (own := RX3) (L := [(0, .ref ths)]) (by decide +kernel) rfl (Nat.le_of_ble_eq_true rfl) rfl ?_
  intro p e s m args below meth c Q hQ cx hnm
  unfold fn_X3_test at h
  refine q_aload_n cx (pc' := 1) 0 rfl dX3_test_0 rfl ?_
  refine q_ldcS cx (pc' := 3) (i := 6) rfl (by decide) rfl dX3_test_1 rfl ?_
  obtain ⟨⟨c3, M3⟩, hc3, h⟩ := bnd_i h
  replace h := pr2_i h
  refine q_callV cx (pc' := 6) (S := []) (S1 := [.int c3]) (kc' := 0) (ks' := 0) 3 (ct_X3_oneOf Γ l M ths 6 ht0 _ _ hc3) lki_X3_oneOf lkv_X3_oneOf lkc_X3_82 ht0 (r := (RX3, TX3, 9)) ⟨rfl, by decide, rfl⟩ rfl rfl (Nat.le_of_ble_eq_true rfl) ⟨(Nat.le_of_ble_eq_true rfl), (Nat.le_of_ble_eq_true rfl)⟩ ⟨(Nat.le_of_ble_eq_true rfl), (Nat.le_of_ble_eq_true rfl)⟩ dX3_test_3 rfl rfl rfl ?_
  refine q_istore_n cx (pc' := 7) rfl rfl (by decide) (L' := [(1, .int c3), (0, .ref ths)]) rfl dX3_test_6 rfl ?_
  refine q_aload_n cx (pc' := 8) 1 rfl dX3_test_7 rfl ?_
  refine q_ldcS cx (pc' := 10) (i := 7) rfl (by decide) rfl dX3_test_8 rfl ?_
  obtain ⟨hk10, h⟩ := ck_i h
  obtain ⟨⟨c10, M10⟩, hc10, h⟩ := bnd_i h
  replace h := pr2_i h
  refine q_callV cx (pc' := 13) (S := []) (S1 := [.int c10]) (kc' := 0) (ks' := 0) 3 (ct_X3_oneOf Γ l M3 ths 7 hk10 _ _ hc10) lki_X3_oneOf lkv_X3_oneOf lkc_X3_82 hk10 (r := (RX3, TX3, 9)) ⟨rfl, by decide, rfl⟩ rfl rfl (Nat.le_of_ble_eq_true rfl) ⟨(Nat.le_of_ble_eq_true rfl), (Nat.le_of_ble_eq_true rfl)⟩ ⟨(Nat.le_of_ble_eq_true rfl), (Nat.le_of_ble_eq_true rfl)⟩ dX3_test_10 rfl rfl rfl ?_
  refine q_istore_n cx (pc' := 14) rfl rfl (by decide) (L' := [(2, .int c10), (1, .int c3), (0, .ref ths)]) rfl dX3_test_13 rfl ?_
  refine q_aload_n cx (pc' := 15) 2 rfl dX3_test_14 rfl ?_
  obtain ⟨hk15, h⟩ := ck_i h
  obtain ⟨⟨c15, M15⟩, hc15, h⟩ := bnd_i h
  replace h := pr2_i h
  refine q_callV cx (pc' := 18) (S := []) (S1 := [.int c15]) (kc' := 0) (ks' := 0) 3 (ct_X3_number Γ l M10 ths hk15 _ _ hc15) lki_X3_number lkv_X3_number lkc_X3_55 hk15 (r := (RX3, TX3, 9)) ⟨rfl, by decide, rfl⟩ rfl rfl (Nat.le_of_ble_eq_true rfl) ⟨(Nat.le_of_ble_eq_true rfl), (Nat.le_of_ble_eq_true rfl)⟩ ⟨(Nat.le_of_ble_eq_true rfl), (Nat.le_of_ble_eq_true rfl)⟩ dX3_test_15 rfl rfl rfl ?_
  refine q_istore_n cx (pc' := 19) rfl rfl (by decide) (L' := [(3, .int c15), (2, .int c10), (1, .int c3), (0, .ref ths)]) rfl dX3_test_18 rfl ?_
  refine q_iconst cx (pc' := 20) ki_0 dX3_test_19 rfl ?_
  refine q_istore cx (pc' := 22) rfl (by decide) (L' := [(4, .int 0), (3, .int c15), (2, .int c10), (1, .int c3), (0, .ref ths)]) rfl dX3_test_20 rfl ?_
  refine q_iconst cx (pc' := 23) ki_0 dX3_test_22 rfl ?_
  refine q_istore cx (pc' := 25) rfl (by decide) (L' := [(5, .int 0), (4, .int 0), (3, .int c15), (2, .int c10), (1, .int c3), (0, .ref ths)]) rfl dX3_test_23 rfl ?_
  obtain ⟨r25, hL25, h⟩ := bnd_i h
  have hk25_r : ∀ (re_25 : Int32), re_25 = r25 → some (re_25, M15) = some (z, M') := by
    intro re_25 hp
    subst hp
    exact h
  have key25 : ∀ (n : Nat) (w4_25 : Int32) (w5_25 : Int32), itr (fun s25 : Int32 × Int32 => lp_X3_test_25 ths M15 c10 c15 c3 s25.1 s25.2) n (w4_25, w5_25) = some r25 → EE p l e rm_X3_test s m args below meth c Q Γ 6 0 0 25 [(0, .ref ths), (1, .int c3), (2, .int c10), (3, .int c15), (4, .int w4_25), (5, .int w5_25)] [] M15 := by
    intro n
    induction n with
    | zero => intro _ _ h; exact (itr_0 h).elim
    | succ n ih =>
      intro w4_25 w5_25 h
      obtain ⟨z25, h, hz25⟩ := itr_i h
      replace h : lp_X3_test_25 ths M15 c10 c15 c3 w4_25 w5_25 = some z25 := h
      unfold lp_X3_test_25 at h
      refine q_iload cx (pc' := 27) 5 rfl dX3_test_25 rfl ?_
      refine q_bipush cx (pc' := 29) kb_16 dX3_test_27 rfl ?_
      refine q_icmp_ge cx (pc' := 32) (tgt := 64) dX3_test_29 (by decide) rfl (fun c29 => ?_) (fun c29 => ?_)
      · replace h := ip c29 h
        refine q_iload cx (pc' := 66) 4 rfl dX3_test_64 rfl ?_
        replace h := hk25_r _ (hz25.2 _ h)
        obtain ⟨rfl, rfl⟩ := o2_i h
        rw [hQ]
        exact q_iret cx dX3_test_66
      · replace h := ine c29 h
        refine q_iconst cx (pc' := 33) ki_1 dX3_test_32 rfl ?_
        refine q_aload_n cx (pc' := 34) 0 rfl dX3_test_33 rfl ?_
        refine q_iload_n cx (pc' := 35) 1 rfl dX3_test_34 rfl ?_
        refine q_iload cx (pc' := 37) 5 rfl dX3_test_35 rfl ?_
        obtain ⟨hk37, h⟩ := ck_i h
        obtain ⟨c37, hc37, h⟩ := bnd_i h
        refine q_callV cx (pc' := 40) (S := [.int 1]) (S1 := [.int c37, .int 1]) (kc' := 0) (ks' := 0) 3 (ct_X3_valueOf Γ l M15 ths c3 w5_25 hk37 _ hc37) lki_X3_valueOf lkv_X3_valueOf lkc_X3_88 hk37 (r := (RX3, TX3, 9)) ⟨rfl, by decide, rfl⟩ rfl rfl (Nat.le_of_ble_eq_true rfl) ⟨(Nat.le_of_ble_eq_true rfl), (Nat.le_of_ble_eq_true rfl)⟩ ⟨(Nat.le_of_ble_eq_true rfl), (Nat.le_of_ble_eq_true rfl)⟩ dX3_test_37 rfl rfl rfl ?_
        refine q_iload_n cx (pc' := 41) 3 rfl dX3_test_40 rfl ?_
        refine q_callS cx (pc' := 44) (S := [.int 1]) (S1 := [.int (fn_J6_compare_7cf53 c37 c15), .int 1]) (kc' := 0) (ks' := 0) (ct_J6_compare_7cf53 Γ l M15 c37 c15) lki_J6_compare_7cf53 lkv_J6_compare_7cf53 lkc_X3_92 rfl rfl (Nat.le_of_ble_eq_true rfl) ⟨(Nat.le_of_ble_eq_true rfl), (Nat.le_of_ble_eq_true rfl)⟩ ⟨(Nat.le_of_ble_eq_true rfl), (Nat.le_of_ble_eq_true rfl)⟩ dX3_test_41 rfl rfl rfl ?_
        refine q_iadd cx (pc' := 45) dX3_test_44 rfl ?_
        refine q_iload_n cx (pc' := 46) 2 rfl dX3_test_45 rfl ?_
        refine q_icmp_ne cx (pc' := 49) (tgt := 58) dX3_test_46 (by decide) rfl (fun c46 => ?_) (fun c46 => ?_)
        · replace h := ine c46 h
          obtain ⟨v5_58, ev5_58, h⟩ := nm_i h
          refine q_iinc cx (pc' := 61) 5 rfl ki_1 ev5_58 (by decide) (L' := [(5, .int v5_58), (0, .ref ths), (1, .int c3), (2, .int c10), (3, .int c15), (4, .int w4_25)]) rfl dX3_test_58 rfl ?_
          refine q_goto cx dX3_test_61 (tgt := 25) (by decide) ?_
          refine q_sub cx [1, 2, 3, 4, 5, 0] rfl ?_
          exact ih _ _ (hz25.1 _ h)
        · replace h := ip c46 h
          refine q_iload cx (pc' := 51) 4 rfl dX3_test_49 rfl ?_
          refine q_iconst cx (pc' := 52) ki_1 dX3_test_51 rfl ?_
          refine q_iload cx (pc' := 54) 5 rfl dX3_test_52 rfl ?_
          refine q_ishl cx (pc' := 55) dX3_test_54 rfl ?_
          refine q_ior cx (pc' := 56) dX3_test_55 rfl ?_
          obtain ⟨v4_56, ev4_56, h⟩ := nm_i h
          refine q_istore cx (pc' := 58) ev4_56 (by decide) (L' := [(4, .int v4_56), (0, .ref ths), (1, .int c3), (2, .int c10), (3, .int c15), (5, .int w5_25)]) rfl dX3_test_56 rfl ?_
          obtain ⟨v5_58, ev5_58, h⟩ := nm_i h
          refine q_iinc cx (pc' := 61) 5 rfl ki_1 ev5_58 (by decide) (L' := [(5, .int v5_58), (4, .int v4_56), (0, .ref ths), (1, .int c3), (2, .int c10), (3, .int c15)]) rfl dX3_test_58 rfl ?_
          refine q_goto cx dX3_test_61 (tgt := 25) (by decide) ?_
          refine q_sub cx [2, 3, 4, 5, 1, 0] rfl ?_
          exact ih _ _ (hz25.1 _ h)
  refine q_sub cx [5, 4, 3, 2, 1, 0] rfl ?_
  exact key25 FU _ _ hL25

abbrev rm_X3_expression (fu : Nat) : Room := { frames := 7 + fu, cells := 0, slots := 0, locals := (193 + fu * 40) }
abbrev rm_X3_factor (fu : Nat) : Room := { frames := 7 + fu, cells := 0, slots := 0, locals := (193 + fu * 40) }
def jn_X3_factor_27 (F : Nat → QM → Nat → Int32 → Option (Int32 × QM)) (ths : Nat) (p1 : Int32) (Mj_27 : QM) : Option (Int32 × QM) :=
  if 4 ≤ p1 then
    ck Mj_27 ths 3 <|
    bnd (fn_X3_test Mj_27 ths) fun y58 =>
    pr2 y58 fun c58 M58 =>
    some (c58, M58)
  else
    ck Mj_27 ths 3 <|
    bnd (fn_X3_takes Mj_27 ths 40) fun y35 =>
    pr2 y35 fun c35 M35 =>
    if c35 = 0 then
      ck M35 ths 3 <|
      bnd (fn_X3_test M35 ths) fun y58 =>
      pr2 y58 fun c58 M58 =>
      some (c58, M58)
    else
      ck M35 ths 3 <|
      bnd (F 0 M35 ths (p1 + 1)) fun y45 =>
      pr2 y45 fun c45 M45 =>
      ck M45 ths 3 <|
      bnd (fn_X3_expect M45 ths 5) fun M52 =>
      some (c45, M52)
def bd_X3_factor (F : Nat → QM → Nat → Int32 → Option (Int32 × QM)) (M : QM) (ths : Nat) (p1 : Int32) : Option (Int32 × QM) :=
  if 4 ≤ p1 then
    jn_X3_factor_27 F ths p1 M
  else
    bnd (fn_X3_takes M ths 33) fun y8 =>
    pr2 y8 fun c8 M8 =>
    if c8 = 0 then
      jn_X3_factor_27 F ths p1 M8
    else
      ck M8 ths 3 <|
      bnd (F 1 M8 ths (p1 + 1)) fun y20 =>
      pr2 y20 fun c20 M20 =>
      some ((65535 &&& (c20 ^^^ (-1))), M20)
set_option maxRecDepth 100000 in
set_option maxHeartbeats 4000000 in
theorem ct_X3_factor (Γ : GT) (l : Launch) (F : Nat → QM → Nat → Int32 → Option (Int32 × QM)) (fu : Nat) (hF0 : ∀ (M : QM) (ths : Nat) (p1 : Int32) (z : Int32) (M' : QM), mt M ths = 3 → F 0 M ths p1 = some (z, M') → CT Γ l yX3_expression cX3_expression 6 (some .int) (rm_X3_expression fu) (.ref ths :: [.int p1]) M (some (.int z)) M') (hF1 : ∀ (M : QM) (ths : Nat) (p1 : Int32) (z : Int32) (M' : QM), mt M ths = 3 → F 1 M ths p1 = some (z, M') → CT Γ l yX3_factor cX3_factor 3 (some .int) (rm_X3_factor fu) (.ref ths :: [.int p1]) M (some (.int z)) M') (M : QM) (ths : Nat) (p1 : Int32) (ht0 : mt M ths = 3) (z : Int32) (M' : QM) (h : bd_X3_factor F M ths p1 = some (z, M')) : CT Γ l yX3_factor cX3_factor 3 (some .int) (rm_X3_factor (fu + 1)) (.ref ths :: [.int p1]) M (some (.int z)) M' := by
  refine ct_intro (own := RX3) (L := [(0, .ref ths), (1, .int p1)]) (by decide +kernel) rfl (Nat.le_of_ble_eq_true rfl) rfl ?_
  intro p e s m args below meth c Q hQ cx hnm
  unfold bd_X3_factor at h
  have hj27 : ∀ (Mj_27 : QM), jn_X3_factor_27 F ths p1 Mj_27 = some (z, M') → EE p l e (rm_X3_factor (fu + 1)) s m args below meth c Q Γ 3 0 0 27 [(0, .ref ths), (1, .int p1)] [] Mj_27 := by
    intro Mj_27 h
    unfold jn_X3_factor_27 at h
    refine q_iload_n cx (pc' := 28) 1 rfl dX3_factor_27 rfl ?_
    refine q_iconst cx (pc' := 29) ki_4 dX3_factor_28 rfl ?_
    refine q_icmp_ge cx (pc' := 32) (tgt := 57) dX3_factor_29 (by decide) rfl (fun c29 => ?_) (fun c29 => ?_)
    · replace h := ip c29 h
      refine q_aload_n cx (pc' := 58) 0 rfl dX3_factor_57 rfl ?_
      obtain ⟨hk58, h⟩ := ck_i h
      obtain ⟨⟨c58, M58⟩, hc58, h⟩ := bnd_i h
      replace h := pr2_i h
      refine q_callV cx (pc' := 61) (S := []) (S1 := [.int c58]) (kc' := 0) (ks' := 0) 3 (ct_X3_test Γ l Mj_27 ths hk58 _ _ hc58) lki_X3_test lkv_X3_test lkc_X3_77 hk58 (r := (RX3, TX3, 9)) ⟨rfl, by decide, rfl⟩ rfl rfl (Nat.le_of_ble_eq_true rfl) ⟨(by show 7 ≤ 7 + (fu + 1); omega), (by show 193 ≤ (193 + (fu + 1) * 40); omega)⟩ ⟨(Nat.le_of_ble_eq_true rfl), (Nat.le_of_ble_eq_true rfl)⟩ dX3_factor_58 rfl rfl rfl ?_
      obtain ⟨rfl, rfl⟩ := o2_i h
      rw [hQ]
      exact q_iret cx dX3_factor_61
    · replace h := ine c29 h
      refine q_aload_n cx (pc' := 33) 0 rfl dX3_factor_32 rfl ?_
      refine q_bipush cx (pc' := 35) kb_40 dX3_factor_33 rfl ?_
      obtain ⟨hk35, h⟩ := ck_i h
      obtain ⟨⟨c35, M35⟩, hc35, h⟩ := bnd_i h
      replace h := pr2_i h
      refine q_callV cx (pc' := 38) (S := []) (S1 := [.int c35]) (kc' := 0) (ks' := 0) 3 (ct_X3_takes Γ l Mj_27 ths 40 hk35 _ _ hc35) lki_X3_takes lkv_X3_takes lkc_X3_45 hk35 (r := (RX3, TX3, 9)) ⟨rfl, by decide, rfl⟩ rfl rfl (Nat.le_of_ble_eq_true rfl) ⟨(by show 2 ≤ 7 + (fu + 1); omega), (by show 61 ≤ (193 + (fu + 1) * 40); omega)⟩ ⟨(Nat.le_of_ble_eq_true rfl), (Nat.le_of_ble_eq_true rfl)⟩ dX3_factor_35 rfl rfl rfl ?_
      refine q_if_eq cx (pc' := 41) (tgt := 57) dX3_factor_38 (by decide) rfl (fun c38 => ?_) (fun c38 => ?_)
      · replace h := ip c38 h
        refine q_aload_n cx (pc' := 58) 0 rfl dX3_factor_57 rfl ?_
        obtain ⟨hk58, h⟩ := ck_i h
        obtain ⟨⟨c58, M58⟩, hc58, h⟩ := bnd_i h
        replace h := pr2_i h
        refine q_callV cx (pc' := 61) (S := []) (S1 := [.int c58]) (kc' := 0) (ks' := 0) 3 (ct_X3_test Γ l M35 ths hk58 _ _ hc58) lki_X3_test lkv_X3_test lkc_X3_77 hk58 (r := (RX3, TX3, 9)) ⟨rfl, by decide, rfl⟩ rfl rfl (Nat.le_of_ble_eq_true rfl) ⟨(by show 7 ≤ 7 + (fu + 1); omega), (by show 193 ≤ (193 + (fu + 1) * 40); omega)⟩ ⟨(Nat.le_of_ble_eq_true rfl), (Nat.le_of_ble_eq_true rfl)⟩ dX3_factor_58 rfl rfl rfl ?_
        obtain ⟨rfl, rfl⟩ := o2_i h
        rw [hQ]
        exact q_iret cx dX3_factor_61
      · replace h := ine c38 h
        refine q_aload_n cx (pc' := 42) 0 rfl dX3_factor_41 rfl ?_
        refine q_iload_n cx (pc' := 43) 1 rfl dX3_factor_42 rfl ?_
        refine q_iconst cx (pc' := 44) ki_1 dX3_factor_43 rfl ?_
        refine q_iadd cx (pc' := 45) dX3_factor_44 rfl ?_
        obtain ⟨hk45, h⟩ := ck_i h
        obtain ⟨⟨c45, M45⟩, hc45, h⟩ := bnd_i h
        replace h := pr2_i h
        refine q_callV cx (pc' := 48) (S := []) (S1 := [.int c45]) (kc' := 0) (ks' := 0) 3 (hF0 _ _ _ _ _ hk45 hc45) lki_X3_expression lkv_X3_expression lkc_X3_67 hk45 (r := (RX3, TX3, 9)) ⟨rfl, by decide, rfl⟩ rfl rfl (Nat.le_of_ble_eq_true rfl) ⟨(by show 7 + fu + 1 ≤ 7 + (fu + 1); omega), (by show 25 + (193 + fu * 40) ≤ (193 + (fu + 1) * 40); omega)⟩ ⟨(Nat.le_of_ble_eq_true rfl), (Nat.le_of_ble_eq_true rfl)⟩ dX3_factor_45 rfl rfl rfl ?_
        refine q_istore_n cx (pc' := 49) rfl rfl (by decide) (L' := [(2, .int c45), (0, .ref ths), (1, .int p1)]) rfl dX3_factor_48 rfl ?_
        refine q_aload_n cx (pc' := 50) 1 rfl dX3_factor_49 rfl ?_
        refine q_ldcS cx (pc' := 52) (i := 5) rfl (by decide) rfl dX3_factor_50 rfl ?_
        obtain ⟨hk52, h⟩ := ck_i h
        obtain ⟨M52, hc52, h⟩ := bnd_i h
        refine q_callV cx (pc' := 55) (S := []) (S1 := []) (kc' := 0) (ks' := 0) 3 (ct_X3_expect Γ l M45 ths 5 hk52 _ hc52) lki_X3_expect lkv_X3_expect lkc_X3_51 hk52 (r := (RX3, TX3, 9)) ⟨rfl, by decide, rfl⟩ rfl rfl (Nat.le_of_ble_eq_true rfl) ⟨(by show 7 ≤ 7 + (fu + 1); omega), (by show 187 ≤ (193 + (fu + 1) * 40); omega)⟩ ⟨(Nat.le_of_ble_eq_true rfl), (Nat.le_of_ble_eq_true rfl)⟩ dX3_factor_52 rfl rfl rfl ?_
        refine q_iload_n cx (pc' := 56) 0 rfl dX3_factor_55 rfl ?_
        obtain ⟨rfl, rfl⟩ := o2_i h
        rw [hQ]
        exact q_iret cx dX3_factor_56
  refine q_iload_n cx (pc' := 1) 1 rfl dX3_factor_0 rfl ?_
  refine q_iconst cx (pc' := 2) ki_4 dX3_factor_1 rfl ?_
  refine q_icmp_ge cx (pc' := 5) (tgt := 27) dX3_factor_2 (by decide) rfl (fun c2 => ?_) (fun c2 => ?_)
  · replace h := ip c2 h
    refine q_sub cx [0, 1] rfl ?_
    exact hj27 _ h
  · replace h := ine c2 h
    refine q_aload_n cx (pc' := 6) 0 rfl dX3_factor_5 rfl ?_
    refine q_bipush cx (pc' := 8) kb_33 dX3_factor_6 rfl ?_
    obtain ⟨⟨c8, M8⟩, hc8, h⟩ := bnd_i h
    replace h := pr2_i h
    refine q_callV cx (pc' := 11) (S := []) (S1 := [.int c8]) (kc' := 0) (ks' := 0) 3 (ct_X3_takes Γ l M ths 33 ht0 _ _ hc8) lki_X3_takes lkv_X3_takes lkc_X3_45 ht0 (r := (RX3, TX3, 9)) ⟨rfl, by decide, rfl⟩ rfl rfl (Nat.le_of_ble_eq_true rfl) ⟨(by show 2 ≤ 7 + (fu + 1); omega), (by show 61 ≤ (193 + (fu + 1) * 40); omega)⟩ ⟨(Nat.le_of_ble_eq_true rfl), (Nat.le_of_ble_eq_true rfl)⟩ dX3_factor_8 rfl rfl rfl ?_
    refine q_if_eq cx (pc' := 14) (tgt := 27) dX3_factor_11 (by decide) rfl (fun c11 => ?_) (fun c11 => ?_)
    · replace h := ip c11 h
      refine q_sub cx [0, 1] rfl ?_
      exact hj27 _ h
    · replace h := ine c11 h
      refine q_ldc cx (pc' := 16) aw_86 dX3_factor_14 rfl ?_
      refine q_aload_n cx (pc' := 17) 0 rfl dX3_factor_16 rfl ?_
      refine q_iload_n cx (pc' := 18) 1 rfl dX3_factor_17 rfl ?_
      refine q_iconst cx (pc' := 19) ki_1 dX3_factor_18 rfl ?_
      refine q_iadd cx (pc' := 20) dX3_factor_19 rfl ?_
      obtain ⟨hk20, h⟩ := ck_i h
      obtain ⟨⟨c20, M20⟩, hc20, h⟩ := bnd_i h
      replace h := pr2_i h
      refine q_callV cx (pc' := 23) (S := [.int 65535]) (S1 := [.int c20, .int 65535]) (kc' := 0) (ks' := 0) 3 (hF1 _ _ _ _ _ hk20 hc20) lki_X3_factor lkv_X3_factor lkc_X3_72 hk20 (r := (RX3, TX3, 9)) ⟨rfl, by decide, rfl⟩ rfl rfl (Nat.le_of_ble_eq_true rfl) ⟨(by show 7 + fu + 1 ≤ 7 + (fu + 1); omega), (by show 22 + (193 + fu * 40) ≤ (193 + (fu + 1) * 40); omega)⟩ ⟨(Nat.le_of_ble_eq_true rfl), (Nat.le_of_ble_eq_true rfl)⟩ dX3_factor_20 rfl rfl rfl ?_
      refine q_iconst cx (pc' := 24) ki_m1 dX3_factor_23 rfl ?_
      refine q_ixor cx (pc' := 25) dX3_factor_24 rfl ?_
      refine q_iand cx (pc' := 26) dX3_factor_25 rfl ?_
      obtain ⟨rfl, rfl⟩ := o2_i h
      rw [hQ]
      exact q_iret cx dX3_factor_26


def lp_X3_expression_11 (F : Nat → QM → Nat → Int32 → Option (Int32 × QM)) (ths : Nat) (p1 : Int32) (w2_11 : Int32) (w3_11 : Int32) (w4_11 : Int32) (w5_11 : Int32) (Mw_11 : QM) : Option ((Int32 × Int32 × Int32 × Int32 × QM) ⊕ (Int32 × QM)) :=
  if 100 ≤ w5_11 then
    some (.inr (w2_11, Mw_11))
  else
    if w4_11 = 0 then
      some (.inr (w2_11, Mw_11))
    else
      ck Mw_11 ths 3 <|
      bnd (F 1 Mw_11 ths p1) fun y26 =>
      pr2 y26 fun c26 M26 =>
      nm (w3_11 &&& c26) fun v3_30 =>
      ck M26 ths 3 <|
      bnd (fn_X3_takes M26 ths 38) fun y34 =>
      pr2 y34 fun c34 M34 =>
      if c34 = 0 then
        nm (w2_11 ||| v3_30) fun v2_47 =>
        ck M34 ths 3 <|
        bnd (fn_X3_takes M34 ths 124) fun y54 =>
        pr2 y54 fun c54 M54 =>
        nm (w5_11 + 1) fun v5_59 =>
        some (.inl (v2_47, 65535, c54, v5_59, M54))
      else
        nm (w5_11 + 1) fun v5_59 =>
        some (.inl (w2_11, v3_30, c34, v5_59, M34))
def bd_X3_expression (F : Nat → QM → Nat → Int32 → Option (Int32 × QM)) (M : QM) (ths : Nat) (p1 : Int32) : Option (Int32 × QM) :=
  bnd (itr (fun s11 : Int32 × Int32 × Int32 × Int32 × QM => lp_X3_expression_11 F ths p1 s11.1 s11.2.1 s11.2.2.1 s11.2.2.2.1 s11.2.2.2.2) FU (0, 65535, 1, 0, M)) fun r11 =>
  pr2 r11 fun re_11 Mr_11 =>
  some (re_11, Mr_11)
set_option maxRecDepth 100000 in
set_option maxHeartbeats 4000000 in
theorem ct_X3_expression (Γ : GT) (l : Launch) (F : Nat → QM → Nat → Int32 → Option (Int32 × QM)) (fu : Nat) (hF0 : ∀ (M : QM) (ths : Nat) (p1 : Int32) (z : Int32) (M' : QM), mt M ths = 3 → F 0 M ths p1 = some (z, M') → CT Γ l yX3_expression cX3_expression 6 (some .int) (rm_X3_expression fu) (.ref ths :: [.int p1]) M (some (.int z)) M') (hF1 : ∀ (M : QM) (ths : Nat) (p1 : Int32) (z : Int32) (M' : QM), mt M ths = 3 → F 1 M ths p1 = some (z, M') → CT Γ l yX3_factor cX3_factor 3 (some .int) (rm_X3_factor fu) (.ref ths :: [.int p1]) M (some (.int z)) M') (M : QM) (ths : Nat) (p1 : Int32) (ht0 : mt M ths = 3) (z : Int32) (M' : QM) (h : bd_X3_expression F M ths p1 = some (z, M')) : CT Γ l yX3_expression cX3_expression 6 (some .int) (rm_X3_expression (fu + 1)) (.ref ths :: [.int p1]) M (some (.int z)) M' := by
  refine ct_intro (own := RX3) (L := [(0, .ref ths), (1, .int p1)]) (by decide +kernel) rfl (Nat.le_of_ble_eq_true rfl) rfl ?_
  intro p e s m args below meth c Q hQ cx hnm
  unfold bd_X3_expression at h
  refine q_iconst cx (pc' := 1) ki_0 dX3_expression_0 rfl ?_
  refine q_istore_n cx (pc' := 2) rfl rfl (by decide) (L' := [(2, .int 0), (0, .ref ths), (1, .int p1)]) rfl dX3_expression_1 rfl ?_
  refine q_ldc cx (pc' := 4) aw_86 dX3_expression_2 rfl ?_
  refine q_istore_n cx (pc' := 5) rfl rfl (by decide) (L' := [(3, .int 65535), (2, .int 0), (0, .ref ths), (1, .int p1)]) rfl dX3_expression_4 rfl ?_
  refine q_iconst cx (pc' := 6) ki_1 dX3_expression_5 rfl ?_
  refine q_istore cx (pc' := 8) rfl (by decide) (L' := [(4, .int 1), (3, .int 65535), (2, .int 0), (0, .ref ths), (1, .int p1)]) rfl dX3_expression_6 rfl ?_
  refine q_iconst cx (pc' := 9) ki_0 dX3_expression_8 rfl ?_
  refine q_istore cx (pc' := 11) rfl (by decide) (L' := [(5, .int 0), (4, .int 1), (3, .int 65535), (2, .int 0), (0, .ref ths), (1, .int p1)]) rfl dX3_expression_9 rfl ?_
  obtain ⟨r11, hL11, h⟩ := bnd_i h
  have hk11_r : ∀ (re_11 : Int32) (Mr_11 : QM), (re_11, Mr_11) = r11 → some (re_11, Mr_11) = some (z, M') := by
    intro re_11 Mr_11 hp
    subst hp
    replace h := pr2_i h
    exact h
  have key11 : ∀ (n : Nat) (w2_11 : Int32) (w3_11 : Int32) (w4_11 : Int32) (w5_11 : Int32) (Mw_11 : QM), itr (fun s11 : Int32 × Int32 × Int32 × Int32 × QM => lp_X3_expression_11 F ths p1 s11.1 s11.2.1 s11.2.2.1 s11.2.2.2.1 s11.2.2.2.2) n (w2_11, w3_11, w4_11, w5_11, Mw_11) = some r11 → EE p l e (rm_X3_expression (fu + 1)) s m args below meth c Q Γ 6 0 0 11 [(0, .ref ths), (1, .int p1), (2, .int w2_11), (3, .int w3_11), (4, .int w4_11), (5, .int w5_11)] [] Mw_11 := by
    intro n
    induction n with
    | zero => intro _ _ _ _ _ h; exact (itr_0 h).elim
    | succ n ih =>
      intro w2_11 w3_11 w4_11 w5_11 Mw_11 h
      obtain ⟨z11, h, hz11⟩ := itr_i h
      replace h : lp_X3_expression_11 F ths p1 w2_11 w3_11 w4_11 w5_11 Mw_11 = some z11 := h
      unfold lp_X3_expression_11 at h
      refine q_iload cx (pc' := 13) 5 rfl dX3_expression_11 rfl ?_
      refine q_bipush cx (pc' := 15) kb_100 dX3_expression_13 rfl ?_
      refine q_icmp_ge cx (pc' := 18) (tgt := 65) dX3_expression_15 (by decide) rfl (fun c15 => ?_) (fun c15 => ?_)
      · replace h := ip c15 h
        refine q_iload_n cx (pc' := 66) 2 rfl dX3_expression_65 rfl ?_
        replace h := hk11_r _ _ (hz11.2 _ h)
        obtain ⟨rfl, rfl⟩ := o2_i h
        rw [hQ]
        exact q_iret cx dX3_expression_66
      · replace h := ine c15 h
        refine q_iload cx (pc' := 20) 4 rfl dX3_expression_18 rfl ?_
        refine q_if_eq cx (pc' := 23) (tgt := 65) dX3_expression_20 (by decide) rfl (fun c20 => ?_) (fun c20 => ?_)
        · replace h := ip c20 h
          refine q_iload_n cx (pc' := 66) 2 rfl dX3_expression_65 rfl ?_
          replace h := hk11_r _ _ (hz11.2 _ h)
          obtain ⟨rfl, rfl⟩ := o2_i h
          rw [hQ]
          exact q_iret cx dX3_expression_66
        · replace h := ine c20 h
          refine q_iload_n cx (pc' := 24) 3 rfl dX3_expression_23 rfl ?_
          refine q_aload_n cx (pc' := 25) 0 rfl dX3_expression_24 rfl ?_
          refine q_iload_n cx (pc' := 26) 1 rfl dX3_expression_25 rfl ?_
          obtain ⟨hk26, h⟩ := ck_i h
          obtain ⟨⟨c26, M26⟩, hc26, h⟩ := bnd_i h
          replace h := pr2_i h
          refine q_callV cx (pc' := 29) (S := [.int w3_11]) (S1 := [.int c26, .int w3_11]) (kc' := 0) (ks' := 0) 3 (hF1 _ _ _ _ _ hk26 hc26) lki_X3_factor lkv_X3_factor lkc_X3_72 hk26 (r := (RX3, TX3, 9)) ⟨rfl, by decide, rfl⟩ rfl rfl (Nat.le_of_ble_eq_true rfl) ⟨(by show 7 + fu + 1 ≤ 7 + (fu + 1); omega), (by show 22 + (193 + fu * 40) ≤ (193 + (fu + 1) * 40); omega)⟩ ⟨(Nat.le_of_ble_eq_true rfl), (Nat.le_of_ble_eq_true rfl)⟩ dX3_expression_26 rfl rfl rfl ?_
          refine q_iand cx (pc' := 30) dX3_expression_29 rfl ?_
          obtain ⟨v3_30, ev3_30, h⟩ := nm_i h
          refine q_istore_n cx (pc' := 31) rfl ev3_30 (by decide) (L' := [(3, .int v3_30), (0, .ref ths), (1, .int p1), (2, .int w2_11), (4, .int w4_11), (5, .int w5_11)]) rfl dX3_expression_30 rfl ?_
          refine q_aload_n cx (pc' := 32) 1 rfl dX3_expression_31 rfl ?_
          refine q_bipush cx (pc' := 34) kb_38 dX3_expression_32 rfl ?_
          obtain ⟨hk34, h⟩ := ck_i h
          obtain ⟨⟨c34, M34⟩, hc34, h⟩ := bnd_i h
          replace h := pr2_i h
          refine q_callV cx (pc' := 37) (S := []) (S1 := [.int c34]) (kc' := 0) (ks' := 0) 3 (ct_X3_takes Γ l M26 ths 38 hk34 _ _ hc34) lki_X3_takes lkv_X3_takes lkc_X3_45 hk34 (r := (RX3, TX3, 9)) ⟨rfl, by decide, rfl⟩ rfl rfl (Nat.le_of_ble_eq_true rfl) ⟨(by show 2 ≤ 7 + (fu + 1); omega), (by show 61 ≤ (193 + (fu + 1) * 40); omega)⟩ ⟨(Nat.le_of_ble_eq_true rfl), (Nat.le_of_ble_eq_true rfl)⟩ dX3_expression_34 rfl rfl rfl ?_
          refine q_istore cx (pc' := 39) rfl (by decide) (L' := [(4, .int c34), (3, .int v3_30), (0, .ref ths), (1, .int p1), (2, .int w2_11), (5, .int w5_11)]) rfl dX3_expression_37 rfl ?_
          refine q_iload cx (pc' := 41) 0 rfl dX3_expression_39 rfl ?_
          refine q_if_ne cx (pc' := 44) (tgt := 59) dX3_expression_41 (by decide) rfl (fun c41 => ?_) (fun c41 => ?_)
          · replace h := ine c41 h
            obtain ⟨v5_59, ev5_59, h⟩ := nm_i h
            refine q_iinc cx (pc' := 62) 5 rfl ki_1 ev5_59 (by decide) (L' := [(5, .int v5_59), (4, .int c34), (3, .int v3_30), (0, .ref ths), (1, .int p1), (2, .int w2_11)]) rfl dX3_expression_59 rfl ?_
            refine q_goto cx dX3_expression_62 (tgt := 11) (by decide) ?_
            refine q_sub cx [3, 4, 5, 2, 1, 0] rfl ?_
            exact ih _ _ _ _ _ (hz11.1 _ h)
          · replace h := ip c41 h
            refine q_iload_n cx (pc' := 45) 4 rfl dX3_expression_44 rfl ?_
            refine q_iload_n cx (pc' := 46) 1 rfl dX3_expression_45 rfl ?_
            refine q_ior cx (pc' := 47) dX3_expression_46 rfl ?_
            obtain ⟨v2_47, ev2_47, h⟩ := nm_i h
            refine q_istore_n cx (pc' := 48) rfl ev2_47 (by decide) (L' := [(2, .int v2_47), (4, .int c34), (3, .int v3_30), (0, .ref ths), (1, .int p1), (5, .int w5_11)]) rfl dX3_expression_47 rfl ?_
            refine q_ldc cx (pc' := 50) aw_86 dX3_expression_48 rfl ?_
            refine q_istore_n cx (pc' := 51) rfl rfl (by decide) (L' := [(3, .int 65535), (2, .int v2_47), (4, .int c34), (0, .ref ths), (1, .int p1), (5, .int w5_11)]) rfl dX3_expression_50 rfl ?_
            refine q_aload_n cx (pc' := 52) 3 rfl dX3_expression_51 rfl ?_
            refine q_bipush cx (pc' := 54) kb_124 dX3_expression_52 rfl ?_
            obtain ⟨hk54, h⟩ := ck_i h
            obtain ⟨⟨c54, M54⟩, hc54, h⟩ := bnd_i h
            replace h := pr2_i h
            refine q_callV cx (pc' := 57) (S := []) (S1 := [.int c54]) (kc' := 0) (ks' := 0) 3 (ct_X3_takes Γ l M34 ths 124 hk54 _ _ hc54) lki_X3_takes lkv_X3_takes lkc_X3_45 hk54 (r := (RX3, TX3, 9)) ⟨rfl, by decide, rfl⟩ rfl rfl (Nat.le_of_ble_eq_true rfl) ⟨(by show 2 ≤ 7 + (fu + 1); omega), (by show 61 ≤ (193 + (fu + 1) * 40); omega)⟩ ⟨(Nat.le_of_ble_eq_true rfl), (Nat.le_of_ble_eq_true rfl)⟩ dX3_expression_54 rfl rfl rfl ?_
            refine q_istore cx (pc' := 59) rfl (by decide) (L' := [(4, .int c54), (3, .int 65535), (2, .int v2_47), (0, .ref ths), (1, .int p1), (5, .int w5_11)]) rfl dX3_expression_57 rfl ?_
            obtain ⟨v5_59, ev5_59, h⟩ := nm_i h
            refine q_iinc cx (pc' := 62) 5 rfl ki_1 ev5_59 (by decide) (L' := [(5, .int v5_59), (4, .int c54), (3, .int 65535), (2, .int v2_47), (0, .ref ths), (1, .int p1)]) rfl dX3_expression_59 rfl ?_
            refine q_goto cx dX3_expression_62 (tgt := 11) (by decide) ?_
            refine q_sub cx [4, 5, 3, 2, 1, 0] rfl ?_
            exact ih _ _ _ _ _ (hz11.1 _ h)
  refine q_sub cx [4, 5, 3, 2, 1, 0] rfl ?_
  exact key11 FU _ _ _ _ _ hL11

def fn_ef : Nat → Nat → QM → Nat → Int32 → Option (Int32 × QM)
  | 0, _, _, _, _ => none
  | n + 1, 0, M, ths, p1 => bd_X3_expression (fn_ef n) M ths p1
  | n + 1, _ + 1, M, ths, p1 => bd_X3_factor (fn_ef n) M ths p1
set_option maxRecDepth 100000 in
theorem ct_ef_all (Γ : GT) (l : Launch) : ∀ n : Nat, (∀ (M : QM) (ths : Nat) (p1 : Int32) (z : Int32) (M' : QM), mt M ths = 3 → fn_ef n 0 M ths p1 = some (z, M') → CT Γ l yX3_expression cX3_expression 6 (some .int) (rm_X3_expression n) (.ref ths :: [.int p1]) M (some (.int z)) M') ∧ (∀ (M : QM) (ths : Nat) (p1 : Int32) (z : Int32) (M' : QM), mt M ths = 3 → fn_ef n 1 M ths p1 = some (z, M') → CT Γ l yX3_factor cX3_factor 3 (some .int) (rm_X3_factor n) (.ref ths :: [.int p1]) M (some (.int z)) M') := by
  intro n
  induction n with
  | zero => exact ⟨(fun M ths p1 z M' _ h => by cases h), (fun M ths p1 z M' _ h => by cases h)⟩
  | succ n ih => exact ⟨(fun M ths p1 z M' ht h => ct_X3_expression Γ l (fn_ef n) n ih.1 ih.2 M ths p1 ht z M' h), (fun M ths p1 z M' ht h => ct_X3_factor Γ l (fn_ef n) n ih.1 ih.2 M ths p1 ht z M' h)⟩
theorem ct_ef_0 (Γ : GT) (l : Launch) (n : Nat) : ∀ (M : QM) (ths : Nat) (p1 : Int32) (z : Int32) (M' : QM), mt M ths = 3 → fn_ef n 0 M ths p1 = some (z, M') → CT Γ l yX3_expression cX3_expression 6 (some .int) (rm_X3_expression n) (.ref ths :: [.int p1]) M (some (.int z)) M' := (ct_ef_all Γ l n).1
theorem ct_ef_1 (Γ : GT) (l : Launch) (n : Nat) : ∀ (M : QM) (ths : Nat) (p1 : Int32) (z : Int32) (M' : QM), mt M ths = 3 → fn_ef n 1 M ths p1 = some (z, M') → CT Γ l yX3_factor cX3_factor 3 (some .int) (rm_X3_factor n) (.ref ths :: [.int p1]) M (some (.int z)) M' := (ct_ef_all Γ l n).2

abbrev rm_X3_clause : Room := { frames := 72, cells := 0, slots := 0, locals := 2778 }
def lp_X3_clause_96 (ths : Nat) (c77 : Int32) (c89 : Int32) (j1_73 : Int32) (w4_96 : Int32) (Mw_96 : QM) : Option ((Int32 × QM) ⊕ (QM)) :=
  if 16 ≤ w4_96 then
    some (.inr Mw_96)
  else
    if (c89 &&& (1 <<< (w4_96 &&& 31))) = 0 then
      nm (w4_96 + 1) fun v4_132 =>
      some (.inl (v4_132, Mw_96))
    else
      gR Mw_96 ths 3 6 fun r113 =>
      aI Mw_96 20 r113 w4_96 fun x119 =>
      if j1_73 = 0 then
        wI Mw_96 20 r113 w4_96 (x119 + c77) fun M131 =>
        nm (w4_96 + 1) fun v4_132 =>
        some (.inl (v4_132, M131))
      else
        wI Mw_96 20 r113 w4_96 (x119 + (-c77)) fun M131 =>
        nm (w4_96 + 1) fun v4_132 =>
        some (.inl (v4_132, M131))
def jn_X3_clause_73 (ths : Nat) (j1_73 : Int32) (js0_73 : Nat) (js1_73 : Nat) (Mj_73 : QM) : Option QM :=
  ck Mj_73 js1_73 3 <|
  bnd (fn_X3_expect Mj_73 js1_73 js0_73) fun M73 =>
  ck M73 ths 3 <|
  bnd (fn_X3_number M73 ths) fun y77 =>
  pr2 y77 fun c77 M77 =>
  ck M77 ths 3 <|
  bnd (fn_X3_expect M77 ths 3) fun M84 =>
  ck M84 ths 3 <|
  bnd (fn_ef 64 0 M84 ths 0) fun y89 =>
  pr2 y89 fun c89 M89 =>
  bnd (itr (fun s96 : Int32 × QM => lp_X3_clause_96 ths c77 c89 j1_73 s96.1 s96.2) FU (0, M89)) fun Mr_96 =>
  some Mr_96
def fn_X3_clause (M : QM) (ths : Nat) : Option QM :=
  bnd (fn_X3_takes M ths 115) fun y3 =>
  pr2 y3 fun c3 M3 =>
  if c3 = 0 then
    ck M3 ths 3 <|
    bnd (fn_X3_takes M3 ths 109) fun y27 =>
    pr2 y27 fun c27 M27 =>
    if c27 = 0 then
      ck M27 ths 3 <|
      bnd (fn_X3_expect M27 ths 2) fun M51 =>
      ck M51 ths 3 <|
      bnd (fn_X3_takes M51 ths 110) fun y57 =>
      pr2 y57 fun c57 M57 =>
      if c57 = 0 then
        jn_X3_clause_73 ths c57 4 ths M57
      else
        jn_X3_clause_73 ths c57 3 ths M57
    else
      ck M27 ths 3 <|
      bnd (fn_X3_expect M27 ths 1) fun M36 =>
      ck M36 ths 3 <|
      bnd (fn_X3_number M36 ths) fun y41 =>
      pr2 y41 fun c41 M41 =>
      pI M41 ths 3 8 c41 fun M44 =>
      some M44
  else
    ck M3 ths 3 <|
    bnd (fn_X3_expect M3 ths 0) fun M12 =>
    ck M12 ths 3 <|
    bnd (fn_X3_number M12 ths) fun y17 =>
    pr2 y17 fun c17 M17 =>
    pI M17 ths 3 7 c17 fun M20 =>
    some M20
set_option maxRecDepth 100000 in
set_option maxHeartbeats 4000000 in
theorem ct_X3_clause (Γ : GT) (l : Launch) (M : QM) (ths : Nat) (ht0 : mt M ths = 3) (M' : QM) (h : fn_X3_clause M ths = some M') : CT Γ l yX3_clause cX3_clause 5 none rm_X3_clause (.ref ths :: []) M none M' := by
  refine ct_intro (own := RX3) (L := [(0, .ref ths)]) (by decide +kernel) rfl (Nat.le_of_ble_eq_true rfl) rfl ?_
  intro p e s m args below meth c Q hQ cx hnm
  unfold fn_X3_clause at h
  have hj73 : ∀ (j1_73 : Int32) (js0_73 : Nat) (js1_73 : Nat) (Mj_73 : QM), jn_X3_clause_73 ths j1_73 js0_73 js1_73 Mj_73 = some M' → EE p l e rm_X3_clause s m args below meth c Q Γ 5 0 0 73 [(0, .ref ths), (1, .int j1_73)] [.ref (gS Γ (2 + js0_73)), .ref js1_73] Mj_73 := by
    intro j1_73 js0_73 js1_73 Mj_73 h
    unfold jn_X3_clause_73 at h
    obtain ⟨hk73, h⟩ := ck_i h
    obtain ⟨M73, hc73, h⟩ := bnd_i h
    refine q_callV cx (pc' := 76) (S := []) (S1 := []) (kc' := 0) (ks' := 0) 3 (ct_X3_expect Γ l Mj_73 js1_73 js0_73 hk73 _ hc73) lki_X3_expect lkv_X3_expect lkc_X3_51 hk73 (r := (RX3, TX3, 9)) ⟨rfl, by decide, rfl⟩ rfl rfl (Nat.le_of_ble_eq_true rfl) ⟨(Nat.le_of_ble_eq_true rfl), (Nat.le_of_ble_eq_true rfl)⟩ ⟨(Nat.le_of_ble_eq_true rfl), (Nat.le_of_ble_eq_true rfl)⟩ dX3_clause_73 rfl rfl rfl ?_
    refine q_aload_n cx (pc' := 77) 0 rfl dX3_clause_76 rfl ?_
    obtain ⟨hk77, h⟩ := ck_i h
    obtain ⟨⟨c77, M77⟩, hc77, h⟩ := bnd_i h
    replace h := pr2_i h
    refine q_callV cx (pc' := 80) (S := []) (S1 := [.int c77]) (kc' := 0) (ks' := 0) 3 (ct_X3_number Γ l M73 ths hk77 _ _ hc77) lki_X3_number lkv_X3_number lkc_X3_55 hk77 (r := (RX3, TX3, 9)) ⟨rfl, by decide, rfl⟩ rfl rfl (Nat.le_of_ble_eq_true rfl) ⟨(Nat.le_of_ble_eq_true rfl), (Nat.le_of_ble_eq_true rfl)⟩ ⟨(Nat.le_of_ble_eq_true rfl), (Nat.le_of_ble_eq_true rfl)⟩ dX3_clause_77 rfl rfl rfl ?_
    refine q_istore_n cx (pc' := 81) rfl rfl (by decide) (L' := [(2, .int c77), (0, .ref ths), (1, .int j1_73)]) rfl dX3_clause_80 rfl ?_
    refine q_aload_n cx (pc' := 82) 1 rfl dX3_clause_81 rfl ?_
    refine q_ldcS cx (pc' := 84) (i := 3) rfl (by decide) rfl dX3_clause_82 rfl ?_
    obtain ⟨hk84, h⟩ := ck_i h
    obtain ⟨M84, hc84, h⟩ := bnd_i h
    refine q_callV cx (pc' := 87) (S := []) (S1 := []) (kc' := 0) (ks' := 0) 3 (ct_X3_expect Γ l M77 ths 3 hk84 _ hc84) lki_X3_expect lkv_X3_expect lkc_X3_51 hk84 (r := (RX3, TX3, 9)) ⟨rfl, by decide, rfl⟩ rfl rfl (Nat.le_of_ble_eq_true rfl) ⟨(Nat.le_of_ble_eq_true rfl), (Nat.le_of_ble_eq_true rfl)⟩ ⟨(Nat.le_of_ble_eq_true rfl), (Nat.le_of_ble_eq_true rfl)⟩ dX3_clause_84 rfl rfl rfl ?_
    refine q_aload_n cx (pc' := 88) 1 rfl dX3_clause_87 rfl ?_
    refine q_iconst cx (pc' := 89) ki_0 dX3_clause_88 rfl ?_
    obtain ⟨hk89, h⟩ := ck_i h
    obtain ⟨⟨c89, M89⟩, hc89, h⟩ := bnd_i h
    replace h := pr2_i h
    refine q_callV cx (pc' := 92) (S := []) (S1 := [.int c89]) (kc' := 0) (ks' := 0) 3 (ct_ef_0 Γ l 64 _ _ _ _ _ hk89 hc89) lki_X3_expression lkv_X3_expression lkc_X3_67 hk89 (r := (RX3, TX3, 9)) ⟨rfl, by decide, rfl⟩ rfl rfl (Nat.le_of_ble_eq_true rfl) ⟨(Nat.le_of_ble_eq_true rfl), (Nat.le_of_ble_eq_true rfl)⟩ ⟨(Nat.le_of_ble_eq_true rfl), (Nat.le_of_ble_eq_true rfl)⟩ dX3_clause_89 rfl rfl rfl ?_
    refine q_istore_n cx (pc' := 93) rfl rfl (by decide) (L' := [(3, .int c89), (2, .int c77), (0, .ref ths), (1, .int j1_73)]) rfl dX3_clause_92 rfl ?_
    refine q_iconst cx (pc' := 94) ki_0 dX3_clause_93 rfl ?_
    refine q_istore cx (pc' := 96) rfl (by decide) (L' := [(4, .int 0), (3, .int c89), (2, .int c77), (0, .ref ths), (1, .int j1_73)]) rfl dX3_clause_94 rfl ?_
    obtain ⟨r96, hL96, h⟩ := bnd_i h
    have hk96_r : ∀ (Mr_96 : QM), Mr_96 = r96 → some Mr_96 = some M' := by
      intro Mr_96 hp
      subst hp
      exact h
    have key96 : ∀ (n : Nat) (w4_96 : Int32) (Mw_96 : QM), itr (fun s96 : Int32 × QM => lp_X3_clause_96 ths c77 c89 j1_73 s96.1 s96.2) n (w4_96, Mw_96) = some r96 → EE p l e rm_X3_clause s m args below meth c Q Γ 5 0 0 96 [(0, .ref ths), (1, .int j1_73), (2, .int c77), (3, .int c89), (4, .int w4_96)] [] Mw_96 := by
      intro n
      induction n with
      | zero => intro _ _ h; exact (itr_0 h).elim
      | succ n ih =>
        intro w4_96 Mw_96 h
        obtain ⟨z96, h, hz96⟩ := itr_i h
        replace h : lp_X3_clause_96 ths c77 c89 j1_73 w4_96 Mw_96 = some z96 := h
        unfold lp_X3_clause_96 at h
        refine q_iload cx (pc' := 98) 4 rfl dX3_clause_96 rfl ?_
        refine q_bipush cx (pc' := 100) kb_16 dX3_clause_98 rfl ?_
        refine q_icmp_ge cx (pc' := 103) (tgt := 138) dX3_clause_100 (by decide) rfl (fun c100 => ?_) (fun c100 => ?_)
        · replace h := ip c100 h
          replace h := hk96_r _ (hz96.2 _ h)
          obtain rfl := o1_i h
          rw [hQ]
          exact q_vret cx dX3_clause_138
        · replace h := ine c100 h
          refine q_iload_n cx (pc' := 104) 3 rfl dX3_clause_103 rfl ?_
          refine q_iconst cx (pc' := 105) ki_1 dX3_clause_104 rfl ?_
          refine q_iload cx (pc' := 107) 4 rfl dX3_clause_105 rfl ?_
          refine q_ishl cx (pc' := 108) dX3_clause_107 rfl ?_
          refine q_iand cx (pc' := 109) dX3_clause_108 rfl ?_
          refine q_if_eq cx (pc' := 112) (tgt := 132) dX3_clause_109 (by decide) rfl (fun c109 => ?_) (fun c109 => ?_)
          · replace h := ip c109 h
            obtain ⟨v4_132, ev4_132, h⟩ := nm_i h
            refine q_iinc cx (pc' := 135) 4 rfl ki_1 ev4_132 (by decide) (L' := [(4, .int v4_132), (0, .ref ths), (1, .int j1_73), (2, .int c77), (3, .int c89)]) rfl dX3_clause_132 rfl ?_
            refine q_goto cx dX3_clause_135 (tgt := 96) (by decide) ?_
            refine q_sub cx [1, 2, 3, 4, 0] rfl ?_
            exact ih _ _ (hz96.1 _ h)
          · replace h := ine c109 h
            refine q_aload_n cx (pc' := 113) 0 rfl dX3_clause_112 rfl ?_
            obtain ⟨ht113, r113, ex113, h⟩ := gR_i h
            refine q_gR cx (pc' := 116) 3 6 fl_X3_15 rfl ht113 ex113 dX3_clause_113 rfl ?_
            refine q_iload cx (pc' := 118) 4 rfl dX3_clause_116 rfl ?_
            refine q_dup2 cx (pc' := 119) rfl rfl dX3_clause_118 rfl ?_
            obtain ⟨ht119, hi119, x119, ex119, h⟩ := aI_i h
            refine q_iald cx (pc' := 120) ht119 hi119 ex119 dX3_clause_119 rfl ?_
            refine q_iload_n cx (pc' := 121) 1 rfl dX3_clause_120 rfl ?_
            refine q_if_eq cx (pc' := 124) (tgt := 129) dX3_clause_121 (by decide) rfl (fun c121 => ?_) (fun c121 => ?_)
            · replace h := ip c121 h
              refine q_iload_n cx (pc' := 130) 2 rfl dX3_clause_129 rfl ?_
              refine q_iadd cx (pc' := 131) dX3_clause_130 rfl ?_
              obtain ⟨ht131, hi131, M131, eM131, h⟩ := wI_i h
              refine q_iast cx (pc' := 132) ht131 hi131 eM131 dX3_clause_131 rfl ?_
              obtain ⟨v4_132, ev4_132, h⟩ := nm_i h
              refine q_iinc cx (pc' := 135) 4 rfl ki_1 ev4_132 (by decide) (L' := [(4, .int v4_132), (0, .ref ths), (1, .int j1_73), (2, .int c77), (3, .int c89)]) rfl dX3_clause_132 rfl ?_
              refine q_goto cx dX3_clause_135 (tgt := 96) (by decide) ?_
              refine q_sub cx [1, 2, 3, 4, 0] rfl ?_
              exact ih _ _ (hz96.1 _ h)
            · replace h := ine c121 h
              refine q_iload_n cx (pc' := 125) 2 rfl dX3_clause_124 rfl ?_
              refine q_ineg cx (pc' := 126) dX3_clause_125 rfl ?_
              refine q_goto cx dX3_clause_126 (tgt := 130) (by decide) ?_
              refine q_iadd cx (pc' := 131) dX3_clause_130 rfl ?_
              obtain ⟨ht131, hi131, M131, eM131, h⟩ := wI_i h
              refine q_iast cx (pc' := 132) ht131 hi131 eM131 dX3_clause_131 rfl ?_
              obtain ⟨v4_132, ev4_132, h⟩ := nm_i h
              refine q_iinc cx (pc' := 135) 4 rfl ki_1 ev4_132 (by decide) (L' := [(4, .int v4_132), (0, .ref ths), (1, .int j1_73), (2, .int c77), (3, .int c89)]) rfl dX3_clause_132 rfl ?_
              refine q_goto cx dX3_clause_135 (tgt := 96) (by decide) ?_
              refine q_sub cx [1, 2, 3, 4, 0] rfl ?_
              exact ih _ _ (hz96.1 _ h)
    refine q_sub cx [3, 4, 2, 1, 0] rfl ?_
    exact key96 FU _ _ hL96
  refine q_aload_n cx (pc' := 1) 0 rfl dX3_clause_0 rfl ?_
  refine q_bipush cx (pc' := 3) kb_115 dX3_clause_1 rfl ?_
  obtain ⟨⟨c3, M3⟩, hc3, h⟩ := bnd_i h
  replace h := pr2_i h
  refine q_callV cx (pc' := 6) (S := []) (S1 := [.int c3]) (kc' := 0) (ks' := 0) 3 (ct_X3_takes Γ l M ths 115 ht0 _ _ hc3) lki_X3_takes lkv_X3_takes lkc_X3_45 ht0 (r := (RX3, TX3, 9)) ⟨rfl, by decide, rfl⟩ rfl rfl (Nat.le_of_ble_eq_true rfl) ⟨(Nat.le_of_ble_eq_true rfl), (Nat.le_of_ble_eq_true rfl)⟩ ⟨(Nat.le_of_ble_eq_true rfl), (Nat.le_of_ble_eq_true rfl)⟩ dX3_clause_3 rfl rfl rfl ?_
  refine q_if_eq cx (pc' := 9) (tgt := 24) dX3_clause_6 (by decide) rfl (fun c6 => ?_) (fun c6 => ?_)
  · replace h := ip c6 h
    refine q_aload_n cx (pc' := 25) 0 rfl dX3_clause_24 rfl ?_
    refine q_bipush cx (pc' := 27) kb_109 dX3_clause_25 rfl ?_
    obtain ⟨hk27, h⟩ := ck_i h
    obtain ⟨⟨c27, M27⟩, hc27, h⟩ := bnd_i h
    replace h := pr2_i h
    refine q_callV cx (pc' := 30) (S := []) (S1 := [.int c27]) (kc' := 0) (ks' := 0) 3 (ct_X3_takes Γ l M3 ths 109 hk27 _ _ hc27) lki_X3_takes lkv_X3_takes lkc_X3_45 hk27 (r := (RX3, TX3, 9)) ⟨rfl, by decide, rfl⟩ rfl rfl (Nat.le_of_ble_eq_true rfl) ⟨(Nat.le_of_ble_eq_true rfl), (Nat.le_of_ble_eq_true rfl)⟩ ⟨(Nat.le_of_ble_eq_true rfl), (Nat.le_of_ble_eq_true rfl)⟩ dX3_clause_27 rfl rfl rfl ?_
    refine q_if_eq cx (pc' := 33) (tgt := 48) dX3_clause_30 (by decide) rfl (fun c30 => ?_) (fun c30 => ?_)
    · replace h := ip c30 h
      refine q_aload_n cx (pc' := 49) 0 rfl dX3_clause_48 rfl ?_
      refine q_ldcS cx (pc' := 51) (i := 2) rfl (by decide) rfl dX3_clause_49 rfl ?_
      obtain ⟨hk51, h⟩ := ck_i h
      obtain ⟨M51, hc51, h⟩ := bnd_i h
      refine q_callV cx (pc' := 54) (S := []) (S1 := []) (kc' := 0) (ks' := 0) 3 (ct_X3_expect Γ l M27 ths 2 hk51 _ hc51) lki_X3_expect lkv_X3_expect lkc_X3_51 hk51 (r := (RX3, TX3, 9)) ⟨rfl, by decide, rfl⟩ rfl rfl (Nat.le_of_ble_eq_true rfl) ⟨(Nat.le_of_ble_eq_true rfl), (Nat.le_of_ble_eq_true rfl)⟩ ⟨(Nat.le_of_ble_eq_true rfl), (Nat.le_of_ble_eq_true rfl)⟩ dX3_clause_51 rfl rfl rfl ?_
      refine q_aload_n cx (pc' := 55) 0 rfl dX3_clause_54 rfl ?_
      refine q_bipush cx (pc' := 57) kb_110 dX3_clause_55 rfl ?_
      obtain ⟨hk57, h⟩ := ck_i h
      obtain ⟨⟨c57, M57⟩, hc57, h⟩ := bnd_i h
      replace h := pr2_i h
      refine q_callV cx (pc' := 60) (S := []) (S1 := [.int c57]) (kc' := 0) (ks' := 0) 3 (ct_X3_takes Γ l M51 ths 110 hk57 _ _ hc57) lki_X3_takes lkv_X3_takes lkc_X3_45 hk57 (r := (RX3, TX3, 9)) ⟨rfl, by decide, rfl⟩ rfl rfl (Nat.le_of_ble_eq_true rfl) ⟨(Nat.le_of_ble_eq_true rfl), (Nat.le_of_ble_eq_true rfl)⟩ ⟨(Nat.le_of_ble_eq_true rfl), (Nat.le_of_ble_eq_true rfl)⟩ dX3_clause_57 rfl rfl rfl ?_
      refine q_istore_n cx (pc' := 61) rfl rfl (by decide) (L' := [(1, .int c57), (0, .ref ths)]) rfl dX3_clause_60 rfl ?_
      refine q_aload_n cx (pc' := 62) 1 rfl dX3_clause_61 rfl ?_
      refine q_iload_n cx (pc' := 63) 0 rfl dX3_clause_62 rfl ?_
      refine q_if_eq cx (pc' := 66) (tgt := 71) dX3_clause_63 (by decide) rfl (fun c63 => ?_) (fun c63 => ?_)
      · replace h := ip c63 h
        refine q_ldcS cx (pc' := 73) (i := 4) rfl (by decide) rfl dX3_clause_71 rfl ?_
        refine q_sub cx [1, 0] rfl ?_
        exact hj73 _ _ _ _ h
      · replace h := ine c63 h
        refine q_ldcS cx (pc' := 68) (i := 3) rfl (by decide) rfl dX3_clause_66 rfl ?_
        refine q_goto cx dX3_clause_68 (tgt := 73) (by decide) ?_
        refine q_sub cx [1, 0] rfl ?_
        exact hj73 _ _ _ _ h
    · replace h := ine c30 h
      refine q_aload_n cx (pc' := 34) 0 rfl dX3_clause_33 rfl ?_
      refine q_ldcS cx (pc' := 36) (i := 1) rfl (by decide) rfl dX3_clause_34 rfl ?_
      obtain ⟨hk36, h⟩ := ck_i h
      obtain ⟨M36, hc36, h⟩ := bnd_i h
      refine q_callV cx (pc' := 39) (S := []) (S1 := []) (kc' := 0) (ks' := 0) 3 (ct_X3_expect Γ l M27 ths 1 hk36 _ hc36) lki_X3_expect lkv_X3_expect lkc_X3_51 hk36 (r := (RX3, TX3, 9)) ⟨rfl, by decide, rfl⟩ rfl rfl (Nat.le_of_ble_eq_true rfl) ⟨(Nat.le_of_ble_eq_true rfl), (Nat.le_of_ble_eq_true rfl)⟩ ⟨(Nat.le_of_ble_eq_true rfl), (Nat.le_of_ble_eq_true rfl)⟩ dX3_clause_36 rfl rfl rfl ?_
      refine q_aload_n cx (pc' := 40) 0 rfl dX3_clause_39 rfl ?_
      refine q_aload_n cx (pc' := 41) 0 rfl dX3_clause_40 rfl ?_
      obtain ⟨hk41, h⟩ := ck_i h
      obtain ⟨⟨c41, M41⟩, hc41, h⟩ := bnd_i h
      replace h := pr2_i h
      refine q_callV cx (pc' := 44) (S := [.ref ths]) (S1 := [.int c41, .ref ths]) (kc' := 0) (ks' := 0) 3 (ct_X3_number Γ l M36 ths hk41 _ _ hc41) lki_X3_number lkv_X3_number lkc_X3_55 hk41 (r := (RX3, TX3, 9)) ⟨rfl, by decide, rfl⟩ rfl rfl (Nat.le_of_ble_eq_true rfl) ⟨(Nat.le_of_ble_eq_true rfl), (Nat.le_of_ble_eq_true rfl)⟩ ⟨(Nat.le_of_ble_eq_true rfl), (Nat.le_of_ble_eq_true rfl)⟩ dX3_clause_41 rfl rfl rfl ?_
      obtain ⟨ht44, M44, eM44, h⟩ := pI_i h
      refine q_pI cx (pc' := 47) 3 8 fl_X3_39 rfl ht44 (ty := .int) ⟨(RX3, TX3, 9), rfl, by decide +kernel, Or.inl rfl⟩ rfl rfl eM44 dX3_clause_44 rfl ?_
      obtain rfl := o1_i h
      rw [hQ]
      exact q_vret cx dX3_clause_47
  · replace h := ine c6 h
    refine q_aload_n cx (pc' := 10) 0 rfl dX3_clause_9 rfl ?_
    refine q_ldcS cx (pc' := 12) (i := 0) rfl (by decide) rfl dX3_clause_10 rfl ?_
    obtain ⟨hk12, h⟩ := ck_i h
    obtain ⟨M12, hc12, h⟩ := bnd_i h
    refine q_callV cx (pc' := 15) (S := []) (S1 := []) (kc' := 0) (ks' := 0) 3 (ct_X3_expect Γ l M3 ths 0 hk12 _ hc12) lki_X3_expect lkv_X3_expect lkc_X3_51 hk12 (r := (RX3, TX3, 9)) ⟨rfl, by decide, rfl⟩ rfl rfl (Nat.le_of_ble_eq_true rfl) ⟨(Nat.le_of_ble_eq_true rfl), (Nat.le_of_ble_eq_true rfl)⟩ ⟨(Nat.le_of_ble_eq_true rfl), (Nat.le_of_ble_eq_true rfl)⟩ dX3_clause_12 rfl rfl rfl ?_
    refine q_aload_n cx (pc' := 16) 0 rfl dX3_clause_15 rfl ?_
    refine q_aload_n cx (pc' := 17) 0 rfl dX3_clause_16 rfl ?_
    obtain ⟨hk17, h⟩ := ck_i h
    obtain ⟨⟨c17, M17⟩, hc17, h⟩ := bnd_i h
    replace h := pr2_i h
    refine q_callV cx (pc' := 20) (S := [.ref ths]) (S1 := [.int c17, .ref ths]) (kc' := 0) (ks' := 0) 3 (ct_X3_number Γ l M12 ths hk17 _ _ hc17) lki_X3_number lkv_X3_number lkc_X3_55 hk17 (r := (RX3, TX3, 9)) ⟨rfl, by decide, rfl⟩ rfl rfl (Nat.le_of_ble_eq_true rfl) ⟨(Nat.le_of_ble_eq_true rfl), (Nat.le_of_ble_eq_true rfl)⟩ ⟨(Nat.le_of_ble_eq_true rfl), (Nat.le_of_ble_eq_true rfl)⟩ dX3_clause_17 rfl rfl rfl ?_
    obtain ⟨ht20, M20, eM20, h⟩ := pI_i h
    refine q_pI cx (pc' := 23) 3 7 fl_X3_36 rfl ht20 (ty := .int) ⟨(RX3, TX3, 9), rfl, by decide +kernel, Or.inl rfl⟩ rfl rfl eM20 dX3_clause_20 rfl ?_
    obtain rfl := o1_i h
    rw [hQ]
    exact q_vret cx dX3_clause_23

abbrev rm_X3_faultFor : Room := { frames := 73, cells := 0, slots := 0, locals := 2802 }
def lp_X3_faultFor_34 (ths : Nat) (w3_34 : Int32) (Mw_34 : QM) : Option ((Int32 × QM) ⊕ (QM)) :=
  if 16 ≤ w3_34 then
    some (.inr Mw_34)
  else
    gR Mw_34 ths 3 6 fun r41 =>
    wI Mw_34 20 r41 w3_34 2 fun M46 =>
    nm (w3_34 + 1) fun v3_47 =>
    some (.inl (v3_47, M46))
def lp_X3_faultFor_59 (ths : Nat) (w3_59 : Int32) (Mw_59 : QM) : Option ((Int32 × QM) ⊕ (QM)) :=
  if 10 ≤ w3_59 then
    some (.inr Mw_59)
  else
    ck Mw_59 ths 3 <|
    bnd (fn_X3_takes Mw_59 ths 59) fun y68 =>
    pr2 y68 fun c68 M68 =>
    if c68 = 0 then
      some (.inr M68)
    else
      ck M68 ths 3 <|
      bnd (fn_X3_clause M68 ths) fun M75 =>
      nm (w3_59 + 1) fun v3_78 =>
      some (.inl (v3_78, M75))
def fn_X3_faultFor (M : QM) (ths : Nat) (p1 : Int32) (p2 : Int32) : Option (Int32 × QM) :=
  pI M ths 3 2 0 fun M2 =>
  pI M2 ths 3 3 0 fun M7 =>
  pI M7 ths 3 4 p1 fun M12 =>
  pI M12 ths 3 5 p2 fun M17 =>
  pI M17 ths 3 7 99 fun M23 =>
  pI M23 ths 3 8 10 fun M29 =>
  bnd (itr (fun s34 : Int32 × QM => lp_X3_faultFor_34 ths s34.1 s34.2) FU (0, M29)) fun Me_34 =>
  ck Me_34 ths 3 <|
  bnd (fn_X3_clause Me_34 ths) fun M54 =>
  bnd (itr (fun s59 : Int32 × QM => lp_X3_faultFor_59 ths s59.1 s59.2) FU (1, M54)) fun Me_59 =>
  gI Me_59 ths 3 3 fun x85 =>
  if x85 = 0 then
    gI Me_59 ths 3 2 fun x92 =>
    gI Me_59 ths 3 1 fun x96 =>
    if x96 ≤ x92 then
      some ((-1), Me_59)
    else
      gI Me_59 ths 3 2 fun x103 =>
      some (x103, Me_59)
  else
    gI Me_59 ths 3 2 fun x103 =>
    some (x103, Me_59)
set_option maxRecDepth 100000 in
set_option maxHeartbeats 4000000 in
theorem ct_X3_faultFor (Γ : GT) (l : Launch) (M : QM) (ths : Nat) (p1 : Int32) (p2 : Int32) (ht0 : mt M ths = 3) (z : Int32) (M' : QM) (h : fn_X3_faultFor M ths p1 p2 = some (z, M')) : CT Γ l yX3_faultFor cX3_faultFor 4 (some .int) rm_X3_faultFor (.ref ths :: [.int p1, .int p2]) M (some (.int z)) M' := by
  refine ct_intro (own := RX3) (L := [(0, .ref ths), (1, .int p1), (2, .int p2)]) (by decide +kernel) rfl (Nat.le_of_ble_eq_true rfl) rfl ?_
  intro p e s m args below meth c Q hQ cx hnm
  unfold fn_X3_faultFor at h
  refine q_aload_n cx (pc' := 1) 0 rfl dX3_faultFor_0 rfl ?_
  refine q_iconst cx (pc' := 2) ki_0 dX3_faultFor_1 rfl ?_
  obtain ⟨ht2, M2, eM2, h⟩ := pI_i h
  refine q_pI cx (pc' := 5) 3 2 fl_X3_23 rfl ht2 (ty := .int) ⟨(RX3, TX3, 9), rfl, by decide +kernel, Or.inl rfl⟩ rfl rfl eM2 dX3_faultFor_2 rfl ?_
  refine q_aload_n cx (pc' := 6) 0 rfl dX3_faultFor_5 rfl ?_
  refine q_iconst cx (pc' := 7) ki_0 dX3_faultFor_6 rfl ?_
  obtain ⟨ht7, M7, eM7, h⟩ := pI_i h
  refine q_pI cx (pc' := 10) 3 3 fl_X3_26 rfl ht7 (ty := .boolean) ⟨(RX3, TX3, 9), rfl, by decide +kernel, Or.inl rfl⟩ (by decide) (by decide) eM7 dX3_faultFor_7 rfl ?_
  refine q_aload_n cx (pc' := 11) 0 rfl dX3_faultFor_10 rfl ?_
  refine q_iload_n cx (pc' := 12) 1 rfl dX3_faultFor_11 rfl ?_
  obtain ⟨ht12, M12, eM12, h⟩ := pI_i h
  refine q_pI cx (pc' := 15) 3 4 fl_X3_30 rfl ht12 (ty := .int) ⟨(RX3, TX3, 9), rfl, by decide +kernel, Or.inl rfl⟩ rfl rfl eM12 dX3_faultFor_12 rfl ?_
  refine q_aload_n cx (pc' := 16) 0 rfl dX3_faultFor_15 rfl ?_
  refine q_iload_n cx (pc' := 17) 2 rfl dX3_faultFor_16 rfl ?_
  obtain ⟨ht17, M17, eM17, h⟩ := pI_i h
  refine q_pI cx (pc' := 20) 3 5 fl_X3_33 rfl ht17 (ty := .int) ⟨(RX3, TX3, 9), rfl, by decide +kernel, Or.inl rfl⟩ rfl rfl eM17 dX3_faultFor_17 rfl ?_
  refine q_aload_n cx (pc' := 21) 0 rfl dX3_faultFor_20 rfl ?_
  refine q_bipush cx (pc' := 23) kb_99 dX3_faultFor_21 rfl ?_
  obtain ⟨ht23, M23, eM23, h⟩ := pI_i h
  refine q_pI cx (pc' := 26) 3 7 fl_X3_36 rfl ht23 (ty := .int) ⟨(RX3, TX3, 9), rfl, by decide +kernel, Or.inl rfl⟩ rfl rfl eM23 dX3_faultFor_23 rfl ?_
  refine q_aload_n cx (pc' := 27) 0 rfl dX3_faultFor_26 rfl ?_
  refine q_bipush cx (pc' := 29) kb_10 dX3_faultFor_27 rfl ?_
  obtain ⟨ht29, M29, eM29, h⟩ := pI_i h
  refine q_pI cx (pc' := 32) 3 8 fl_X3_39 rfl ht29 (ty := .int) ⟨(RX3, TX3, 9), rfl, by decide +kernel, Or.inl rfl⟩ rfl rfl eM29 dX3_faultFor_29 rfl ?_
  refine q_iconst cx (pc' := 33) ki_0 dX3_faultFor_32 rfl ?_
  refine q_istore_n cx (pc' := 34) rfl rfl (by decide) (L' := [(3, .int 0), (0, .ref ths), (1, .int p1), (2, .int p2)]) rfl dX3_faultFor_33 rfl ?_
  obtain ⟨r34, hL34, h⟩ := bnd_i h
  have hk34_0 : ∀ (Me_34 : QM), Me_34 = r34 → EE p l e rm_X3_faultFor s m args below meth c Q Γ 4 0 0 53 [(0, .ref ths)] [] Me_34 := by
    intro Me_34 hp
    subst hp
    refine q_aload_n cx (pc' := 54) 0 rfl dX3_faultFor_53 rfl ?_
    obtain ⟨hk54, h⟩ := ck_i h
    obtain ⟨M54, hc54, h⟩ := bnd_i h
    refine q_callV cx (pc' := 57) (S := []) (S1 := []) (kc' := 0) (ks' := 0) 3 (ct_X3_clause Γ l Me_34 ths hk54 _ hc54) lki_X3_clause lkv_X3_clause lkc_X3_42 hk54 (r := (RX3, TX3, 9)) ⟨rfl, by decide, rfl⟩ rfl rfl (Nat.le_of_ble_eq_true rfl) ⟨(Nat.le_of_ble_eq_true rfl), (Nat.le_of_ble_eq_true rfl)⟩ ⟨(Nat.le_of_ble_eq_true rfl), (Nat.le_of_ble_eq_true rfl)⟩ dX3_faultFor_54 rfl rfl rfl ?_
    refine q_iconst cx (pc' := 58) ki_1 dX3_faultFor_57 rfl ?_
    refine q_istore_n cx (pc' := 59) rfl rfl (by decide) (L' := [(3, .int 1), (0, .ref ths)]) rfl dX3_faultFor_58 rfl ?_
    obtain ⟨r59, hL59, h⟩ := bnd_i h
    have hk59_0 : ∀ (Me_59 : QM), Me_59 = r59 → EE p l e rm_X3_faultFor s m args below meth c Q Γ 4 0 0 84 [(0, .ref ths)] [] Me_59 := by
      intro Me_59 hp
      subst hp
      refine q_aload_n cx (pc' := 85) 0 rfl dX3_faultFor_84 rfl ?_
      obtain ⟨ht85, x85, ex85, h⟩ := gI_i h
      refine q_gI cx (pc' := 88) 3 3 fl_X3_26 rfl ht85 ex85 dX3_faultFor_85 rfl ?_
      refine q_if_ne cx (pc' := 91) (tgt := 102) dX3_faultFor_88 (by decide) rfl (fun c88 => ?_) (fun c88 => ?_)
      · replace h := ine c88 h
        refine q_aload_n cx (pc' := 103) 0 rfl dX3_faultFor_102 rfl ?_
        obtain ⟨ht103, x103, ex103, h⟩ := gI_i h
        refine q_gI cx (pc' := 106) 3 2 fl_X3_23 rfl ht103 ex103 dX3_faultFor_103 rfl ?_
        refine q_goto cx dX3_faultFor_106 (tgt := 110) (by decide) ?_
        obtain ⟨rfl, rfl⟩ := o2_i h
        rw [hQ]
        exact q_iret cx dX3_faultFor_110
      · replace h := ip c88 h
        refine q_aload_n cx (pc' := 92) 0 rfl dX3_faultFor_91 rfl ?_
        obtain ⟨ht92, x92, ex92, h⟩ := gI_i h
        refine q_gI cx (pc' := 95) 3 2 fl_X3_23 rfl ht92 ex92 dX3_faultFor_92 rfl ?_
        refine q_aload_n cx (pc' := 96) 0 rfl dX3_faultFor_95 rfl ?_
        obtain ⟨ht96, x96, ex96, h⟩ := gI_i h
        refine q_gI cx (pc' := 99) 3 1 fl_X3_19 rfl ht96 ex96 dX3_faultFor_96 rfl ?_
        refine q_icmp_ge cx (pc' := 102) (tgt := 109) dX3_faultFor_99 (by decide) rfl (fun c99 => ?_) (fun c99 => ?_)
        · replace h := ip c99 h
          refine q_iconst cx (pc' := 110) ki_m1 dX3_faultFor_109 rfl ?_
          obtain ⟨rfl, rfl⟩ := o2_i h
          rw [hQ]
          exact q_iret cx dX3_faultFor_110
        · replace h := ine c99 h
          refine q_aload_n cx (pc' := 103) 0 rfl dX3_faultFor_102 rfl ?_
          obtain ⟨ht103, x103, ex103, h⟩ := gI_i h
          refine q_gI cx (pc' := 106) 3 2 fl_X3_23 rfl ht103 ex103 dX3_faultFor_103 rfl ?_
          refine q_goto cx dX3_faultFor_106 (tgt := 110) (by decide) ?_
          obtain ⟨rfl, rfl⟩ := o2_i h
          rw [hQ]
          exact q_iret cx dX3_faultFor_110
    have key59 : ∀ (n : Nat) (w3_59 : Int32) (Mw_59 : QM), itr (fun s59 : Int32 × QM => lp_X3_faultFor_59 ths s59.1 s59.2) n (w3_59, Mw_59) = some r59 → EE p l e rm_X3_faultFor s m args below meth c Q Γ 4 0 0 59 [(0, .ref ths), (3, .int w3_59)] [] Mw_59 := by
      intro n
      induction n with
      | zero => intro _ _ h; exact (itr_0 h).elim
      | succ n ih =>
        intro w3_59 Mw_59 h
        obtain ⟨z59, h, hz59⟩ := itr_i h
        replace h : lp_X3_faultFor_59 ths w3_59 Mw_59 = some z59 := h
        unfold lp_X3_faultFor_59 at h
        refine q_iload_n cx (pc' := 60) 1 rfl dX3_faultFor_59 rfl ?_
        refine q_bipush cx (pc' := 62) kb_10 dX3_faultFor_60 rfl ?_
        refine q_icmp_ge cx (pc' := 65) (tgt := 84) dX3_faultFor_62 (by decide) rfl (fun c62 => ?_) (fun c62 => ?_)
        · replace h := ip c62 h
          refine q_sub cx [0] rfl ?_
          exact hk59_0 _ (hz59.2 _ h)
        · replace h := ine c62 h
          refine q_aload_n cx (pc' := 66) 0 rfl dX3_faultFor_65 rfl ?_
          refine q_bipush cx (pc' := 68) kb_59 dX3_faultFor_66 rfl ?_
          obtain ⟨hk68, h⟩ := ck_i h
          obtain ⟨⟨c68, M68⟩, hc68, h⟩ := bnd_i h
          replace h := pr2_i h
          refine q_callV cx (pc' := 71) (S := []) (S1 := [.int c68]) (kc' := 0) (ks' := 0) 3 (ct_X3_takes Γ l Mw_59 ths 59 hk68 _ _ hc68) lki_X3_takes lkv_X3_takes lkc_X3_45 hk68 (r := (RX3, TX3, 9)) ⟨rfl, by decide, rfl⟩ rfl rfl (Nat.le_of_ble_eq_true rfl) ⟨(Nat.le_of_ble_eq_true rfl), (Nat.le_of_ble_eq_true rfl)⟩ ⟨(Nat.le_of_ble_eq_true rfl), (Nat.le_of_ble_eq_true rfl)⟩ dX3_faultFor_68 rfl rfl rfl ?_
          refine q_if_eq cx (pc' := 74) (tgt := 84) dX3_faultFor_71 (by decide) rfl (fun c71 => ?_) (fun c71 => ?_)
          · replace h := ip c71 h
            refine q_sub cx [0] rfl ?_
            exact hk59_0 _ (hz59.2 _ h)
          · replace h := ine c71 h
            refine q_aload_n cx (pc' := 75) 0 rfl dX3_faultFor_74 rfl ?_
            obtain ⟨hk75, h⟩ := ck_i h
            obtain ⟨M75, hc75, h⟩ := bnd_i h
            refine q_callV cx (pc' := 78) (S := []) (S1 := []) (kc' := 0) (ks' := 0) 3 (ct_X3_clause Γ l M68 ths hk75 _ hc75) lki_X3_clause lkv_X3_clause lkc_X3_42 hk75 (r := (RX3, TX3, 9)) ⟨rfl, by decide, rfl⟩ rfl rfl (Nat.le_of_ble_eq_true rfl) ⟨(Nat.le_of_ble_eq_true rfl), (Nat.le_of_ble_eq_true rfl)⟩ ⟨(Nat.le_of_ble_eq_true rfl), (Nat.le_of_ble_eq_true rfl)⟩ dX3_faultFor_75 rfl rfl rfl ?_
            obtain ⟨v3_78, ev3_78, h⟩ := nm_i h
            refine q_iinc cx (pc' := 81) 1 rfl ki_1 ev3_78 (by decide) (L' := [(3, .int v3_78), (0, .ref ths)]) rfl dX3_faultFor_78 rfl ?_
            refine q_goto cx dX3_faultFor_81 (tgt := 59) (by decide) ?_
            refine q_sub cx [1, 0] rfl ?_
            exact ih _ _ (hz59.1 _ h)
    refine q_sub cx [1, 0] rfl ?_
    exact key59 FU _ _ hL59
  have key34 : ∀ (n : Nat) (w3_34 : Int32) (Mw_34 : QM), itr (fun s34 : Int32 × QM => lp_X3_faultFor_34 ths s34.1 s34.2) n (w3_34, Mw_34) = some r34 → EE p l e rm_X3_faultFor s m args below meth c Q Γ 4 0 0 34 [(0, .ref ths), (3, .int w3_34)] [] Mw_34 := by
    intro n
    induction n with
    | zero => intro _ _ h; exact (itr_0 h).elim
    | succ n ih =>
      intro w3_34 Mw_34 h
      obtain ⟨z34, h, hz34⟩ := itr_i h
      replace h : lp_X3_faultFor_34 ths w3_34 Mw_34 = some z34 := h
      unfold lp_X3_faultFor_34 at h
      refine q_iload_n cx (pc' := 35) 1 rfl dX3_faultFor_34 rfl ?_
      refine q_bipush cx (pc' := 37) kb_16 dX3_faultFor_35 rfl ?_
      refine q_icmp_ge cx (pc' := 40) (tgt := 53) dX3_faultFor_37 (by decide) rfl (fun c37 => ?_) (fun c37 => ?_)
      · replace h := ip c37 h
        refine q_sub cx [0] rfl ?_
        exact hk34_0 _ (hz34.2 _ h)
      · replace h := ine c37 h
        refine q_aload_n cx (pc' := 41) 0 rfl dX3_faultFor_40 rfl ?_
        obtain ⟨ht41, r41, ex41, h⟩ := gR_i h
        refine q_gR cx (pc' := 44) 3 6 fl_X3_15 rfl ht41 ex41 dX3_faultFor_41 rfl ?_
        refine q_iload_n cx (pc' := 45) 1 rfl dX3_faultFor_44 rfl ?_
        refine q_iconst cx (pc' := 46) ki_2 dX3_faultFor_45 rfl ?_
        obtain ⟨ht46, hi46, M46, eM46, h⟩ := wI_i h
        refine q_iast cx (pc' := 47) ht46 hi46 eM46 dX3_faultFor_46 rfl ?_
        obtain ⟨v3_47, ev3_47, h⟩ := nm_i h
        refine q_iinc cx (pc' := 50) 1 rfl ki_1 ev3_47 (by decide) (L' := [(3, .int v3_47), (0, .ref ths)]) rfl dX3_faultFor_47 rfl ?_
        refine q_goto cx dX3_faultFor_50 (tgt := 34) (by decide) ?_
        refine q_sub cx [1, 0] rfl ?_
        exact ih _ _ (hz34.1 _ h)
  refine q_sub cx [1, 0] rfl ?_
  exact key34 FU _ _ hL34

abbrev rm_X1_learn : Room := { frames := 2, cells := 0, slots := 0, locals := 80 }
def fn_X1_learn (M : QM) (ths : Nat) (p1 : Int32) (p2 : Int32) (p3 : Nat) : Option QM :=
  gR M ths 1 0 fun r3 =>
  cpI M p3 r3 0 (((p2 * 10) + p1) * 16) 16 fun M17 =>
  some M17
set_option maxRecDepth 100000 in
set_option maxHeartbeats 4000000 in
theorem ct_X1_learn (Γ : GT) (l : Launch) (M : QM) (ths : Nat) (p1 : Int32) (p2 : Int32) (p3 : Nat) (ht0 : mt M ths = 1) (M' : QM) (h : fn_X1_learn M ths p1 p2 p3 = some M') : CT Γ l yX1_learn cX1_learn 4 none rm_X1_learn (.ref ths :: [.int p1, .int p2, .ref p3]) M none M' := by
  refine ct_intro (own := RX1) (L := [(0, .ref ths), (1, .int p1), (2, .int p2), (3, .ref p3)]) (by decide +kernel) rfl (Nat.le_of_ble_eq_true rfl) rfl ?_
  intro p e s m args below meth c Q hQ cx hnm
  unfold fn_X1_learn at h
  refine q_aload_n cx (pc' := 1) 3 rfl dX1_learn_0 rfl ?_
  refine q_iconst cx (pc' := 2) ki_0 dX1_learn_1 rfl ?_
  refine q_aload_n cx (pc' := 3) 0 rfl dX1_learn_2 rfl ?_
  obtain ⟨ht3, r3, ex3, h⟩ := gR_i h
  refine q_gR cx (pc' := 6) 1 0 fl_X1_9 rfl ht3 ex3 dX1_learn_3 rfl ?_
  refine q_iload_n cx (pc' := 7) 2 rfl dX1_learn_6 rfl ?_
  refine q_bipush cx (pc' := 9) kb_10 dX1_learn_7 rfl ?_
  refine q_imul cx (pc' := 10) dX1_learn_9 rfl ?_
  refine q_iload_n cx (pc' := 11) 1 rfl dX1_learn_10 rfl ?_
  refine q_iadd cx (pc' := 12) dX1_learn_11 rfl ?_
  refine q_bipush cx (pc' := 14) kb_16 dX1_learn_12 rfl ?_
  refine q_imul cx (pc' := 15) dX1_learn_14 rfl ?_
  refine q_bipush cx (pc' := 17) kb_16 dX1_learn_15 rfl ?_
  obtain ⟨ha17, hb17, hq17, M17, eM17, h⟩ := cpI_i h
  refine q_cpyI cx (pc' := 20) aw_87 ⟨aw_88, aw_89, aw_90⟩ ha17 hb17 hq17 eM17 ⟨(Nat.le_of_ble_eq_true rfl), Nat.le_of_ble_eq_true rfl⟩ (Nat.le_of_ble_eq_true rfl) dX1_learn_17 rfl ?_
  obtain rfl := o1_i h
  rw [hQ]
  exact q_vret cx dX1_learn_20

abbrev rm_X5_crossers : Room := { frames := 5, cells := 0, slots := 0, locals := 149 }
def lp_X5_crossers_4 (M : QM) (ths : Nat) (p1 : Nat) (w2_4 : Int32) (w3_4 : Int32) : Option ((Int32 × Int32) ⊕ (Int32)) :=
  gI M ths 5 2 fun x6 =>
  if x6 ≤ w3_4 then
    some (.inr w2_4)
  else
    gR M ths 5 1 fun r13 =>
    aR M 26 r13 w3_4 fun r17 =>
    gR M ths 5 7 fun r20 =>
    gI M r20 1 1 fun x23 =>
    ck M r17 7 <|
    bnd (fn_X7_crossing M r17 p1 x23) fun c26 =>
    if c26 < 0 then
      nm (w3_4 + 1) fun v3_38 =>
      some (.inl (w2_4, v3_38))
    else
      nm (w2_4 ||| (1 <<< (w3_4 &&& 31))) fun v2_37 =>
      nm (w3_4 + 1) fun v3_38 =>
      some (.inl (v2_37, v3_38))
def fn_X5_crossers (M : QM) (ths : Nat) (p1 : Nat) : Option Int32 :=
  bnd (itr (fun s4 : Int32 × Int32 => lp_X5_crossers_4 M ths p1 s4.1 s4.2) FU (0, 0)) fun re_4 =>
  some re_4
set_option maxRecDepth 100000 in
set_option maxHeartbeats 4000000 in
theorem ct_X5_crossers (Γ : GT) (l : Launch) (M : QM) (ths : Nat) (p1 : Nat) (ht0 : mt M ths = 5) (z : Int32) (h : fn_X5_crossers M ths p1 = some z) : CT Γ l yX5_crossers cX5_crossers 4 (some .int) rm_X5_crossers (.ref ths :: [.ref p1]) M (some (.int z)) M := by
  refine ct_intro (own := RX5) (L := [(0, .ref ths), (1, .ref p1)]) (by decide +kernel) rfl (Nat.le_of_ble_eq_true rfl) rfl ?_
  intro p e s m args below meth c Q hQ cx hnm
  unfold fn_X5_crossers at h
  refine q_iconst cx (pc' := 1) ki_0 dX5_crossers_0 rfl ?_
  refine q_istore_n cx (pc' := 2) rfl rfl (by decide) (L' := [(2, .int 0), (0, .ref ths), (1, .ref p1)]) rfl dX5_crossers_1 rfl ?_
  refine q_iconst cx (pc' := 3) ki_0 dX5_crossers_2 rfl ?_
  refine q_istore_n cx (pc' := 4) rfl rfl (by decide) (L' := [(3, .int 0), (2, .int 0), (0, .ref ths), (1, .ref p1)]) rfl dX5_crossers_3 rfl ?_
  obtain ⟨r4, hL4, h⟩ := bnd_i h
  have hk4_r : ∀ (re_4 : Int32), re_4 = r4 → some re_4 = some z := by
    intro re_4 hp
    subst hp
    exact h
  have key4 : ∀ (n : Nat) (w2_4 : Int32) (w3_4 : Int32), itr (fun s4 : Int32 × Int32 => lp_X5_crossers_4 M ths p1 s4.1 s4.2) n (w2_4, w3_4) = some r4 → EE p l e rm_X5_crossers s m args below meth c Q Γ 4 0 0 4 [(0, .ref ths), (1, .ref p1), (2, .int w2_4), (3, .int w3_4)] [] M := by
    intro n
    induction n with
    | zero => intro _ _ h; exact (itr_0 h).elim
    | succ n ih =>
      intro w2_4 w3_4 h
      obtain ⟨z4, h, hz4⟩ := itr_i h
      replace h : lp_X5_crossers_4 M ths p1 w2_4 w3_4 = some z4 := h
      unfold lp_X5_crossers_4 at h
      refine q_iload_n cx (pc' := 5) 3 rfl dX5_crossers_4 rfl ?_
      refine q_aload_n cx (pc' := 6) 0 rfl dX5_crossers_5 rfl ?_
      obtain ⟨ht6, x6, ex6, h⟩ := gI_i h
      refine q_gI cx (pc' := 9) 5 2 fl_X5_44 rfl ht6 ex6 dX5_crossers_6 rfl ?_
      refine q_icmp_ge cx (pc' := 12) (tgt := 44) dX5_crossers_9 (by decide) rfl (fun c9 => ?_) (fun c9 => ?_)
      · replace h := ip c9 h
        refine q_iload_n cx (pc' := 45) 2 rfl dX5_crossers_44 rfl ?_
        replace h := hk4_r _ (hz4.2 _ h)
        obtain rfl := o1_i h
        rw [hQ]
        exact q_iret cx dX5_crossers_45
      · replace h := ine c9 h
        refine q_aload_n cx (pc' := 13) 0 rfl dX5_crossers_12 rfl ?_
        obtain ⟨ht13, r13, ex13, h⟩ := gR_i h
        refine q_gR cx (pc' := 16) 5 1 fl_X5_20 rfl ht13 ex13 dX5_crossers_13 rfl ?_
        refine q_iload_n cx (pc' := 17) 3 rfl dX5_crossers_16 rfl ?_
        obtain ⟨ht17, hi17, r17, ex17, h⟩ := aR_i h
        refine q_aald6 cx (pc' := 18) ht17 hi17 ex17 dX5_crossers_17 rfl ?_
        refine q_aload_n cx (pc' := 19) 1 rfl dX5_crossers_18 rfl ?_
        refine q_aload_n cx (pc' := 20) 0 rfl dX5_crossers_19 rfl ?_
        obtain ⟨ht20, r20, ex20, h⟩ := gR_i h
        refine q_gR cx (pc' := 23) 5 7 fl_X5_58 rfl ht20 ex20 dX5_crossers_20 rfl ?_
        obtain ⟨ht23, x23, ex23, h⟩ := gI_i h
        refine q_gI cx (pc' := 26) 1 1 fl_X5_66 rfl ht23 ex23 dX5_crossers_23 rfl ?_
        obtain ⟨hk26, h⟩ := ck_i h
        obtain ⟨c26, hc26, h⟩ := bnd_i h
        refine q_callV cx (pc' := 29) (S := []) (S1 := [.int c26]) (kc' := 0) (ks' := 0) 7 (ct_X7_crossing Γ l M r17 p1 x23 hk26 _ hc26) lki_X7_crossing lkv_X7_crossing lkc_X5_71 hk26 (r := (RX7, TX7, 4)) ⟨rfl, by decide, rfl⟩ rfl rfl (Nat.le_of_ble_eq_true rfl) ⟨(Nat.le_of_ble_eq_true rfl), (Nat.le_of_ble_eq_true rfl)⟩ ⟨(Nat.le_of_ble_eq_true rfl), (Nat.le_of_ble_eq_true rfl)⟩ dX5_crossers_26 rfl rfl rfl ?_
        refine q_if_lt cx (pc' := 32) (tgt := 38) dX5_crossers_29 (by decide) rfl (fun c29 => ?_) (fun c29 => ?_)
        · replace h := ip c29 h
          obtain ⟨v3_38, ev3_38, h⟩ := nm_i h
          refine q_iinc cx (pc' := 41) 3 rfl ki_1 ev3_38 (by decide) (L' := [(3, .int v3_38), (0, .ref ths), (1, .ref p1), (2, .int w2_4)]) rfl dX5_crossers_38 rfl ?_
          refine q_goto cx dX5_crossers_41 (tgt := 4) (by decide) ?_
          refine q_sub cx [1, 2, 3, 0] rfl ?_
          exact ih _ _ (hz4.1 _ h)
        · replace h := ine c29 h
          refine q_iload_n cx (pc' := 33) 2 rfl dX5_crossers_32 rfl ?_
          refine q_iconst cx (pc' := 34) ki_1 dX5_crossers_33 rfl ?_
          refine q_iload_n cx (pc' := 35) 3 rfl dX5_crossers_34 rfl ?_
          refine q_ishl cx (pc' := 36) dX5_crossers_35 rfl ?_
          refine q_ior cx (pc' := 37) dX5_crossers_36 rfl ?_
          obtain ⟨v2_37, ev2_37, h⟩ := nm_i h
          refine q_istore_n cx (pc' := 38) rfl ev2_37 (by decide) (L' := [(2, .int v2_37), (0, .ref ths), (1, .ref p1), (3, .int w3_4)]) rfl dX5_crossers_37 rfl ?_
          obtain ⟨v3_38, ev3_38, h⟩ := nm_i h
          refine q_iinc cx (pc' := 41) 3 rfl ki_1 ev3_38 (by decide) (L' := [(3, .int v3_38), (2, .int v2_37), (0, .ref ths), (1, .ref p1)]) rfl dX5_crossers_38 rfl ?_
          refine q_goto cx dX5_crossers_41 (tgt := 4) (by decide) ?_
          refine q_sub cx [2, 3, 1, 0] rfl ?_
          exact ih _ _ (hz4.1 _ h)
  refine q_sub cx [2, 3, 1, 0] rfl ?_
  exact key4 FU _ _ hL4

abbrev rm_X2_together : Room := { frames := 1, cells := 0, slots := 0, locals := 40 }
def lp_X2_together_4 (M : QM) (ths : Nat) (w1_4 : Int32) (w2_4 : Int32) : Option ((Int32 × Int32) ⊕ (Int32)) :=
  if 16 ≤ w2_4 then
    some (.inr w1_4)
  else
    gR M ths 2 0 fun r12 =>
    aI M 20 r12 w2_4 fun x16 =>
    nm (w1_4 + x16) fun v1_18 =>
    nm (w2_4 + 1) fun v2_19 =>
    some (.inl (v1_18, v2_19))
def fn_X2_together (M : QM) (ths : Nat) : Option Int32 :=
  bnd (itr (fun s4 : Int32 × Int32 => lp_X2_together_4 M ths s4.1 s4.2) FU (0, 0)) fun re_4 =>
  some re_4
set_option maxRecDepth 100000 in
set_option maxHeartbeats 4000000 in
theorem ct_X2_together (Γ : GT) (l : Launch) (M : QM) (ths : Nat) (ht0 : mt M ths = 2) (z : Int32) (h : fn_X2_together M ths = some z) : CT Γ l yX2_together cX2_together 3 (some .int) rm_X2_together (.ref ths :: []) M (some (.int z)) M := by
  refine ct_intro (own := RX2) (L := [(0, .ref ths)]) (by decide +kernel) rfl (Nat.le_of_ble_eq_true rfl) rfl ?_
  intro p e s m args below meth c Q hQ cx hnm
  unfold fn_X2_together at h
  refine q_iconst cx (pc' := 1) ki_0 dX2_together_0 rfl ?_
  refine q_istore_n cx (pc' := 2) rfl rfl (by decide) (L' := [(1, .int 0), (0, .ref ths)]) rfl dX2_together_1 rfl ?_
  refine q_iconst cx (pc' := 3) ki_0 dX2_together_2 rfl ?_
  refine q_istore_n cx (pc' := 4) rfl rfl (by decide) (L' := [(2, .int 0), (1, .int 0), (0, .ref ths)]) rfl dX2_together_3 rfl ?_
  obtain ⟨r4, hL4, h⟩ := bnd_i h
  have hk4_r : ∀ (re_4 : Int32), re_4 = r4 → some re_4 = some z := by
    intro re_4 hp
    subst hp
    exact h
  have key4 : ∀ (n : Nat) (w1_4 : Int32) (w2_4 : Int32), itr (fun s4 : Int32 × Int32 => lp_X2_together_4 M ths s4.1 s4.2) n (w1_4, w2_4) = some r4 → EE p l e rm_X2_together s m args below meth c Q Γ 3 0 0 4 [(0, .ref ths), (1, .int w1_4), (2, .int w2_4)] [] M := by
    intro n
    induction n with
    | zero => intro _ _ h; exact (itr_0 h).elim
    | succ n ih =>
      intro w1_4 w2_4 h
      obtain ⟨z4, h, hz4⟩ := itr_i h
      replace h : lp_X2_together_4 M ths w1_4 w2_4 = some z4 := h
      unfold lp_X2_together_4 at h
      refine q_iload_n cx (pc' := 5) 2 rfl dX2_together_4 rfl ?_
      refine q_bipush cx (pc' := 7) kb_16 dX2_together_5 rfl ?_
      refine q_icmp_ge cx (pc' := 10) (tgt := 25) dX2_together_7 (by decide) rfl (fun c7 => ?_) (fun c7 => ?_)
      · replace h := ip c7 h
        refine q_iload_n cx (pc' := 26) 1 rfl dX2_together_25 rfl ?_
        replace h := hk4_r _ (hz4.2 _ h)
        obtain rfl := o1_i h
        rw [hQ]
        exact q_iret cx dX2_together_26
      · replace h := ine c7 h
        refine q_iload_n cx (pc' := 11) 1 rfl dX2_together_10 rfl ?_
        refine q_aload_n cx (pc' := 12) 0 rfl dX2_together_11 rfl ?_
        obtain ⟨ht12, r12, ex12, h⟩ := gR_i h
        refine q_gR cx (pc' := 15) 2 0 fl_X2_9 rfl ht12 ex12 dX2_together_12 rfl ?_
        refine q_iload_n cx (pc' := 16) 2 rfl dX2_together_15 rfl ?_
        obtain ⟨ht16, hi16, x16, ex16, h⟩ := aI_i h
        refine q_iald cx (pc' := 17) ht16 hi16 ex16 dX2_together_16 rfl ?_
        refine q_iadd cx (pc' := 18) dX2_together_17 rfl ?_
        obtain ⟨v1_18, ev1_18, h⟩ := nm_i h
        refine q_istore_n cx (pc' := 19) rfl ev1_18 (by decide) (L' := [(1, .int v1_18), (0, .ref ths), (2, .int w2_4)]) rfl dX2_together_18 rfl ?_
        obtain ⟨v2_19, ev2_19, h⟩ := nm_i h
        refine q_iinc cx (pc' := 22) 2 rfl ki_1 ev2_19 (by decide) (L' := [(2, .int v2_19), (1, .int v1_18), (0, .ref ths)]) rfl dX2_together_19 rfl ?_
        refine q_goto cx dX2_together_22 (tgt := 4) (by decide) ?_
        refine q_sub cx [2, 1, 0] rfl ?_
        exact ih _ _ (hz4.1 _ h)
  refine q_sub cx [2, 1, 0] rfl ?_
  exact key4 FU _ _ hL4

abbrev rm_X1_grown : Room := { frames := 2, cells := 0, slots := 0, locals := 80 }
def fn_X1_grown (M : QM) (ths : Nat) (p1 : Int32) (p2 : Int32) (p3 : Int32) : Option Int32 :=
  bnd (fn_X1_growthOf M ths p1 p2 p3) fun c8 =>
  some (imm_max 0 (imm_min 99 (p2 + c8)))
set_option maxRecDepth 100000 in
set_option maxHeartbeats 4000000 in
theorem ct_X1_grown (Γ : GT) (l : Launch) (M : QM) (ths : Nat) (p1 : Int32) (p2 : Int32) (p3 : Int32) (ht0 : mt M ths = 1) (z : Int32) (h : fn_X1_grown M ths p1 p2 p3 = some z) : CT Γ l yX1_grown cX1_grown 4 (some .int) rm_X1_grown (.ref ths :: [.int p1, .int p2, .int p3]) M (some (.int z)) M := by
  refine ct_intro (own := RX1) (L := [(0, .ref ths), (1, .int p1), (2, .int p2), (3, .int p3)]) (by decide +kernel) rfl (Nat.le_of_ble_eq_true rfl) rfl ?_
  intro p e s m args below meth c Q hQ cx hnm
  unfold fn_X1_grown at h
  refine q_iconst cx (pc' := 1) ki_0 dX1_grown_0 rfl ?_
  refine q_bipush cx (pc' := 3) kb_99 dX1_grown_1 rfl ?_
  refine q_iload_n cx (pc' := 4) 2 rfl dX1_grown_3 rfl ?_
  refine q_aload_n cx (pc' := 5) 0 rfl dX1_grown_4 rfl ?_
  refine q_iload_n cx (pc' := 6) 1 rfl dX1_grown_5 rfl ?_
  refine q_iload_n cx (pc' := 7) 2 rfl dX1_grown_6 rfl ?_
  refine q_iload_n cx (pc' := 8) 3 rfl dX1_grown_7 rfl ?_
  obtain ⟨c8, hc8, h⟩ := bnd_i h
  refine q_callV cx (pc' := 11) (S := [.int p2, .int 99, .int 0]) (S1 := [.int c8, .int p2, .int 99, .int 0]) (kc' := 0) (ks' := 0) 1 (ct_X1_growthOf Γ l M ths p1 p2 p3 ht0 _ hc8) lki_X1_growthOf lkv_X1_growthOf lkc_X1_28 ht0 (r := (RX1, TX1, 3)) ⟨rfl, by decide, rfl⟩ rfl rfl (Nat.le_of_ble_eq_true rfl) ⟨(Nat.le_of_ble_eq_true rfl), (Nat.le_of_ble_eq_true rfl)⟩ ⟨(Nat.le_of_ble_eq_true rfl), (Nat.le_of_ble_eq_true rfl)⟩ dX1_grown_8 rfl rfl rfl ?_
  refine q_iadd cx (pc' := 12) dX1_grown_11 rfl ?_
  refine q_mmin cx (pc' := 15) aw_91 ⟨aw_84, aw_71, aw_85⟩ ⟨(Nat.le_of_ble_eq_true rfl), (Nat.le_of_ble_eq_true rfl), (Nat.le_of_ble_eq_true rfl), (Nat.le_of_ble_eq_true rfl)⟩ (Nat.le_of_ble_eq_true rfl) dX1_grown_12 rfl ?_
  refine q_mmax cx (pc' := 18) aw_92 ⟨aw_70, aw_71, aw_72⟩ ⟨(Nat.le_of_ble_eq_true rfl), (Nat.le_of_ble_eq_true rfl), (Nat.le_of_ble_eq_true rfl), (Nat.le_of_ble_eq_true rfl)⟩ (Nat.le_of_ble_eq_true rfl) dX1_grown_15 rfl ?_
  obtain rfl := o1_i h
  rw [hQ]
  exact q_iret cx dX1_grown_18

abbrev rm_X2_ripen : Room := { frames := 3, cells := 0, slots := 0, locals := 103 }
def lp_X2_ripen_10 (ths : Nat) (p2 : Nat) (w4_10 : Int32) (Mw_10 : QM) : Option ((Int32 × QM) ⊕ (QM)) :=
  if 16 ≤ w4_10 then
    some (.inr Mw_10)
  else
    gR Mw_10 ths 2 0 fun r18 =>
    gR Mw_10 ths 2 0 fun r27 =>
    aI Mw_10 20 r27 w4_10 fun x32 =>
    gI Mw_10 ths 2 1 fun x34 =>
    ck Mw_10 p2 1 <|
    bnd (fn_X1_grown Mw_10 p2 w4_10 x32 x34) fun c37 =>
    wI Mw_10 20 r18 w4_10 c37 fun M40 =>
    nm (w4_10 + 1) fun v4_41 =>
    some (.inl (v4_41, M40))
def lp_X2_ripen_2 (ths : Nat) (p1 : Int32) (p2 : Nat) (w3_2 : Int32) (Mw_2 : QM) : Option ((Int32 × QM) ⊕ (QM)) :=
  if p1 ≤ w3_2 then
    some (.inr Mw_2)
  else
    bnd (itr (fun s10 : Int32 × QM => lp_X2_ripen_10 ths p2 s10.1 s10.2) FU (0, Mw_2)) fun Me_10 =>
    gI Me_10 ths 2 1 fun x49 =>
    pI Me_10 ths 2 1 (x49 + 1) fun M54 =>
    nm (w3_2 + 1) fun v3_57 =>
    some (.inl (v3_57, M54))
def fn_X2_ripen (M : QM) (ths : Nat) (p1 : Int32) (p2 : Nat) : Option QM :=
  bnd (itr (fun s2 : Int32 × QM => lp_X2_ripen_2 ths p1 p2 s2.1 s2.2) FU (0, M)) fun Mr_2 =>
  some Mr_2
set_option maxRecDepth 100000 in
set_option maxHeartbeats 4000000 in
theorem ct_X2_ripen (Γ : GT) (l : Launch) (M : QM) (ths : Nat) (p1 : Int32) (p2 : Nat) (ht0 : mt M ths = 2) (M' : QM) (h : fn_X2_ripen M ths p1 p2 = some M') : CT Γ l yX2_ripen cX2_ripen 5 none rm_X2_ripen (.ref ths :: [.int p1, .ref p2]) M none M' := by
  refine ct_intro (own := RX2) (L := [(0, .ref ths), (1, .int p1), (2, .ref p2)]) (by decide +kernel) rfl (Nat.le_of_ble_eq_true rfl) rfl ?_
  intro p e s m args below meth c Q hQ cx hnm
  unfold fn_X2_ripen at h
  refine q_iconst cx (pc' := 1) ki_0 dX2_ripen_0 rfl ?_
  refine q_istore_n cx (pc' := 2) rfl rfl (by decide) (L' := [(3, .int 0), (0, .ref ths), (1, .int p1), (2, .ref p2)]) rfl dX2_ripen_1 rfl ?_
  obtain ⟨r2, hL2, h⟩ := bnd_i h
  have hk2_r : ∀ (Mr_2 : QM), Mr_2 = r2 → some Mr_2 = some M' := by
    intro Mr_2 hp
    subst hp
    exact h
  have key2 : ∀ (n : Nat) (w3_2 : Int32) (Mw_2 : QM), itr (fun s2 : Int32 × QM => lp_X2_ripen_2 ths p1 p2 s2.1 s2.2) n (w3_2, Mw_2) = some r2 → EE p l e rm_X2_ripen s m args below meth c Q Γ 5 0 0 2 [(0, .ref ths), (1, .int p1), (2, .ref p2), (3, .int w3_2)] [] Mw_2 := by
    intro n
    induction n with
    | zero => intro _ _ h; exact (itr_0 h).elim
    | succ n ih =>
      intro w3_2 Mw_2 h
      obtain ⟨z2, h, hz2⟩ := itr_i h
      replace h : lp_X2_ripen_2 ths p1 p2 w3_2 Mw_2 = some z2 := h
      unfold lp_X2_ripen_2 at h
      refine q_iload_n cx (pc' := 3) 3 rfl dX2_ripen_2 rfl ?_
      refine q_iload_n cx (pc' := 4) 1 rfl dX2_ripen_3 rfl ?_
      refine q_icmp_ge cx (pc' := 7) (tgt := 63) dX2_ripen_4 (by decide) rfl (fun c4 => ?_) (fun c4 => ?_)
      · replace h := ip c4 h
        replace h := hk2_r _ (hz2.2 _ h)
        obtain rfl := o1_i h
        rw [hQ]
        exact q_vret cx dX2_ripen_63
      · replace h := ine c4 h
        refine q_iconst cx (pc' := 8) ki_0 dX2_ripen_7 rfl ?_
        refine q_istore cx (pc' := 10) rfl (by decide) (L' := [(4, .int 0), (0, .ref ths), (1, .int p1), (2, .ref p2), (3, .int w3_2)]) rfl dX2_ripen_8 rfl ?_
        obtain ⟨r10, hL10, h⟩ := bnd_i h
        have hk10_0 : ∀ (Me_10 : QM), Me_10 = r10 → EE p l e rm_X2_ripen s m args below meth c Q Γ 5 0 0 47 [(0, .ref ths), (1, .int p1), (2, .ref p2), (3, .int w3_2)] [] Me_10 := by
          intro Me_10 hp
          subst hp
          refine q_aload_n cx (pc' := 48) 0 rfl dX2_ripen_47 rfl ?_
          refine q_dup cx (pc' := 49) rfl dX2_ripen_48 rfl ?_
          obtain ⟨ht49, x49, ex49, h⟩ := gI_i h
          refine q_gI cx (pc' := 52) 2 1 fl_X2_21 rfl ht49 ex49 dX2_ripen_49 rfl ?_
          refine q_iconst cx (pc' := 53) ki_1 dX2_ripen_52 rfl ?_
          refine q_iadd cx (pc' := 54) dX2_ripen_53 rfl ?_
          obtain ⟨ht54, M54, eM54, h⟩ := pI_i h
          refine q_pI cx (pc' := 57) 2 1 fl_X2_21 rfl ht54 (ty := .int) ⟨(RX2, TX2, 2), rfl, by decide +kernel, Or.inl rfl⟩ rfl rfl eM54 dX2_ripen_54 rfl ?_
          obtain ⟨v3_57, ev3_57, h⟩ := nm_i h
          refine q_iinc cx (pc' := 60) 3 rfl ki_1 ev3_57 (by decide) (L' := [(3, .int v3_57), (0, .ref ths), (1, .int p1), (2, .ref p2)]) rfl dX2_ripen_57 rfl ?_
          refine q_goto cx dX2_ripen_60 (tgt := 2) (by decide) ?_
          refine q_sub cx [1, 2, 3, 0] rfl ?_
          exact ih _ _ (hz2.1 _ h)
        have key10 : ∀ (n : Nat) (w4_10 : Int32) (Mw_10 : QM), itr (fun s10 : Int32 × QM => lp_X2_ripen_10 ths p2 s10.1 s10.2) n (w4_10, Mw_10) = some r10 → EE p l e rm_X2_ripen s m args below meth c Q Γ 5 0 0 10 [(0, .ref ths), (1, .int p1), (2, .ref p2), (3, .int w3_2), (4, .int w4_10)] [] Mw_10 := by
          intro n
          induction n with
          | zero => intro _ _ h; exact (itr_0 h).elim
          | succ n ih =>
            intro w4_10 Mw_10 h
            obtain ⟨z10, h, hz10⟩ := itr_i h
            replace h : lp_X2_ripen_10 ths p2 w4_10 Mw_10 = some z10 := h
            unfold lp_X2_ripen_10 at h
            refine q_iload cx (pc' := 12) 4 rfl dX2_ripen_10 rfl ?_
            refine q_bipush cx (pc' := 14) kb_16 dX2_ripen_12 rfl ?_
            refine q_icmp_ge cx (pc' := 17) (tgt := 47) dX2_ripen_14 (by decide) rfl (fun c14 => ?_) (fun c14 => ?_)
            · replace h := ip c14 h
              refine q_sub cx [0, 1, 2, 3] rfl ?_
              exact hk10_0 _ (hz10.2 _ h)
            · replace h := ine c14 h
              refine q_aload_n cx (pc' := 18) 0 rfl dX2_ripen_17 rfl ?_
              obtain ⟨ht18, r18, ex18, h⟩ := gR_i h
              refine q_gR cx (pc' := 21) 2 0 fl_X2_9 rfl ht18 ex18 dX2_ripen_18 rfl ?_
              refine q_iload cx (pc' := 23) 4 rfl dX2_ripen_21 rfl ?_
              refine q_aload_n cx (pc' := 24) 2 rfl dX2_ripen_23 rfl ?_
              refine q_iload cx (pc' := 26) 4 rfl dX2_ripen_24 rfl ?_
              refine q_aload_n cx (pc' := 27) 0 rfl dX2_ripen_26 rfl ?_
              obtain ⟨ht27, r27, ex27, h⟩ := gR_i h
              refine q_gR cx (pc' := 30) 2 0 fl_X2_9 rfl ht27 ex27 dX2_ripen_27 rfl ?_
              refine q_iload cx (pc' := 32) 4 rfl dX2_ripen_30 rfl ?_
              obtain ⟨ht32, hi32, x32, ex32, h⟩ := aI_i h
              refine q_iald cx (pc' := 33) ht32 hi32 ex32 dX2_ripen_32 rfl ?_
              refine q_aload_n cx (pc' := 34) 0 rfl dX2_ripen_33 rfl ?_
              obtain ⟨ht34, x34, ex34, h⟩ := gI_i h
              refine q_gI cx (pc' := 37) 2 1 fl_X2_21 rfl ht34 ex34 dX2_ripen_34 rfl ?_
              obtain ⟨hk37, h⟩ := ck_i h
              obtain ⟨c37, hc37, h⟩ := bnd_i h
              refine q_callV cx (pc' := 40) (S := [.int w4_10, .ref r18]) (S1 := [.int c37, .int w4_10, .ref r18]) (kc' := 0) (ks' := 0) 1 (ct_X1_grown Γ l Mw_10 p2 w4_10 x32 x34 hk37 _ hc37) lki_X1_grown lkv_X1_grown lkc_X2_25 hk37 (r := (RX1, TX1, 3)) ⟨rfl, by decide, rfl⟩ rfl rfl (Nat.le_of_ble_eq_true rfl) ⟨(Nat.le_of_ble_eq_true rfl), (Nat.le_of_ble_eq_true rfl)⟩ ⟨(Nat.le_of_ble_eq_true rfl), (Nat.le_of_ble_eq_true rfl)⟩ dX2_ripen_37 rfl rfl rfl ?_
              obtain ⟨ht40, hi40, M40, eM40, h⟩ := wI_i h
              refine q_iast cx (pc' := 41) ht40 hi40 eM40 dX2_ripen_40 rfl ?_
              obtain ⟨v4_41, ev4_41, h⟩ := nm_i h
              refine q_iinc cx (pc' := 44) 4 rfl ki_1 ev4_41 (by decide) (L' := [(4, .int v4_41), (0, .ref ths), (1, .int p1), (2, .ref p2), (3, .int w3_2)]) rfl dX2_ripen_41 rfl ?_
              refine q_goto cx dX2_ripen_44 (tgt := 10) (by decide) ?_
              refine q_sub cx [1, 2, 3, 4, 0] rfl ?_
              exact ih _ _ (hz10.1 _ h)
        refine q_sub cx [1, 2, 3, 4, 0] rfl ?_
        exact key10 FU _ _ hL10
  refine q_sub cx [1, 2, 3, 0] rfl ?_
  exact key2 FU _ _ hL2

abbrev rm_X2_become : Room := { frames := 2, cells := 0, slots := 0, locals := 80 }
def fn_X2_become (M : QM) (ths : Nat) (p1 : Nat) : Option QM :=
  gR M p1 2 0 fun r1 =>
  gR M ths 2 0 fun r6 =>
  cpI M r1 r6 0 0 16 fun M12 =>
  gI M12 p1 2 1 fun x17 =>
  pI M12 ths 2 1 x17 fun M20 =>
  some M20
set_option maxRecDepth 100000 in
set_option maxHeartbeats 4000000 in
theorem ct_X2_become (Γ : GT) (l : Launch) (M : QM) (ths : Nat) (p1 : Nat) (ht0 : mt M ths = 2) (M' : QM) (h : fn_X2_become M ths p1 = some M') : CT Γ l yX2_become cX2_become 2 none rm_X2_become (.ref ths :: [.ref p1]) M none M' := by
  refine ct_intro (own := RX2) (L := [(0, .ref ths), (1, .ref p1)]) (by decide +kernel) rfl (Nat.le_of_ble_eq_true rfl) rfl ?_
  intro p e s m args below meth c Q hQ cx hnm
  unfold fn_X2_become at h
  refine q_aload_n cx (pc' := 1) 1 rfl dX2_become_0 rfl ?_
  obtain ⟨ht1, r1, ex1, h⟩ := gR_i h
  refine q_gR cx (pc' := 4) 2 0 fl_X2_9 rfl ht1 ex1 dX2_become_1 rfl ?_
  refine q_iconst cx (pc' := 5) ki_0 dX2_become_4 rfl ?_
  refine q_aload_n cx (pc' := 6) 0 rfl dX2_become_5 rfl ?_
  obtain ⟨ht6, r6, ex6, h⟩ := gR_i h
  refine q_gR cx (pc' := 9) 2 0 fl_X2_9 rfl ht6 ex6 dX2_become_6 rfl ?_
  refine q_iconst cx (pc' := 10) ki_0 dX2_become_9 rfl ?_
  refine q_bipush cx (pc' := 12) kb_16 dX2_become_10 rfl ?_
  obtain ⟨ha12, hb12, hq12, M12, eM12, h⟩ := cpI_i h
  refine q_cpyI cx (pc' := 15) aw_93 ⟨aw_88, aw_89, aw_90⟩ ha12 hb12 hq12 eM12 ⟨(Nat.le_of_ble_eq_true rfl), Nat.le_of_ble_eq_true rfl⟩ (Nat.le_of_ble_eq_true rfl) dX2_become_12 rfl ?_
  refine q_aload_n cx (pc' := 16) 0 rfl dX2_become_15 rfl ?_
  refine q_aload_n cx (pc' := 17) 1 rfl dX2_become_16 rfl ?_
  obtain ⟨ht17, x17, ex17, h⟩ := gI_i h
  refine q_gI cx (pc' := 20) 2 1 fl_X2_21 rfl ht17 ex17 dX2_become_17 rfl ?_
  obtain ⟨ht20, M20, eM20, h⟩ := pI_i h
  refine q_pI cx (pc' := 23) 2 1 fl_X2_21 rfl ht20 (ty := .int) ⟨(RX2, TX2, 2), rfl, by decide +kernel, Or.inl rfl⟩ rfl rfl eM20 dX2_become_20 rfl ?_
  obtain rfl := o1_i h
  rw [hQ]
  exact q_vret cx dX2_become_23

abbrev rm_X7_copy : Room := { frames := 2, cells := 0, slots := 0, locals := 80 }
def fn_X7_copy (M : QM) (ths : Nat) (p1 : Nat) : Option QM :=
  gI M p1 7 0 fun x2 =>
  pI M ths 7 0 x2 fun M5 =>
  gI M5 p1 7 1 fun x10 =>
  pI M5 ths 7 1 x10 fun M13 =>
  gI M13 p1 7 2 fun x18 =>
  pI M13 ths 7 2 x18 fun M21 =>
  gR M21 p1 7 3 fun r25 =>
  gR M21 ths 7 3 fun r30 =>
  cpI M21 r25 r30 0 0 4 fun M35 =>
  some M35
set_option maxRecDepth 100000 in
set_option maxHeartbeats 4000000 in
theorem ct_X7_copy (Γ : GT) (l : Launch) (M : QM) (ths : Nat) (p1 : Nat) (ht0 : mt M ths = 7) (M' : QM) (h : fn_X7_copy M ths p1 = some M') : CT Γ l yX7_copy cX7_copy 2 none rm_X7_copy (.ref ths :: [.ref p1]) M none M' := by
  refine ct_intro (own := RX7) (L := [(0, .ref ths), (1, .ref p1)]) (by decide +kernel) rfl (Nat.le_of_ble_eq_true rfl) rfl ?_
  intro p e s m args below meth c Q hQ cx hnm
  unfold fn_X7_copy at h
  refine q_aload_n cx (pc' := 1) 0 rfl dX7_copy_0 rfl ?_
  refine q_aload_n cx (pc' := 2) 1 rfl dX7_copy_1 rfl ?_
  obtain ⟨ht2, x2, ex2, h⟩ := gI_i h
  refine q_gI cx (pc' := 5) 7 0 fl_X7_15 rfl ht2 ex2 dX7_copy_2 rfl ?_
  obtain ⟨ht5, M5, eM5, h⟩ := pI_i h
  refine q_pI cx (pc' := 8) 7 0 fl_X7_15 rfl ht5 (ty := .int) ⟨(RX7, TX7, 4), rfl, by decide +kernel, Or.inl rfl⟩ rfl rfl eM5 dX7_copy_5 rfl ?_
  refine q_aload_n cx (pc' := 9) 0 rfl dX7_copy_8 rfl ?_
  refine q_aload_n cx (pc' := 10) 1 rfl dX7_copy_9 rfl ?_
  obtain ⟨ht10, x10, ex10, h⟩ := gI_i h
  refine q_gI cx (pc' := 13) 7 1 fl_X7_19 rfl ht10 ex10 dX7_copy_10 rfl ?_
  obtain ⟨ht13, M13, eM13, h⟩ := pI_i h
  refine q_pI cx (pc' := 16) 7 1 fl_X7_19 rfl ht13 (ty := .int) ⟨(RX7, TX7, 4), rfl, by decide +kernel, Or.inl rfl⟩ rfl rfl eM13 dX7_copy_13 rfl ?_
  refine q_aload_n cx (pc' := 17) 0 rfl dX7_copy_16 rfl ?_
  refine q_aload_n cx (pc' := 18) 1 rfl dX7_copy_17 rfl ?_
  obtain ⟨ht18, x18, ex18, h⟩ := gI_i h
  refine q_gI cx (pc' := 21) 7 2 fl_X7_22 rfl ht18 ex18 dX7_copy_18 rfl ?_
  obtain ⟨ht21, M21, eM21, h⟩ := pI_i h
  refine q_pI cx (pc' := 24) 7 2 fl_X7_22 rfl ht21 (ty := .int) ⟨(RX7, TX7, 4), rfl, by decide +kernel, Or.inl rfl⟩ rfl rfl eM21 dX7_copy_21 rfl ?_
  refine q_aload_n cx (pc' := 25) 1 rfl dX7_copy_24 rfl ?_
  obtain ⟨ht25, r25, ex25, h⟩ := gR_i h
  refine q_gR cx (pc' := 28) 7 3 fl_X7_9 rfl ht25 ex25 dX7_copy_25 rfl ?_
  refine q_iconst cx (pc' := 29) ki_0 dX7_copy_28 rfl ?_
  refine q_aload_n cx (pc' := 30) 0 rfl dX7_copy_29 rfl ?_
  obtain ⟨ht30, r30, ex30, h⟩ := gR_i h
  refine q_gR cx (pc' := 33) 7 3 fl_X7_9 rfl ht30 ex30 dX7_copy_30 rfl ?_
  refine q_iconst cx (pc' := 34) ki_0 dX7_copy_33 rfl ?_
  refine q_iconst cx (pc' := 35) ki_4 dX7_copy_34 rfl ?_
  obtain ⟨ha35, hb35, hq35, M35, eM35, h⟩ := cpI_i h
  refine q_cpyI cx (pc' := 38) aw_95 ⟨aw_88, aw_89, aw_90⟩ ha35 hb35 hq35 eM35 ⟨(Nat.le_of_ble_eq_true rfl), Nat.le_of_ble_eq_true rfl⟩ (Nat.le_of_ble_eq_true rfl) dX7_copy_35 rfl ?_
  obtain rfl := o1_i h
  rw [hQ]
  exact q_vret cx dX7_copy_38

abbrev rm_J6_bitCount_0f7a4 : Room := { frames := 1, cells := 0, slots := 0, locals := 40 }
def fn_J6_bitCount_0f7a4 (p0 : Int32) : Int32 :=
  nm (p0 - ((ushr p0 1) &&& 1431655765)) fun v0_9 =>
  nm ((v0_9 &&& 858993459) + ((ushr v0_9 2) &&& 858993459)) fun v0_23 =>
  nm ((v0_23 + (ushr v0_23 4)) &&& 252645135) fun v0_33 =>
  nm (v0_33 + (ushr v0_33 8)) fun v0_40 =>
  nm (v0_40 + (ushr v0_40 16)) fun v0_47 =>
  (v0_47 &&& 63)
set_option maxRecDepth 100000 in
set_option maxHeartbeats 4000000 in
theorem ct_J6_bitCount_0f7a4 (Γ : GT) (l : Launch) (M : QM) (p0 : Int32) : CT Γ l yJ6_bitCount_0f7a4 cJ6_bitCount_0f7a4 1 (some .int) rm_J6_bitCount_0f7a4 [.int p0] M (some (.int (fn_J6_bitCount_0f7a4 p0))) M := by
  generalize h : fn_J6_bitCount_0f7a4 p0 = z
  refine ct_intro (own := RJ6) (L := [(0, .int p0)]) (by decide +kernel) rfl (Nat.le_of_ble_eq_true rfl) rfl ?_
  intro p e s m args below meth c Q hQ cx hnm
  unfold fn_J6_bitCount_0f7a4 at h
  refine q_iload_n cx (pc' := 1) 0 rfl dJ6_bitCount_0f7a4_0 rfl ?_
  refine q_iload_n cx (pc' := 2) 0 rfl dJ6_bitCount_0f7a4_1 rfl ?_
  refine q_iconst cx (pc' := 3) ki_1 dJ6_bitCount_0f7a4_2 rfl ?_
  refine q_iushr cx (pc' := 4) dJ6_bitCount_0f7a4_3 rfl ?_
  refine q_ldcw cx (pc' := 7) aw_96 dJ6_bitCount_0f7a4_4 rfl ?_
  refine q_iand cx (pc' := 8) dJ6_bitCount_0f7a4_7 rfl ?_
  refine q_isub cx (pc' := 9) dJ6_bitCount_0f7a4_8 rfl ?_
  obtain ⟨v0_9, ev0_9, h⟩ := nm_i h
  refine q_istore_n cx (pc' := 10) rfl ev0_9 (by decide) (L' := [(0, .int v0_9)]) rfl dJ6_bitCount_0f7a4_9 rfl ?_
  refine q_iload_n cx (pc' := 11) 0 rfl dJ6_bitCount_0f7a4_10 rfl ?_
  refine q_ldcw cx (pc' := 14) aw_97 dJ6_bitCount_0f7a4_11 rfl ?_
  refine q_iand cx (pc' := 15) dJ6_bitCount_0f7a4_14 rfl ?_
  refine q_iload_n cx (pc' := 16) 0 rfl dJ6_bitCount_0f7a4_15 rfl ?_
  refine q_iconst cx (pc' := 17) ki_2 dJ6_bitCount_0f7a4_16 rfl ?_
  refine q_iushr cx (pc' := 18) dJ6_bitCount_0f7a4_17 rfl ?_
  refine q_ldcw cx (pc' := 21) aw_97 dJ6_bitCount_0f7a4_18 rfl ?_
  refine q_iand cx (pc' := 22) dJ6_bitCount_0f7a4_21 rfl ?_
  refine q_iadd cx (pc' := 23) dJ6_bitCount_0f7a4_22 rfl ?_
  obtain ⟨v0_23, ev0_23, h⟩ := nm_i h
  refine q_istore_n cx (pc' := 24) rfl ev0_23 (by decide) (L' := [(0, .int v0_23)]) rfl dJ6_bitCount_0f7a4_23 rfl ?_
  refine q_iload_n cx (pc' := 25) 0 rfl dJ6_bitCount_0f7a4_24 rfl ?_
  refine q_iload_n cx (pc' := 26) 0 rfl dJ6_bitCount_0f7a4_25 rfl ?_
  refine q_iconst cx (pc' := 27) ki_4 dJ6_bitCount_0f7a4_26 rfl ?_
  refine q_iushr cx (pc' := 28) dJ6_bitCount_0f7a4_27 rfl ?_
  refine q_iadd cx (pc' := 29) dJ6_bitCount_0f7a4_28 rfl ?_
  refine q_ldcw cx (pc' := 32) aw_98 dJ6_bitCount_0f7a4_29 rfl ?_
  refine q_iand cx (pc' := 33) dJ6_bitCount_0f7a4_32 rfl ?_
  obtain ⟨v0_33, ev0_33, h⟩ := nm_i h
  refine q_istore_n cx (pc' := 34) rfl ev0_33 (by decide) (L' := [(0, .int v0_33)]) rfl dJ6_bitCount_0f7a4_33 rfl ?_
  refine q_iload_n cx (pc' := 35) 0 rfl dJ6_bitCount_0f7a4_34 rfl ?_
  refine q_iload_n cx (pc' := 36) 0 rfl dJ6_bitCount_0f7a4_35 rfl ?_
  refine q_bipush cx (pc' := 38) kb_8 dJ6_bitCount_0f7a4_36 rfl ?_
  refine q_iushr cx (pc' := 39) dJ6_bitCount_0f7a4_38 rfl ?_
  refine q_iadd cx (pc' := 40) dJ6_bitCount_0f7a4_39 rfl ?_
  obtain ⟨v0_40, ev0_40, h⟩ := nm_i h
  refine q_istore_n cx (pc' := 41) rfl ev0_40 (by decide) (L' := [(0, .int v0_40)]) rfl dJ6_bitCount_0f7a4_40 rfl ?_
  refine q_iload_n cx (pc' := 42) 0 rfl dJ6_bitCount_0f7a4_41 rfl ?_
  refine q_iload_n cx (pc' := 43) 0 rfl dJ6_bitCount_0f7a4_42 rfl ?_
  refine q_bipush cx (pc' := 45) kb_16 dJ6_bitCount_0f7a4_43 rfl ?_
  refine q_iushr cx (pc' := 46) dJ6_bitCount_0f7a4_45 rfl ?_
  refine q_iadd cx (pc' := 47) dJ6_bitCount_0f7a4_46 rfl ?_
  obtain ⟨v0_47, ev0_47, h⟩ := nm_i h
  refine q_istore_n cx (pc' := 48) rfl ev0_47 (by decide) (L' := [(0, .int v0_47)]) rfl dJ6_bitCount_0f7a4_47 rfl ?_
  refine q_iload_n cx (pc' := 49) 0 rfl dJ6_bitCount_0f7a4_48 rfl ?_
  refine q_bipush cx (pc' := 51) kb_63 dJ6_bitCount_0f7a4_49 rfl ?_
  refine q_iand cx (pc' := 52) dJ6_bitCount_0f7a4_51 rfl ?_
  subst h
  rw [hQ]
  exact q_iret cx dJ6_bitCount_0f7a4_52

abbrev rm_X4_empty : Room := { frames := 1, cells := 0, slots := 0, locals := 40 }
def fn_X4_empty (M : QM) (ths : Nat) : Option (Int32 × QM) :=
  pI M ths 4 4 0 fun M2 =>
  some (0, M2)
set_option maxRecDepth 100000 in
set_option maxHeartbeats 4000000 in
theorem ct_X4_empty (Γ : GT) (l : Launch) (M : QM) (ths : Nat) (ht0 : mt M ths = 4) (z : Int32) (M' : QM) (h : fn_X4_empty M ths = some (z, M')) : CT Γ l yX4_empty cX4_empty 1 (some .int) rm_X4_empty (.ref ths :: []) M (some (.int z)) M' := by
  refine ct_intro (own := RX4) (L := [(0, .ref ths)]) (by decide +kernel) rfl (Nat.le_of_ble_eq_true rfl) rfl ?_
  intro p e s m args below meth c Q hQ cx hnm
  unfold fn_X4_empty at h
  refine q_aload_n cx (pc' := 1) 0 rfl dX4_empty_0 rfl ?_
  refine q_iconst cx (pc' := 2) ki_0 dX4_empty_1 rfl ?_
  obtain ⟨ht2, M2, eM2, h⟩ := pI_i h
  refine q_pI cx (pc' := 5) 4 4 fl_X4_25 rfl ht2 (ty := .int) ⟨(RX4, TX4, 5), rfl, by decide +kernel, Or.inl rfl⟩ rfl rfl eM2 dX4_empty_2 rfl ?_
  refine q_iconst cx (pc' := 6) ki_0 dX4_empty_5 rfl ?_
  obtain ⟨rfl, rfl⟩ := o2_i h
  rw [hQ]
  exact q_iret cx dX4_empty_6

abbrev rm_X4_append : Room := { frames := 1, cells := 0, slots := 0, locals := 40 }
def fn_X4_append (M : QM) (ths : Nat) (p1 : Int32) (p2 : Int32) (p3 : Int32) : Option (Int32 × QM) :=
  gI M ths 4 4 fun x1 =>
  gI M ths 4 0 fun x5 =>
  if x1 < x5 then
    gR M ths 4 1 fun r15 =>
    gI M ths 4 4 fun x19 =>
    wI M 20 r15 x19 p1 fun M23 =>
    gR M23 ths 4 2 fun r25 =>
    gI M23 ths 4 4 fun x29 =>
    wI M23 20 r25 x29 p2 fun M33 =>
    gR M33 ths 4 3 fun r35 =>
    gI M33 ths 4 4 fun x39 =>
    wI M33 20 r35 x39 p3 fun M43 =>
    gI M43 ths 4 4 fun x46 =>
    pI M43 ths 4 4 (x46 + 1) fun M51 =>
    gI M51 ths 4 4 fun x55 =>
    some (x55, M51)
  else
    some ((-4), M)
set_option maxRecDepth 100000 in
set_option maxHeartbeats 4000000 in
theorem ct_X4_append (Γ : GT) (l : Launch) (M : QM) (ths : Nat) (p1 : Int32) (p2 : Int32) (p3 : Int32) (ht0 : mt M ths = 4) (z : Int32) (M' : QM) (h : fn_X4_append M ths p1 p2 p3 = some (z, M')) : CT Γ l yX4_append cX4_append 4 (some .int) rm_X4_append (.ref ths :: [.int p1, .int p2, .int p3]) M (some (.int z)) M' := by
  refine ct_intro (own := RX4) (L := [(0, .ref ths), (1, .int p1), (2, .int p2), (3, .int p3)]) (by decide +kernel) rfl (Nat.le_of_ble_eq_true rfl) rfl ?_
  intro p e s m args below meth c Q hQ cx hnm
  unfold fn_X4_append at h
  refine q_aload_n cx (pc' := 1) 0 rfl dX4_append_0 rfl ?_
  obtain ⟨ht1, x1, ex1, h⟩ := gI_i h
  refine q_gI cx (pc' := 4) 4 4 fl_X4_25 rfl ht1 ex1 dX4_append_1 rfl ?_
  refine q_aload_n cx (pc' := 5) 0 rfl dX4_append_4 rfl ?_
  obtain ⟨ht5, x5, ex5, h⟩ := gI_i h
  refine q_gI cx (pc' := 8) 4 0 fl_X4_9 rfl ht5 ex5 dX4_append_5 rfl ?_
  refine q_icmp_lt cx (pc' := 11) (tgt := 14) dX4_append_8 (by decide) rfl (fun c8 => ?_) (fun c8 => ?_)
  · replace h := ip c8 h
    refine q_aload_n cx (pc' := 15) 0 rfl dX4_append_14 rfl ?_
    obtain ⟨ht15, r15, ex15, h⟩ := gR_i h
    refine q_gR cx (pc' := 18) 4 1 fl_X4_15 rfl ht15 ex15 dX4_append_15 rfl ?_
    refine q_aload_n cx (pc' := 19) 0 rfl dX4_append_18 rfl ?_
    obtain ⟨ht19, x19, ex19, h⟩ := gI_i h
    refine q_gI cx (pc' := 22) 4 4 fl_X4_25 rfl ht19 ex19 dX4_append_19 rfl ?_
    refine q_iload_n cx (pc' := 23) 1 rfl dX4_append_22 rfl ?_
    obtain ⟨ht23, hi23, M23, eM23, h⟩ := wI_i h
    refine q_iast cx (pc' := 24) ht23 hi23 eM23 dX4_append_23 rfl ?_
    refine q_aload_n cx (pc' := 25) 0 rfl dX4_append_24 rfl ?_
    obtain ⟨ht25, r25, ex25, h⟩ := gR_i h
    refine q_gR cx (pc' := 28) 4 2 fl_X4_19 rfl ht25 ex25 dX4_append_25 rfl ?_
    refine q_aload_n cx (pc' := 29) 0 rfl dX4_append_28 rfl ?_
    obtain ⟨ht29, x29, ex29, h⟩ := gI_i h
    refine q_gI cx (pc' := 32) 4 4 fl_X4_25 rfl ht29 ex29 dX4_append_29 rfl ?_
    refine q_iload_n cx (pc' := 33) 2 rfl dX4_append_32 rfl ?_
    obtain ⟨ht33, hi33, M33, eM33, h⟩ := wI_i h
    refine q_iast cx (pc' := 34) ht33 hi33 eM33 dX4_append_33 rfl ?_
    refine q_aload_n cx (pc' := 35) 0 rfl dX4_append_34 rfl ?_
    obtain ⟨ht35, r35, ex35, h⟩ := gR_i h
    refine q_gR cx (pc' := 38) 4 3 fl_X4_22 rfl ht35 ex35 dX4_append_35 rfl ?_
    refine q_aload_n cx (pc' := 39) 0 rfl dX4_append_38 rfl ?_
    obtain ⟨ht39, x39, ex39, h⟩ := gI_i h
    refine q_gI cx (pc' := 42) 4 4 fl_X4_25 rfl ht39 ex39 dX4_append_39 rfl ?_
    refine q_iload_n cx (pc' := 43) 3 rfl dX4_append_42 rfl ?_
    obtain ⟨ht43, hi43, M43, eM43, h⟩ := wI_i h
    refine q_iast cx (pc' := 44) ht43 hi43 eM43 dX4_append_43 rfl ?_
    refine q_aload_n cx (pc' := 45) 0 rfl dX4_append_44 rfl ?_
    refine q_dup cx (pc' := 46) rfl dX4_append_45 rfl ?_
    obtain ⟨ht46, x46, ex46, h⟩ := gI_i h
    refine q_gI cx (pc' := 49) 4 4 fl_X4_25 rfl ht46 ex46 dX4_append_46 rfl ?_
    refine q_iconst cx (pc' := 50) ki_1 dX4_append_49 rfl ?_
    refine q_iadd cx (pc' := 51) dX4_append_50 rfl ?_
    obtain ⟨ht51, M51, eM51, h⟩ := pI_i h
    refine q_pI cx (pc' := 54) 4 4 fl_X4_25 rfl ht51 (ty := .int) ⟨(RX4, TX4, 5), rfl, by decide +kernel, Or.inl rfl⟩ rfl rfl eM51 dX4_append_51 rfl ?_
    refine q_aload_n cx (pc' := 55) 0 rfl dX4_append_54 rfl ?_
    obtain ⟨ht55, x55, ex55, h⟩ := gI_i h
    refine q_gI cx (pc' := 58) 4 4 fl_X4_25 rfl ht55 ex55 dX4_append_55 rfl ?_
    obtain ⟨rfl, rfl⟩ := o2_i h
    rw [hQ]
    exact q_iret cx dX4_append_58
  · replace h := ine c8 h
    refine q_bipush cx (pc' := 13) kb_m4 dX4_append_11 rfl ?_
    obtain ⟨rfl, rfl⟩ := o2_i h
    rw [hQ]
    exact q_iret cx dX4_append_13

abbrev rm_X6_isNothing : Room := { frames := 1, cells := 0, slots := 0, locals := 40 }
def fn_X6_isNothing (M : QM) (ths : Nat) : Option Int32 :=
  gI M ths 6 0 fun x1 =>
  if x1 = (-1) then
    some 1
  else
    some 0
set_option maxRecDepth 100000 in
set_option maxHeartbeats 4000000 in
theorem ct_X6_isNothing (Γ : GT) (l : Launch) (M : QM) (ths : Nat) (ht0 : mt M ths = 6) (z : Int32) (h : fn_X6_isNothing M ths = some z) : CT Γ l yX6_isNothing cX6_isNothing 1 (some .boolean) rm_X6_isNothing (.ref ths :: []) M (some (.int z)) M := by
  refine ct_intro (own := RX6) (L := [(0, .ref ths)]) (by decide +kernel) rfl (Nat.le_of_ble_eq_true rfl) rfl ?_
  intro p e s m args below meth c Q hQ cx hnm
  unfold fn_X6_isNothing at h
  refine q_aload_n cx (pc' := 1) 0 rfl dX6_isNothing_0 rfl ?_
  obtain ⟨ht1, x1, ex1, h⟩ := gI_i h
  refine q_gI cx (pc' := 4) 6 0 fl_X6_9 rfl ht1 ex1 dX6_isNothing_1 rfl ?_
  refine q_iconst cx (pc' := 5) ki_m1 dX6_isNothing_4 rfl ?_
  refine q_icmp_ne cx (pc' := 8) (tgt := 12) dX6_isNothing_5 (by decide) rfl (fun c5 => ?_) (fun c5 => ?_)
  · replace h := ine c5 h
    refine q_iconst cx (pc' := 13) ki_0 dX6_isNothing_12 rfl ?_
    obtain rfl := o1_i h
    rw [hQ]
    exact q_nret cx rfl dX6_isNothing_13
  · replace h := ip c5 h
    refine q_iconst cx (pc' := 9) ki_1 dX6_isNothing_8 rfl ?_
    refine q_goto cx dX6_isNothing_9 (tgt := 13) (by decide) ?_
    obtain rfl := o1_i h
    rw [hQ]
    exact q_nret cx rfl dX6_isNothing_13

abbrev rm_X4_copy : Room := { frames := 2, cells := 0, slots := 0, locals := 80 }
def fn_X4_copy (M : QM) (ths : Nat) (p1 : Nat) : Option QM :=
  gI M ths 4 0 fun x2 =>
  gI M p1 4 4 fun x6 =>
  pI M ths 4 4 (imm_min x2 x6) fun M12 =>
  gR M12 p1 4 1 fun r16 =>
  gR M12 ths 4 1 fun r21 =>
  gI M12 ths 4 4 fun x26 =>
  cpI M12 r16 r21 0 0 x26 fun M29 =>
  gR M29 p1 4 2 fun r33 =>
  gR M29 ths 4 2 fun r38 =>
  gI M29 ths 4 4 fun x43 =>
  cpI M29 r33 r38 0 0 x43 fun M46 =>
  gR M46 p1 4 3 fun r50 =>
  gR M46 ths 4 3 fun r55 =>
  gI M46 ths 4 4 fun x60 =>
  cpI M46 r50 r55 0 0 x60 fun M63 =>
  some M63
set_option maxRecDepth 100000 in
set_option maxHeartbeats 4000000 in
theorem ct_X4_copy (Γ : GT) (l : Launch) (M : QM) (ths : Nat) (p1 : Nat) (ht0 : mt M ths = 4) (M' : QM) (h : fn_X4_copy M ths p1 = some M') : CT Γ l yX4_copy cX4_copy 2 none rm_X4_copy (.ref ths :: [.ref p1]) M none M' := by
  refine ct_intro (own := RX4) (L := [(0, .ref ths), (1, .ref p1)]) (by decide +kernel) rfl (Nat.le_of_ble_eq_true rfl) rfl ?_
  intro p e s m args below meth c Q hQ cx hnm
  unfold fn_X4_copy at h
  refine q_aload_n cx (pc' := 1) 0 rfl dX4_copy_0 rfl ?_
  refine q_aload_n cx (pc' := 2) 0 rfl dX4_copy_1 rfl ?_
  obtain ⟨ht2, x2, ex2, h⟩ := gI_i h
  refine q_gI cx (pc' := 5) 4 0 fl_X4_9 rfl ht2 ex2 dX4_copy_2 rfl ?_
  refine q_aload_n cx (pc' := 6) 1 rfl dX4_copy_5 rfl ?_
  obtain ⟨ht6, x6, ex6, h⟩ := gI_i h
  refine q_gI cx (pc' := 9) 4 4 fl_X4_25 rfl ht6 ex6 dX4_copy_6 rfl ?_
  refine q_mmin cx (pc' := 12) aw_101 ⟨aw_84, aw_71, aw_85⟩ ⟨(Nat.le_of_ble_eq_true rfl), (Nat.le_of_ble_eq_true rfl), (Nat.le_of_ble_eq_true rfl), (Nat.le_of_ble_eq_true rfl)⟩ (Nat.le_of_ble_eq_true rfl) dX4_copy_9 rfl ?_
  obtain ⟨ht12, M12, eM12, h⟩ := pI_i h
  refine q_pI cx (pc' := 15) 4 4 fl_X4_25 rfl ht12 (ty := .int) ⟨(RX4, TX4, 5), rfl, by decide +kernel, Or.inl rfl⟩ rfl rfl eM12 dX4_copy_12 rfl ?_
  refine q_aload_n cx (pc' := 16) 1 rfl dX4_copy_15 rfl ?_
  obtain ⟨ht16, r16, ex16, h⟩ := gR_i h
  refine q_gR cx (pc' := 19) 4 1 fl_X4_15 rfl ht16 ex16 dX4_copy_16 rfl ?_
  refine q_iconst cx (pc' := 20) ki_0 dX4_copy_19 rfl ?_
  refine q_aload_n cx (pc' := 21) 0 rfl dX4_copy_20 rfl ?_
  obtain ⟨ht21, r21, ex21, h⟩ := gR_i h
  refine q_gR cx (pc' := 24) 4 1 fl_X4_15 rfl ht21 ex21 dX4_copy_21 rfl ?_
  refine q_iconst cx (pc' := 25) ki_0 dX4_copy_24 rfl ?_
  refine q_aload_n cx (pc' := 26) 0 rfl dX4_copy_25 rfl ?_
  obtain ⟨ht26, x26, ex26, h⟩ := gI_i h
  refine q_gI cx (pc' := 29) 4 4 fl_X4_25 rfl ht26 ex26 dX4_copy_26 rfl ?_
  obtain ⟨ha29, hb29, hq29, M29, eM29, h⟩ := cpI_i h
  refine q_cpyI cx (pc' := 32) aw_102 ⟨aw_88, aw_89, aw_90⟩ ha29 hb29 hq29 eM29 ⟨(Nat.le_of_ble_eq_true rfl), Nat.le_of_ble_eq_true rfl⟩ (Nat.le_of_ble_eq_true rfl) dX4_copy_29 rfl ?_
  refine q_aload_n cx (pc' := 33) 1 rfl dX4_copy_32 rfl ?_
  obtain ⟨ht33, r33, ex33, h⟩ := gR_i h
  refine q_gR cx (pc' := 36) 4 2 fl_X4_19 rfl ht33 ex33 dX4_copy_33 rfl ?_
  refine q_iconst cx (pc' := 37) ki_0 dX4_copy_36 rfl ?_
  refine q_aload_n cx (pc' := 38) 0 rfl dX4_copy_37 rfl ?_
  obtain ⟨ht38, r38, ex38, h⟩ := gR_i h
  refine q_gR cx (pc' := 41) 4 2 fl_X4_19 rfl ht38 ex38 dX4_copy_38 rfl ?_
  refine q_iconst cx (pc' := 42) ki_0 dX4_copy_41 rfl ?_
  refine q_aload_n cx (pc' := 43) 0 rfl dX4_copy_42 rfl ?_
  obtain ⟨ht43, x43, ex43, h⟩ := gI_i h
  refine q_gI cx (pc' := 46) 4 4 fl_X4_25 rfl ht43 ex43 dX4_copy_43 rfl ?_
  obtain ⟨ha46, hb46, hq46, M46, eM46, h⟩ := cpI_i h
  refine q_cpyI cx (pc' := 49) aw_102 ⟨aw_88, aw_89, aw_90⟩ ha46 hb46 hq46 eM46 ⟨(Nat.le_of_ble_eq_true rfl), Nat.le_of_ble_eq_true rfl⟩ (Nat.le_of_ble_eq_true rfl) dX4_copy_46 rfl ?_
  refine q_aload_n cx (pc' := 50) 1 rfl dX4_copy_49 rfl ?_
  obtain ⟨ht50, r50, ex50, h⟩ := gR_i h
  refine q_gR cx (pc' := 53) 4 3 fl_X4_22 rfl ht50 ex50 dX4_copy_50 rfl ?_
  refine q_iconst cx (pc' := 54) ki_0 dX4_copy_53 rfl ?_
  refine q_aload_n cx (pc' := 55) 0 rfl dX4_copy_54 rfl ?_
  obtain ⟨ht55, r55, ex55, h⟩ := gR_i h
  refine q_gR cx (pc' := 58) 4 3 fl_X4_22 rfl ht55 ex55 dX4_copy_55 rfl ?_
  refine q_iconst cx (pc' := 59) ki_0 dX4_copy_58 rfl ?_
  refine q_aload_n cx (pc' := 60) 0 rfl dX4_copy_59 rfl ?_
  obtain ⟨ht60, x60, ex60, h⟩ := gI_i h
  refine q_gI cx (pc' := 63) 4 4 fl_X4_25 rfl ht60 ex60 dX4_copy_60 rfl ?_
  obtain ⟨ha63, hb63, hq63, M63, eM63, h⟩ := cpI_i h
  refine q_cpyI cx (pc' := 66) aw_102 ⟨aw_88, aw_89, aw_90⟩ ha63 hb63 hq63 eM63 ⟨(Nat.le_of_ble_eq_true rfl), Nat.le_of_ble_eq_true rfl⟩ (Nat.le_of_ble_eq_true rfl) dX4_copy_63 rfl ?_
  obtain rfl := o1_i h
  rw [hQ]
  exact q_vret cx dX4_copy_66

abbrev rm_X5_copy : Room := { frames := 3, cells := 0, slots := 0, locals := 101 }
def lp_X5_copy_21 (ths : Nat) (p1 : Nat) (w2_21 : Int32) (Mw_21 : QM) : Option ((Int32 × QM) ⊕ (QM)) :=
  gI Mw_21 ths 5 2 fun x23 =>
  if x23 ≤ w2_21 then
    some (.inr Mw_21)
  else
    gR Mw_21 ths 5 1 fun r30 =>
    aR Mw_21 26 r30 w2_21 fun r34 =>
    gR Mw_21 p1 5 1 fun r36 =>
    aR Mw_21 26 r36 w2_21 fun r40 =>
    ck Mw_21 r34 7 <|
    bnd (fn_X7_copy Mw_21 r34 r40) fun M41 =>
    nm (w2_21 + 1) fun v2_44 =>
    some (.inl (v2_44, M41))
def fn_X5_copy (M : QM) (ths : Nat) (p1 : Nat) : Option QM :=
  gR M ths 5 0 fun r1 =>
  gR M p1 5 0 fun r5 =>
  ck M r1 2 <|
  bnd (fn_X2_become M r1 r5) fun M8 =>
  gI M8 p1 5 2 fun x13 =>
  pI M8 ths 5 2 x13 fun M16 =>
  bnd (itr (fun s21 : Int32 × QM => lp_X5_copy_21 ths p1 s21.1 s21.2) FU (0, M16)) fun Me_21 =>
  gI Me_21 p1 5 3 fun x52 =>
  pI Me_21 ths 5 3 x52 fun M55 =>
  gR M55 ths 5 4 fun r59 =>
  gR M55 p1 5 4 fun r63 =>
  ck M55 r59 4 <|
  bnd (fn_X4_copy M55 r59 r63) fun M66 =>
  gR M66 ths 5 5 fun r70 =>
  gR M66 p1 5 5 fun r74 =>
  ck M66 r70 4 <|
  bnd (fn_X4_copy M66 r70 r74) fun M77 =>
  gR M77 ths 5 6 fun r81 =>
  gR M77 p1 5 6 fun r85 =>
  ck M77 r81 4 <|
  bnd (fn_X4_copy M77 r81 r85) fun M88 =>
  gR M88 p1 5 7 fun r93 =>
  pR M88 ths 5 7 r93 fun M96 =>
  some M96
set_option maxRecDepth 100000 in
set_option maxHeartbeats 4000000 in
theorem ct_X5_copy (Γ : GT) (l : Launch) (M : QM) (ths : Nat) (p1 : Nat) (ht0 : mt M ths = 5) (M' : QM) (h : fn_X5_copy M ths p1 = some M') : CT Γ l yX5_copy cX5_copy 3 none rm_X5_copy (.ref ths :: [.ref p1]) M none M' := by
  refine ct_intro (own := RX5) (L := [(0, .ref ths), (1, .ref p1)]) (by decide +kernel) rfl (Nat.le_of_ble_eq_true rfl) rfl ?_
  intro p e s m args below meth c Q hQ cx hnm
  unfold fn_X5_copy at h
  refine q_aload_n cx (pc' := 1) 0 rfl dX5_copy_0 rfl ?_
  obtain ⟨ht1, r1, ex1, h⟩ := gR_i h
  refine q_gR cx (pc' := 4) 5 0 fl_X5_12 rfl ht1 ex1 dX5_copy_1 rfl ?_
  refine q_aload_n cx (pc' := 5) 1 rfl dX5_copy_4 rfl ?_
  obtain ⟨ht5, r5, ex5, h⟩ := gR_i h
  refine q_gR cx (pc' := 8) 5 0 fl_X5_12 rfl ht5 ex5 dX5_copy_5 rfl ?_
  obtain ⟨hk8, h⟩ := ck_i h
  obtain ⟨M8, hc8, h⟩ := bnd_i h
  refine q_callV cx (pc' := 11) (S := []) (S1 := []) (kc' := 0) (ks' := 0) 2 (ct_X2_become Γ l M r1 r5 hk8 _ hc8) lki_X2_become lkv_X2_become lkc_X5_40 hk8 (r := (RX2, TX2, 2)) ⟨rfl, by decide, rfl⟩ rfl rfl (Nat.le_of_ble_eq_true rfl) ⟨(Nat.le_of_ble_eq_true rfl), (Nat.le_of_ble_eq_true rfl)⟩ ⟨(Nat.le_of_ble_eq_true rfl), (Nat.le_of_ble_eq_true rfl)⟩ dX5_copy_8 rfl rfl rfl ?_
  refine q_aload_n cx (pc' := 12) 0 rfl dX5_copy_11 rfl ?_
  refine q_aload_n cx (pc' := 13) 1 rfl dX5_copy_12 rfl ?_
  obtain ⟨ht13, x13, ex13, h⟩ := gI_i h
  refine q_gI cx (pc' := 16) 5 2 fl_X5_44 rfl ht13 ex13 dX5_copy_13 rfl ?_
  obtain ⟨ht16, M16, eM16, h⟩ := pI_i h
  refine q_pI cx (pc' := 19) 5 2 fl_X5_44 rfl ht16 (ty := .int) ⟨(RX5, TX5, 8), rfl, by decide +kernel, Or.inl rfl⟩ rfl rfl eM16 dX5_copy_16 rfl ?_
  refine q_iconst cx (pc' := 20) ki_0 dX5_copy_19 rfl ?_
  refine q_istore_n cx (pc' := 21) rfl rfl (by decide) (L' := [(2, .int 0), (0, .ref ths), (1, .ref p1)]) rfl dX5_copy_20 rfl ?_
  obtain ⟨r21, hL21, h⟩ := bnd_i h
  have hk21_0 : ∀ (Me_21 : QM), Me_21 = r21 → EE p l e rm_X5_copy s m args below meth c Q Γ 3 0 0 50 [(0, .ref ths), (1, .ref p1)] [] Me_21 := by
    intro Me_21 hp
    subst hp
    refine q_aload_n cx (pc' := 51) 0 rfl dX5_copy_50 rfl ?_
    refine q_aload_n cx (pc' := 52) 1 rfl dX5_copy_51 rfl ?_
    obtain ⟨ht52, x52, ex52, h⟩ := gI_i h
    refine q_gI cx (pc' := 55) 5 3 fl_X5_52 rfl ht52 ex52 dX5_copy_52 rfl ?_
    obtain ⟨ht55, M55, eM55, h⟩ := pI_i h
    refine q_pI cx (pc' := 58) 5 3 fl_X5_52 rfl ht55 (ty := .int) ⟨(RX5, TX5, 8), rfl, by decide +kernel, Or.inl rfl⟩ rfl rfl eM55 dX5_copy_55 rfl ?_
    refine q_aload_n cx (pc' := 59) 0 rfl dX5_copy_58 rfl ?_
    obtain ⟨ht59, r59, ex59, h⟩ := gR_i h
    refine q_gR cx (pc' := 62) 5 4 fl_X5_29 rfl ht59 ex59 dX5_copy_59 rfl ?_
    refine q_aload_n cx (pc' := 63) 1 rfl dX5_copy_62 rfl ?_
    obtain ⟨ht63, r63, ex63, h⟩ := gR_i h
    refine q_gR cx (pc' := 66) 5 4 fl_X5_29 rfl ht63 ex63 dX5_copy_63 rfl ?_
    obtain ⟨hk66, h⟩ := ck_i h
    obtain ⟨M66, hc66, h⟩ := bnd_i h
    refine q_callV cx (pc' := 69) (S := []) (S1 := []) (kc' := 0) (ks' := 0) 4 (ct_X4_copy Γ l M55 r59 r63 hk66 _ hc66) lki_X4_copy lkv_X4_copy lkc_X5_55 hk66 (r := (RX4, TX4, 5)) ⟨rfl, by decide, rfl⟩ rfl rfl (Nat.le_of_ble_eq_true rfl) ⟨(Nat.le_of_ble_eq_true rfl), (Nat.le_of_ble_eq_true rfl)⟩ ⟨(Nat.le_of_ble_eq_true rfl), (Nat.le_of_ble_eq_true rfl)⟩ dX5_copy_66 rfl rfl rfl ?_
    refine q_aload_n cx (pc' := 70) 0 rfl dX5_copy_69 rfl ?_
    obtain ⟨ht70, r70, ex70, h⟩ := gR_i h
    refine q_gR cx (pc' := 73) 5 5 fl_X5_33 rfl ht70 ex70 dX5_copy_70 rfl ?_
    refine q_aload_n cx (pc' := 74) 1 rfl dX5_copy_73 rfl ?_
    obtain ⟨ht74, r74, ex74, h⟩ := gR_i h
    refine q_gR cx (pc' := 77) 5 5 fl_X5_33 rfl ht74 ex74 dX5_copy_74 rfl ?_
    obtain ⟨hk77, h⟩ := ck_i h
    obtain ⟨M77, hc77, h⟩ := bnd_i h
    refine q_callV cx (pc' := 80) (S := []) (S1 := []) (kc' := 0) (ks' := 0) 4 (ct_X4_copy Γ l M66 r70 r74 hk77 _ hc77) lki_X4_copy lkv_X4_copy lkc_X5_55 hk77 (r := (RX4, TX4, 5)) ⟨rfl, by decide, rfl⟩ rfl rfl (Nat.le_of_ble_eq_true rfl) ⟨(Nat.le_of_ble_eq_true rfl), (Nat.le_of_ble_eq_true rfl)⟩ ⟨(Nat.le_of_ble_eq_true rfl), (Nat.le_of_ble_eq_true rfl)⟩ dX5_copy_77 rfl rfl rfl ?_
    refine q_aload_n cx (pc' := 81) 0 rfl dX5_copy_80 rfl ?_
    obtain ⟨ht81, r81, ex81, h⟩ := gR_i h
    refine q_gR cx (pc' := 84) 5 6 fl_X5_36 rfl ht81 ex81 dX5_copy_81 rfl ?_
    refine q_aload_n cx (pc' := 85) 1 rfl dX5_copy_84 rfl ?_
    obtain ⟨ht85, r85, ex85, h⟩ := gR_i h
    refine q_gR cx (pc' := 88) 5 6 fl_X5_36 rfl ht85 ex85 dX5_copy_85 rfl ?_
    obtain ⟨hk88, h⟩ := ck_i h
    obtain ⟨M88, hc88, h⟩ := bnd_i h
    refine q_callV cx (pc' := 91) (S := []) (S1 := []) (kc' := 0) (ks' := 0) 4 (ct_X4_copy Γ l M77 r81 r85 hk88 _ hc88) lki_X4_copy lkv_X4_copy lkc_X5_55 hk88 (r := (RX4, TX4, 5)) ⟨rfl, by decide, rfl⟩ rfl rfl (Nat.le_of_ble_eq_true rfl) ⟨(Nat.le_of_ble_eq_true rfl), (Nat.le_of_ble_eq_true rfl)⟩ ⟨(Nat.le_of_ble_eq_true rfl), (Nat.le_of_ble_eq_true rfl)⟩ dX5_copy_88 rfl rfl rfl ?_
    refine q_aload_n cx (pc' := 92) 0 rfl dX5_copy_91 rfl ?_
    refine q_aload_n cx (pc' := 93) 1 rfl dX5_copy_92 rfl ?_
    obtain ⟨ht93, r93, ex93, h⟩ := gR_i h
    refine q_gR cx (pc' := 96) 5 7 fl_X5_58 rfl ht93 ex93 dX5_copy_93 rfl ?_
    obtain ⟨ht96, M96, eM96, h⟩ := pR_i h
    refine q_pR cx (pc' := 99) 5 7 fl_X5_58 rfl ht96 (ty := (.object "BearMouse$Brew")) ⟨(RX5, TX5, 8), rfl, by decide +kernel, Or.inl rfl⟩ rfl rfl eM96 dX5_copy_96 rfl ?_
    obtain rfl := o1_i h
    rw [hQ]
    exact q_vret cx dX5_copy_99
  have key21 : ∀ (n : Nat) (w2_21 : Int32) (Mw_21 : QM), itr (fun s21 : Int32 × QM => lp_X5_copy_21 ths p1 s21.1 s21.2) n (w2_21, Mw_21) = some r21 → EE p l e rm_X5_copy s m args below meth c Q Γ 3 0 0 21 [(0, .ref ths), (1, .ref p1), (2, .int w2_21)] [] Mw_21 := by
    intro n
    induction n with
    | zero => intro _ _ h; exact (itr_0 h).elim
    | succ n ih =>
      intro w2_21 Mw_21 h
      obtain ⟨z21, h, hz21⟩ := itr_i h
      replace h : lp_X5_copy_21 ths p1 w2_21 Mw_21 = some z21 := h
      unfold lp_X5_copy_21 at h
      refine q_iload_n cx (pc' := 22) 2 rfl dX5_copy_21 rfl ?_
      refine q_aload_n cx (pc' := 23) 0 rfl dX5_copy_22 rfl ?_
      obtain ⟨ht23, x23, ex23, h⟩ := gI_i h
      refine q_gI cx (pc' := 26) 5 2 fl_X5_44 rfl ht23 ex23 dX5_copy_23 rfl ?_
      refine q_icmp_ge cx (pc' := 29) (tgt := 50) dX5_copy_26 (by decide) rfl (fun c26 => ?_) (fun c26 => ?_)
      · replace h := ip c26 h
        refine q_sub cx [0, 1] rfl ?_
        exact hk21_0 _ (hz21.2 _ h)
      · replace h := ine c26 h
        refine q_aload_n cx (pc' := 30) 0 rfl dX5_copy_29 rfl ?_
        obtain ⟨ht30, r30, ex30, h⟩ := gR_i h
        refine q_gR cx (pc' := 33) 5 1 fl_X5_20 rfl ht30 ex30 dX5_copy_30 rfl ?_
        refine q_iload_n cx (pc' := 34) 2 rfl dX5_copy_33 rfl ?_
        obtain ⟨ht34, hi34, r34, ex34, h⟩ := aR_i h
        refine q_aald6 cx (pc' := 35) ht34 hi34 ex34 dX5_copy_34 rfl ?_
        refine q_aload_n cx (pc' := 36) 1 rfl dX5_copy_35 rfl ?_
        obtain ⟨ht36, r36, ex36, h⟩ := gR_i h
        refine q_gR cx (pc' := 39) 5 1 fl_X5_20 rfl ht36 ex36 dX5_copy_36 rfl ?_
        refine q_iload_n cx (pc' := 40) 2 rfl dX5_copy_39 rfl ?_
        obtain ⟨ht40, hi40, r40, ex40, h⟩ := aR_i h
        refine q_aald6 cx (pc' := 41) ht40 hi40 ex40 dX5_copy_40 rfl ?_
        obtain ⟨hk41, h⟩ := ck_i h
        obtain ⟨M41, hc41, h⟩ := bnd_i h
        refine q_callV cx (pc' := 44) (S := []) (S1 := []) (kc' := 0) (ks' := 0) 7 (ct_X7_copy Γ l Mw_21 r34 r40 hk41 _ hc41) lki_X7_copy lkv_X7_copy lkc_X5_48 hk41 (r := (RX7, TX7, 4)) ⟨rfl, by decide, rfl⟩ rfl rfl (Nat.le_of_ble_eq_true rfl) ⟨(Nat.le_of_ble_eq_true rfl), (Nat.le_of_ble_eq_true rfl)⟩ ⟨(Nat.le_of_ble_eq_true rfl), (Nat.le_of_ble_eq_true rfl)⟩ dX5_copy_41 rfl rfl rfl ?_
        obtain ⟨v2_44, ev2_44, h⟩ := nm_i h
        refine q_iinc cx (pc' := 47) 2 rfl ki_1 ev2_44 (by decide) (L' := [(2, .int v2_44), (0, .ref ths), (1, .ref p1)]) rfl dX5_copy_44 rfl ?_
        refine q_goto cx dX5_copy_47 (tgt := 21) (by decide) ?_
        refine q_sub cx [1, 2, 0] rfl ?_
        exact ih _ _ (hz21.1 _ h)
  refine q_sub cx [1, 2, 0] rfl ?_
  exact key21 FU _ _ hL21

abbrev rm_X0_note : Room := { frames := 1, cells := 0, slots := 0, locals := 40 }
def jn_X0_note_19 (ths : Nat) (Mj_19 : QM) : Option QM :=
  gI Mj_19 ths 0 1 fun x21 =>
  pI Mj_19 ths 0 1 (x21 + 1) fun M26 =>
  some M26
def fn_X0_note (M : QM) (ths : Nat) (p1 : Int32) : Option QM :=
  gI M ths 0 1 fun x1 =>
  if 20 ≤ x1 then
    jn_X0_note_19 ths M
  else
    gR M ths 0 0 fun r10 =>
    gI M ths 0 1 fun x14 =>
    wI M 20 r10 x14 p1 fun M18 =>
    jn_X0_note_19 ths M18
set_option maxRecDepth 100000 in
set_option maxHeartbeats 4000000 in
theorem ct_X0_note (Γ : GT) (l : Launch) (M : QM) (ths : Nat) (p1 : Int32) (ht0 : mt M ths = 0) (M' : QM) (h : fn_X0_note M ths p1 = some M') : CT Γ l yX0_note cX0_note 2 none rm_X0_note (.ref ths :: [.int p1]) M none M' := by
  refine ct_intro (own := RX0) (L := [(0, .ref ths), (1, .int p1)]) (by decide +kernel) rfl (Nat.le_of_ble_eq_true rfl) rfl ?_
  intro p e s m args below meth c Q hQ cx hnm
  unfold fn_X0_note at h
  have hj19 : ∀ (Mj_19 : QM), jn_X0_note_19 ths Mj_19 = some M' → EE p l e rm_X0_note s m args below meth c Q Γ 2 0 0 19 [(0, .ref ths)] [] Mj_19 := by
    intro Mj_19 h
    unfold jn_X0_note_19 at h
    refine q_aload_n cx (pc' := 20) 0 rfl dX0_note_19 rfl ?_
    refine q_dup cx (pc' := 21) rfl dX0_note_20 rfl ?_
    obtain ⟨ht21, x21, ex21, h⟩ := gI_i h
    refine q_gI cx (pc' := 24) 0 1 fl_X0_42 rfl ht21 ex21 dX0_note_21 rfl ?_
    refine q_iconst cx (pc' := 25) ki_1 dX0_note_24 rfl ?_
    refine q_iadd cx (pc' := 26) dX0_note_25 rfl ?_
    obtain ⟨ht26, M26, eM26, h⟩ := pI_i h
    refine q_pI cx (pc' := 29) 0 1 fl_X0_42 rfl ht26 (ty := .int) ⟨(RX0, TX0, 5), rfl, by decide +kernel, Or.inl rfl⟩ rfl rfl eM26 dX0_note_26 rfl ?_
    obtain rfl := o1_i h
    rw [hQ]
    exact q_vret cx dX0_note_29
  refine q_aload_n cx (pc' := 1) 0 rfl dX0_note_0 rfl ?_
  obtain ⟨ht1, x1, ex1, h⟩ := gI_i h
  refine q_gI cx (pc' := 4) 0 1 fl_X0_42 rfl ht1 ex1 dX0_note_1 rfl ?_
  refine q_bipush cx (pc' := 6) kb_20 dX0_note_4 rfl ?_
  refine q_icmp_ge cx (pc' := 9) (tgt := 19) dX0_note_6 (by decide) rfl (fun c6 => ?_) (fun c6 => ?_)
  · replace h := ip c6 h
    refine q_sub cx [0] rfl ?_
    exact hj19 _ h
  · replace h := ine c6 h
    refine q_aload_n cx (pc' := 10) 0 rfl dX0_note_9 rfl ?_
    obtain ⟨ht10, r10, ex10, h⟩ := gR_i h
    refine q_gR cx (pc' := 13) 0 0 fl_X0_11 rfl ht10 ex10 dX0_note_10 rfl ?_
    refine q_aload_n cx (pc' := 14) 0 rfl dX0_note_13 rfl ?_
    obtain ⟨ht14, x14, ex14, h⟩ := gI_i h
    refine q_gI cx (pc' := 17) 0 1 fl_X0_42 rfl ht14 ex14 dX0_note_14 rfl ?_
    refine q_iload_n cx (pc' := 18) 1 rfl dX0_note_17 rfl ?_
    obtain ⟨ht18, hi18, M18, eM18, h⟩ := wI_i h
    refine q_iast cx (pc' := 19) ht18 hi18 eM18 dX0_note_18 rfl ?_
    refine q_sub cx [0] rfl ?_
    exact hj19 _ h

abbrev rm_X0_run (fu : Nat) : Room := { frames := 2 + fu, cells := 0, slots := 0, locals := (61 + fu * 40) }
abbrev rm_X0_done (fu : Nat) : Room := { frames := 2 + fu, cells := 0, slots := 0, locals := (61 + fu * 40) }
def bd_X0_done (F : Nat → QM → Nat → Int32 → Int32 → Int32 → Int32 → Option (Int32 × QM)) (M : QM) (ths : Nat) (p1 : Int32) (p2 : Int32) (p3 : Int32) (p4 : Int32) : Option (Int32 × QM) :=
  if p1 = 10 then
    gI M ths 0 2 fun x102 =>
    some ((p3 + x102), M)
  else if p1 = 11 then
    gI M ths 0 3 fun x109 =>
    bnd (F 0 M ths x109 0 p3 p4) fun y116 =>
    pr2 y116 fun c116 M116 =>
    gI M116 ths 0 4 fun x120 =>
    some ((c116 - x120), M116)
  else if p1 = 12 then
    gI M ths 0 3 fun x127 =>
    bnd (F 0 M ths x127 1 p3 p4) fun y134 =>
    pr2 y134 fun c134 M134 =>
    some ((c134 * 2), M134)
  else if p1 = 20 then
    bnd (F 0 M ths p2 1 p3 p4) fun y146 =>
    pr2 y146 fun c146 M146 =>
    some ((c146 ^^^ 6), M146)
  else if p1 = 30 then
    bnd (F 0 M ths p2 0 (p3 * 3) p4) fun y161 =>
    pr2 y161 fun c161 M161 =>
    some (c161, M161)
  else if p1 = 40 then
    bnd (F 0 M ths p2 2 p3 p4) fun y171 =>
    pr2 y171 fun c171 M171 =>
    gI M171 ths 0 3 fun x176 =>
    ck M171 ths 0 <|
    bnd (F 0 M171 ths x176 1 1 p4) fun y183 =>
    pr2 y183 fun c183 M183 =>
    some ((c171 + c183), M183)
  else if p1 = 50 then
    bnd (F 0 M ths p2 0 p3 p4) fun y194 =>
    pr2 y194 fun c194 M194 =>
    some ((-c194), M194)
  else if p1 = 51 then
    bnd (F 0 M ths p2 1 (p3 + 1) p4) fun y207 =>
    pr2 y207 fun c207 M207 =>
    some (c207, M207)
  else if p1 = 60 then
    gI M ths 0 2 fun x216 =>
    bnd (F 0 M ths p2 2 (p3 - x216) p4) fun y222 =>
    pr2 y222 fun c222 M222 =>
    some (c222, M222)
  else if p1 = 70 then
    bnd (F 0 M ths p2 1 p3 p4) fun y232 =>
    pr2 y232 fun c232 M232 =>
    ck M232 ths 0 <|
    bnd (F 0 M232 ths p2 0 2 p4) fun y241 =>
    pr2 y241 fun c241 M241 =>
    some ((c232 + c241), M241)
  else if p1 = 71 then
    bnd (F 0 M ths p2 0 p3 p4) fun y252 =>
    pr2 y252 fun c252 M252 =>
    gI M252 ths 0 4 fun x256 =>
    some ((c252 ^^^ x256), M252)
  else 
    some (0, M)
set_option maxRecDepth 100000 in
set_option maxHeartbeats 4000000 in
theorem ct_X0_done (Γ : GT) (l : Launch) (F : Nat → QM → Nat → Int32 → Int32 → Int32 → Int32 → Option (Int32 × QM)) (fu : Nat) (hF0 : ∀ (M : QM) (ths : Nat) (p1 p2 p3 p4 : Int32) (z : Int32) (M' : QM), mt M ths = 0 → F 0 M ths p1 p2 p3 p4 = some (z, M') → CT Γ l yX0_run cX0_run 7 (some .int) (rm_X0_run fu) (.ref ths :: [.int p1, .int p2, .int p3, .int p4]) M (some (.int z)) M') (hF1 : ∀ (M : QM) (ths : Nat) (p1 p2 p3 p4 : Int32) (z : Int32) (M' : QM), mt M ths = 0 → F 1 M ths p1 p2 p3 p4 = some (z, M') → CT Γ l yX0_done cX0_done 5 (some .int) (rm_X0_done fu) (.ref ths :: [.int p1, .int p2, .int p3, .int p4]) M (some (.int z)) M') (M : QM) (ths : Nat) (p1 : Int32) (p2 : Int32) (p3 : Int32) (p4 : Int32) (ht0 : mt M ths = 0) (z : Int32) (M' : QM) (h : bd_X0_done F M ths p1 p2 p3 p4 = some (z, M')) : CT Γ l yX0_done cX0_done 5 (some .int) (rm_X0_done (fu + 1)) (.ref ths :: [.int p1, .int p2, .int p3, .int p4]) M (some (.int z)) M' := by
  refine ct_intro (own := RX0) (L := [(0, .ref ths), (1, .int p1), (2, .int p2), (3, .int p3), (4, .int p4)]) (by decide +kernel) rfl (Nat.le_of_ble_eq_true rfl) rfl ?_
  intro p e s m args below meth c Q hQ cx hnm
  unfold bd_X0_done at h
  refine q_iload_n cx (pc' := 1) 1 rfl dX0_done_0 rfl ?_
  rcases Decidable.em (p1 = 10) with c1_0 | c1_0
  · replace h := ip c1_0 h
    refine q_lookup cx (off := 99) (tgt := 100) dX0_done_1 (by decide) (by rw [c1_0]; decide) (by decide) ?_
    refine q_iload_n cx (pc' := 101) 3 rfl dX0_done_100 rfl ?_
    refine q_aload_n cx (pc' := 102) 0 rfl dX0_done_101 rfl ?_
    obtain ⟨ht102, x102, ex102, h⟩ := gI_i h
    refine q_gI cx (pc' := 105) 0 2 fl_X0_29 rfl ht102 ex102 dX0_done_102 rfl ?_
    refine q_iadd cx (pc' := 106) dX0_done_105 rfl ?_
    obtain ⟨rfl, rfl⟩ := o2_i h
    rw [hQ]
    exact q_iret cx dX0_done_106
  replace h := ine c1_0 h
  rcases Decidable.em (p1 = 11) with c1_1 | c1_1
  · replace h := ip c1_1 h
    refine q_lookup cx (off := 106) (tgt := 107) dX0_done_1 (by decide) (by rw [c1_1]; decide) (by decide) ?_
    refine q_aload_n cx (pc' := 108) 0 rfl dX0_done_107 rfl ?_
    refine q_aload_n cx (pc' := 109) 0 rfl dX0_done_108 rfl ?_
    obtain ⟨ht109, x109, ex109, h⟩ := gI_i h
    refine q_gI cx (pc' := 112) 0 3 fl_X0_33 rfl ht109 ex109 dX0_done_109 rfl ?_
    refine q_iconst cx (pc' := 113) ki_0 dX0_done_112 rfl ?_
    refine q_iload_n cx (pc' := 114) 3 rfl dX0_done_113 rfl ?_
    refine q_iload cx (pc' := 116) 4 rfl dX0_done_114 rfl ?_
    obtain ⟨⟨c116, M116⟩, hc116, h⟩ := bnd_i h
    replace h := pr2_i h
    refine q_callV cx (pc' := 119) (S := []) (S1 := [.int c116]) (kc' := 0) (ks' := 0) 0 (hF0 _ _ _ _ _ _ _ _ ht0 hc116) lki_X0_run lkv_X0_run lkc_X0_36 ht0 (r := (RX0, TX0, 5)) ⟨rfl, by decide, rfl⟩ rfl rfl (Nat.le_of_ble_eq_true rfl) ⟨(by show 2 + fu + 1 ≤ 2 + (fu + 1); omega), (by show 26 + (61 + fu * 40) ≤ (61 + (fu + 1) * 40); omega)⟩ ⟨(Nat.le_of_ble_eq_true rfl), (Nat.le_of_ble_eq_true rfl)⟩ dX0_done_116 rfl rfl rfl ?_
    refine q_aload_n cx (pc' := 120) 0 rfl dX0_done_119 rfl ?_
    obtain ⟨ht120, x120, ex120, h⟩ := gI_i h
    refine q_gI cx (pc' := 123) 0 4 fl_X0_39 rfl ht120 ex120 dX0_done_120 rfl ?_
    refine q_isub cx (pc' := 124) dX0_done_123 rfl ?_
    obtain ⟨rfl, rfl⟩ := o2_i h
    rw [hQ]
    exact q_iret cx dX0_done_124
  replace h := ine c1_1 h
  rcases Decidable.em (p1 = 12) with c1_2 | c1_2
  · replace h := ip c1_2 h
    refine q_lookup cx (off := 124) (tgt := 125) dX0_done_1 (by decide) (by rw [c1_2]; decide) (by decide) ?_
    refine q_aload_n cx (pc' := 126) 0 rfl dX0_done_125 rfl ?_
    refine q_aload_n cx (pc' := 127) 0 rfl dX0_done_126 rfl ?_
    obtain ⟨ht127, x127, ex127, h⟩ := gI_i h
    refine q_gI cx (pc' := 130) 0 3 fl_X0_33 rfl ht127 ex127 dX0_done_127 rfl ?_
    refine q_iconst cx (pc' := 131) ki_1 dX0_done_130 rfl ?_
    refine q_iload_n cx (pc' := 132) 3 rfl dX0_done_131 rfl ?_
    refine q_iload cx (pc' := 134) 4 rfl dX0_done_132 rfl ?_
    obtain ⟨⟨c134, M134⟩, hc134, h⟩ := bnd_i h
    replace h := pr2_i h
    refine q_callV cx (pc' := 137) (S := []) (S1 := [.int c134]) (kc' := 0) (ks' := 0) 0 (hF0 _ _ _ _ _ _ _ _ ht0 hc134) lki_X0_run lkv_X0_run lkc_X0_36 ht0 (r := (RX0, TX0, 5)) ⟨rfl, by decide, rfl⟩ rfl rfl (Nat.le_of_ble_eq_true rfl) ⟨(by show 2 + fu + 1 ≤ 2 + (fu + 1); omega), (by show 26 + (61 + fu * 40) ≤ (61 + (fu + 1) * 40); omega)⟩ ⟨(Nat.le_of_ble_eq_true rfl), (Nat.le_of_ble_eq_true rfl)⟩ dX0_done_134 rfl rfl rfl ?_
    refine q_iconst cx (pc' := 138) ki_2 dX0_done_137 rfl ?_
    refine q_imul cx (pc' := 139) dX0_done_138 rfl ?_
    obtain ⟨rfl, rfl⟩ := o2_i h
    rw [hQ]
    exact q_iret cx dX0_done_139
  replace h := ine c1_2 h
  rcases Decidable.em (p1 = 20) with c1_3 | c1_3
  · replace h := ip c1_3 h
    refine q_lookup cx (off := 139) (tgt := 140) dX0_done_1 (by decide) (by rw [c1_3]; decide) (by decide) ?_
    refine q_aload_n cx (pc' := 141) 0 rfl dX0_done_140 rfl ?_
    refine q_iload_n cx (pc' := 142) 2 rfl dX0_done_141 rfl ?_
    refine q_iconst cx (pc' := 143) ki_1 dX0_done_142 rfl ?_
    refine q_iload_n cx (pc' := 144) 3 rfl dX0_done_143 rfl ?_
    refine q_iload cx (pc' := 146) 4 rfl dX0_done_144 rfl ?_
    obtain ⟨⟨c146, M146⟩, hc146, h⟩ := bnd_i h
    replace h := pr2_i h
    refine q_callV cx (pc' := 149) (S := []) (S1 := [.int c146]) (kc' := 0) (ks' := 0) 0 (hF0 _ _ _ _ _ _ _ _ ht0 hc146) lki_X0_run lkv_X0_run lkc_X0_36 ht0 (r := (RX0, TX0, 5)) ⟨rfl, by decide, rfl⟩ rfl rfl (Nat.le_of_ble_eq_true rfl) ⟨(by show 2 + fu + 1 ≤ 2 + (fu + 1); omega), (by show 26 + (61 + fu * 40) ≤ (61 + (fu + 1) * 40); omega)⟩ ⟨(Nat.le_of_ble_eq_true rfl), (Nat.le_of_ble_eq_true rfl)⟩ dX0_done_146 rfl rfl rfl ?_
    refine q_bipush cx (pc' := 151) kb_6 dX0_done_149 rfl ?_
    refine q_ixor cx (pc' := 152) dX0_done_151 rfl ?_
    obtain ⟨rfl, rfl⟩ := o2_i h
    rw [hQ]
    exact q_iret cx dX0_done_152
  replace h := ine c1_3 h
  rcases Decidable.em (p1 = 30) with c1_4 | c1_4
  · replace h := ip c1_4 h
    refine q_lookup cx (off := 152) (tgt := 153) dX0_done_1 (by decide) (by rw [c1_4]; decide) (by decide) ?_
    refine q_aload_n cx (pc' := 154) 0 rfl dX0_done_153 rfl ?_
    refine q_iload_n cx (pc' := 155) 2 rfl dX0_done_154 rfl ?_
    refine q_iconst cx (pc' := 156) ki_0 dX0_done_155 rfl ?_
    refine q_iload_n cx (pc' := 157) 3 rfl dX0_done_156 rfl ?_
    refine q_iconst cx (pc' := 158) ki_3 dX0_done_157 rfl ?_
    refine q_imul cx (pc' := 159) dX0_done_158 rfl ?_
    refine q_iload cx (pc' := 161) 4 rfl dX0_done_159 rfl ?_
    obtain ⟨⟨c161, M161⟩, hc161, h⟩ := bnd_i h
    replace h := pr2_i h
    refine q_callV cx (pc' := 164) (S := []) (S1 := [.int c161]) (kc' := 0) (ks' := 0) 0 (hF0 _ _ _ _ _ _ _ _ ht0 hc161) lki_X0_run lkv_X0_run lkc_X0_36 ht0 (r := (RX0, TX0, 5)) ⟨rfl, by decide, rfl⟩ rfl rfl (Nat.le_of_ble_eq_true rfl) ⟨(by show 2 + fu + 1 ≤ 2 + (fu + 1); omega), (by show 26 + (61 + fu * 40) ≤ (61 + (fu + 1) * 40); omega)⟩ ⟨(Nat.le_of_ble_eq_true rfl), (Nat.le_of_ble_eq_true rfl)⟩ dX0_done_161 rfl rfl rfl ?_
    obtain ⟨rfl, rfl⟩ := o2_i h
    rw [hQ]
    exact q_iret cx dX0_done_164
  replace h := ine c1_4 h
  rcases Decidable.em (p1 = 40) with c1_5 | c1_5
  · replace h := ip c1_5 h
    refine q_lookup cx (off := 164) (tgt := 165) dX0_done_1 (by decide) (by rw [c1_5]; decide) (by decide) ?_
    refine q_aload_n cx (pc' := 166) 0 rfl dX0_done_165 rfl ?_
    refine q_iload_n cx (pc' := 167) 2 rfl dX0_done_166 rfl ?_
    refine q_iconst cx (pc' := 168) ki_2 dX0_done_167 rfl ?_
    refine q_iload_n cx (pc' := 169) 3 rfl dX0_done_168 rfl ?_
    refine q_iload cx (pc' := 171) 4 rfl dX0_done_169 rfl ?_
    obtain ⟨⟨c171, M171⟩, hc171, h⟩ := bnd_i h
    replace h := pr2_i h
    refine q_callV cx (pc' := 174) (S := []) (S1 := [.int c171]) (kc' := 0) (ks' := 0) 0 (hF0 _ _ _ _ _ _ _ _ ht0 hc171) lki_X0_run lkv_X0_run lkc_X0_36 ht0 (r := (RX0, TX0, 5)) ⟨rfl, by decide, rfl⟩ rfl rfl (Nat.le_of_ble_eq_true rfl) ⟨(by show 2 + fu + 1 ≤ 2 + (fu + 1); omega), (by show 26 + (61 + fu * 40) ≤ (61 + (fu + 1) * 40); omega)⟩ ⟨(Nat.le_of_ble_eq_true rfl), (Nat.le_of_ble_eq_true rfl)⟩ dX0_done_171 rfl rfl rfl ?_
    refine q_aload_n cx (pc' := 175) 0 rfl dX0_done_174 rfl ?_
    refine q_aload_n cx (pc' := 176) 0 rfl dX0_done_175 rfl ?_
    obtain ⟨ht176, x176, ex176, h⟩ := gI_i h
    refine q_gI cx (pc' := 179) 0 3 fl_X0_33 rfl ht176 ex176 dX0_done_176 rfl ?_
    refine q_iconst cx (pc' := 180) ki_1 dX0_done_179 rfl ?_
    refine q_iconst cx (pc' := 181) ki_1 dX0_done_180 rfl ?_
    refine q_iload cx (pc' := 183) 4 rfl dX0_done_181 rfl ?_
    obtain ⟨hk183, h⟩ := ck_i h
    obtain ⟨⟨c183, M183⟩, hc183, h⟩ := bnd_i h
    replace h := pr2_i h
    refine q_callV cx (pc' := 186) (S := [.int c171]) (S1 := [.int c183, .int c171]) (kc' := 0) (ks' := 0) 0 (hF0 _ _ _ _ _ _ _ _ hk183 hc183) lki_X0_run lkv_X0_run lkc_X0_36 hk183 (r := (RX0, TX0, 5)) ⟨rfl, by decide, rfl⟩ rfl rfl (Nat.le_of_ble_eq_true rfl) ⟨(by show 2 + fu + 1 ≤ 2 + (fu + 1); omega), (by show 26 + (61 + fu * 40) ≤ (61 + (fu + 1) * 40); omega)⟩ ⟨(Nat.le_of_ble_eq_true rfl), (Nat.le_of_ble_eq_true rfl)⟩ dX0_done_183 rfl rfl rfl ?_
    refine q_iadd cx (pc' := 187) dX0_done_186 rfl ?_
    obtain ⟨rfl, rfl⟩ := o2_i h
    rw [hQ]
    exact q_iret cx dX0_done_187
  replace h := ine c1_5 h
  rcases Decidable.em (p1 = 50) with c1_6 | c1_6
  · replace h := ip c1_6 h
    refine q_lookup cx (off := 187) (tgt := 188) dX0_done_1 (by decide) (by rw [c1_6]; decide) (by decide) ?_
    refine q_aload_n cx (pc' := 189) 0 rfl dX0_done_188 rfl ?_
    refine q_iload_n cx (pc' := 190) 2 rfl dX0_done_189 rfl ?_
    refine q_iconst cx (pc' := 191) ki_0 dX0_done_190 rfl ?_
    refine q_iload_n cx (pc' := 192) 3 rfl dX0_done_191 rfl ?_
    refine q_iload cx (pc' := 194) 4 rfl dX0_done_192 rfl ?_
    obtain ⟨⟨c194, M194⟩, hc194, h⟩ := bnd_i h
    replace h := pr2_i h
    refine q_callV cx (pc' := 197) (S := []) (S1 := [.int c194]) (kc' := 0) (ks' := 0) 0 (hF0 _ _ _ _ _ _ _ _ ht0 hc194) lki_X0_run lkv_X0_run lkc_X0_36 ht0 (r := (RX0, TX0, 5)) ⟨rfl, by decide, rfl⟩ rfl rfl (Nat.le_of_ble_eq_true rfl) ⟨(by show 2 + fu + 1 ≤ 2 + (fu + 1); omega), (by show 26 + (61 + fu * 40) ≤ (61 + (fu + 1) * 40); omega)⟩ ⟨(Nat.le_of_ble_eq_true rfl), (Nat.le_of_ble_eq_true rfl)⟩ dX0_done_194 rfl rfl rfl ?_
    refine q_ineg cx (pc' := 198) dX0_done_197 rfl ?_
    obtain ⟨rfl, rfl⟩ := o2_i h
    rw [hQ]
    exact q_iret cx dX0_done_198
  replace h := ine c1_6 h
  rcases Decidable.em (p1 = 51) with c1_7 | c1_7
  · replace h := ip c1_7 h
    refine q_lookup cx (off := 198) (tgt := 199) dX0_done_1 (by decide) (by rw [c1_7]; decide) (by decide) ?_
    refine q_aload_n cx (pc' := 200) 0 rfl dX0_done_199 rfl ?_
    refine q_iload_n cx (pc' := 201) 2 rfl dX0_done_200 rfl ?_
    refine q_iconst cx (pc' := 202) ki_1 dX0_done_201 rfl ?_
    refine q_iload_n cx (pc' := 203) 3 rfl dX0_done_202 rfl ?_
    refine q_iconst cx (pc' := 204) ki_1 dX0_done_203 rfl ?_
    refine q_iadd cx (pc' := 205) dX0_done_204 rfl ?_
    refine q_iload cx (pc' := 207) 4 rfl dX0_done_205 rfl ?_
    obtain ⟨⟨c207, M207⟩, hc207, h⟩ := bnd_i h
    replace h := pr2_i h
    refine q_callV cx (pc' := 210) (S := []) (S1 := [.int c207]) (kc' := 0) (ks' := 0) 0 (hF0 _ _ _ _ _ _ _ _ ht0 hc207) lki_X0_run lkv_X0_run lkc_X0_36 ht0 (r := (RX0, TX0, 5)) ⟨rfl, by decide, rfl⟩ rfl rfl (Nat.le_of_ble_eq_true rfl) ⟨(by show 2 + fu + 1 ≤ 2 + (fu + 1); omega), (by show 26 + (61 + fu * 40) ≤ (61 + (fu + 1) * 40); omega)⟩ ⟨(Nat.le_of_ble_eq_true rfl), (Nat.le_of_ble_eq_true rfl)⟩ dX0_done_207 rfl rfl rfl ?_
    obtain ⟨rfl, rfl⟩ := o2_i h
    rw [hQ]
    exact q_iret cx dX0_done_210
  replace h := ine c1_7 h
  rcases Decidable.em (p1 = 60) with c1_8 | c1_8
  · replace h := ip c1_8 h
    refine q_lookup cx (off := 210) (tgt := 211) dX0_done_1 (by decide) (by rw [c1_8]; decide) (by decide) ?_
    refine q_aload_n cx (pc' := 212) 0 rfl dX0_done_211 rfl ?_
    refine q_iload_n cx (pc' := 213) 2 rfl dX0_done_212 rfl ?_
    refine q_iconst cx (pc' := 214) ki_2 dX0_done_213 rfl ?_
    refine q_iload_n cx (pc' := 215) 3 rfl dX0_done_214 rfl ?_
    refine q_aload_n cx (pc' := 216) 0 rfl dX0_done_215 rfl ?_
    obtain ⟨ht216, x216, ex216, h⟩ := gI_i h
    refine q_gI cx (pc' := 219) 0 2 fl_X0_29 rfl ht216 ex216 dX0_done_216 rfl ?_
    refine q_isub cx (pc' := 220) dX0_done_219 rfl ?_
    refine q_iload cx (pc' := 222) 4 rfl dX0_done_220 rfl ?_
    obtain ⟨⟨c222, M222⟩, hc222, h⟩ := bnd_i h
    replace h := pr2_i h
    refine q_callV cx (pc' := 225) (S := []) (S1 := [.int c222]) (kc' := 0) (ks' := 0) 0 (hF0 _ _ _ _ _ _ _ _ ht0 hc222) lki_X0_run lkv_X0_run lkc_X0_36 ht0 (r := (RX0, TX0, 5)) ⟨rfl, by decide, rfl⟩ rfl rfl (Nat.le_of_ble_eq_true rfl) ⟨(by show 2 + fu + 1 ≤ 2 + (fu + 1); omega), (by show 26 + (61 + fu * 40) ≤ (61 + (fu + 1) * 40); omega)⟩ ⟨(Nat.le_of_ble_eq_true rfl), (Nat.le_of_ble_eq_true rfl)⟩ dX0_done_222 rfl rfl rfl ?_
    obtain ⟨rfl, rfl⟩ := o2_i h
    rw [hQ]
    exact q_iret cx dX0_done_225
  replace h := ine c1_8 h
  rcases Decidable.em (p1 = 70) with c1_9 | c1_9
  · replace h := ip c1_9 h
    refine q_lookup cx (off := 225) (tgt := 226) dX0_done_1 (by decide) (by rw [c1_9]; decide) (by decide) ?_
    refine q_aload_n cx (pc' := 227) 0 rfl dX0_done_226 rfl ?_
    refine q_iload_n cx (pc' := 228) 2 rfl dX0_done_227 rfl ?_
    refine q_iconst cx (pc' := 229) ki_1 dX0_done_228 rfl ?_
    refine q_iload_n cx (pc' := 230) 3 rfl dX0_done_229 rfl ?_
    refine q_iload cx (pc' := 232) 4 rfl dX0_done_230 rfl ?_
    obtain ⟨⟨c232, M232⟩, hc232, h⟩ := bnd_i h
    replace h := pr2_i h
    refine q_callV cx (pc' := 235) (S := []) (S1 := [.int c232]) (kc' := 0) (ks' := 0) 0 (hF0 _ _ _ _ _ _ _ _ ht0 hc232) lki_X0_run lkv_X0_run lkc_X0_36 ht0 (r := (RX0, TX0, 5)) ⟨rfl, by decide, rfl⟩ rfl rfl (Nat.le_of_ble_eq_true rfl) ⟨(by show 2 + fu + 1 ≤ 2 + (fu + 1); omega), (by show 26 + (61 + fu * 40) ≤ (61 + (fu + 1) * 40); omega)⟩ ⟨(Nat.le_of_ble_eq_true rfl), (Nat.le_of_ble_eq_true rfl)⟩ dX0_done_232 rfl rfl rfl ?_
    refine q_aload_n cx (pc' := 236) 0 rfl dX0_done_235 rfl ?_
    refine q_iload_n cx (pc' := 237) 2 rfl dX0_done_236 rfl ?_
    refine q_iconst cx (pc' := 238) ki_0 dX0_done_237 rfl ?_
    refine q_iconst cx (pc' := 239) ki_2 dX0_done_238 rfl ?_
    refine q_iload cx (pc' := 241) 4 rfl dX0_done_239 rfl ?_
    obtain ⟨hk241, h⟩ := ck_i h
    obtain ⟨⟨c241, M241⟩, hc241, h⟩ := bnd_i h
    replace h := pr2_i h
    refine q_callV cx (pc' := 244) (S := [.int c232]) (S1 := [.int c241, .int c232]) (kc' := 0) (ks' := 0) 0 (hF0 _ _ _ _ _ _ _ _ hk241 hc241) lki_X0_run lkv_X0_run lkc_X0_36 hk241 (r := (RX0, TX0, 5)) ⟨rfl, by decide, rfl⟩ rfl rfl (Nat.le_of_ble_eq_true rfl) ⟨(by show 2 + fu + 1 ≤ 2 + (fu + 1); omega), (by show 26 + (61 + fu * 40) ≤ (61 + (fu + 1) * 40); omega)⟩ ⟨(Nat.le_of_ble_eq_true rfl), (Nat.le_of_ble_eq_true rfl)⟩ dX0_done_241 rfl rfl rfl ?_
    refine q_iadd cx (pc' := 245) dX0_done_244 rfl ?_
    obtain ⟨rfl, rfl⟩ := o2_i h
    rw [hQ]
    exact q_iret cx dX0_done_245
  replace h := ine c1_9 h
  rcases Decidable.em (p1 = 71) with c1_10 | c1_10
  · replace h := ip c1_10 h
    refine q_lookup cx (off := 245) (tgt := 246) dX0_done_1 (by decide) (by rw [c1_10]; decide) (by decide) ?_
    refine q_aload_n cx (pc' := 247) 0 rfl dX0_done_246 rfl ?_
    refine q_iload_n cx (pc' := 248) 2 rfl dX0_done_247 rfl ?_
    refine q_iconst cx (pc' := 249) ki_0 dX0_done_248 rfl ?_
    refine q_iload_n cx (pc' := 250) 3 rfl dX0_done_249 rfl ?_
    refine q_iload cx (pc' := 252) 4 rfl dX0_done_250 rfl ?_
    obtain ⟨⟨c252, M252⟩, hc252, h⟩ := bnd_i h
    replace h := pr2_i h
    refine q_callV cx (pc' := 255) (S := []) (S1 := [.int c252]) (kc' := 0) (ks' := 0) 0 (hF0 _ _ _ _ _ _ _ _ ht0 hc252) lki_X0_run lkv_X0_run lkc_X0_36 ht0 (r := (RX0, TX0, 5)) ⟨rfl, by decide, rfl⟩ rfl rfl (Nat.le_of_ble_eq_true rfl) ⟨(by show 2 + fu + 1 ≤ 2 + (fu + 1); omega), (by show 26 + (61 + fu * 40) ≤ (61 + (fu + 1) * 40); omega)⟩ ⟨(Nat.le_of_ble_eq_true rfl), (Nat.le_of_ble_eq_true rfl)⟩ dX0_done_252 rfl rfl rfl ?_
    refine q_aload_n cx (pc' := 256) 0 rfl dX0_done_255 rfl ?_
    obtain ⟨ht256, x256, ex256, h⟩ := gI_i h
    refine q_gI cx (pc' := 259) 0 4 fl_X0_39 rfl ht256 ex256 dX0_done_256 rfl ?_
    refine q_ixor cx (pc' := 260) dX0_done_259 rfl ?_
    obtain ⟨rfl, rfl⟩ := o2_i h
    rw [hQ]
    exact q_iret cx dX0_done_260
  replace h := ine c1_10 h
  refine q_lookup cx (off := 260) (tgt := 261) dX0_done_1 (by decide) ((lv_osw c1_0 (a := 10) rfl).trans ((lv_osw c1_1 (a := 11) rfl).trans ((lv_osw c1_2 (a := 12) rfl).trans ((lv_osw c1_3 (a := 20) rfl).trans ((lv_osw c1_4 (a := 30) rfl).trans ((lv_osw c1_5 (a := 40) rfl).trans ((lv_osw c1_6 (a := 50) rfl).trans ((lv_osw c1_7 (a := 51) rfl).trans ((lv_osw c1_8 (a := 60) rfl).trans ((lv_osw c1_9 (a := 70) rfl).trans ((lv_osw c1_10 (a := 71) rfl).trans rfl))))))))))) (by decide) ?_
  refine q_iconst cx (pc' := 262) ki_0 dX0_done_261 rfl ?_
  obtain ⟨rfl, rfl⟩ := o2_i h
  rw [hQ]
  exact q_iret cx dX0_done_262


def lp_X0_run_6 (p2 : Int32) (w5_6 : Int32) (w6_6 : Int32) : Option ((Int32 × Int32) ⊕ (Int32)) :=
  if 7 ≤ w6_6 then
    some (.inr w5_6)
  else
    if w5_6 ≤ 0 then
      some (.inr w5_6)
    else
      sA tBO 21 ((w5_6 * 3) + p2) fun x27 =>
      if 0 ≤ x27 then
        some (.inr w5_6)
      else
        sA tKA 7 w5_6 fun x36 =>
        nm (w6_6 + 1) fun v6_39 =>
        some (.inl (x36, v6_39))
def bd_X0_run (F : Nat → QM → Nat → Int32 → Int32 → Int32 → Int32 → Option (Int32 × QM)) (M : QM) (ths : Nat) (p1 : Int32) (p2 : Int32) (p3 : Int32) (p4 : Int32) : Option (Int32 × QM) :=
  bnd (itr (fun s6 : Int32 × Int32 => lp_X0_run_6 p2 s6.1 s6.2) FU (p1, 0)) fun e5_6 =>
  if e5_6 < 0 then
    some (0, M)
  else
    if p4 < 40 then
      sA tBO 21 ((e5_6 * 3) + p2) fun x68 =>
      bnd (fn_X0_note M ths x68) fun M74 =>
      sA tKA 7 e5_6 fun x85 =>
      ck M74 ths 0 <|
      bnd (F 1 M74 ths x68 x85 p3 (p4 + 1)) fun y91 =>
      pr2 y91 fun c91 M91 =>
      some (c91, M91)
    else
      some (0, M)
set_option maxRecDepth 100000 in
set_option maxHeartbeats 4000000 in
theorem ct_X0_run (Γ : GT) (l : Launch) (F : Nat → QM → Nat → Int32 → Int32 → Int32 → Int32 → Option (Int32 × QM)) (fu : Nat) (hF0 : ∀ (M : QM) (ths : Nat) (p1 p2 p3 p4 : Int32) (z : Int32) (M' : QM), mt M ths = 0 → F 0 M ths p1 p2 p3 p4 = some (z, M') → CT Γ l yX0_run cX0_run 7 (some .int) (rm_X0_run fu) (.ref ths :: [.int p1, .int p2, .int p3, .int p4]) M (some (.int z)) M') (hF1 : ∀ (M : QM) (ths : Nat) (p1 p2 p3 p4 : Int32) (z : Int32) (M' : QM), mt M ths = 0 → F 1 M ths p1 p2 p3 p4 = some (z, M') → CT Γ l yX0_done cX0_done 5 (some .int) (rm_X0_done fu) (.ref ths :: [.int p1, .int p2, .int p3, .int p4]) M (some (.int z)) M') (M : QM) (ths : Nat) (p1 : Int32) (p2 : Int32) (p3 : Int32) (p4 : Int32) (ht0 : mt M ths = 0) (z : Int32) (M' : QM) (h : bd_X0_run F M ths p1 p2 p3 p4 = some (z, M')) : CT Γ l yX0_run cX0_run 7 (some .int) (rm_X0_run (fu + 1)) (.ref ths :: [.int p1, .int p2, .int p3, .int p4]) M (some (.int z)) M' := by
  refine ct_intro (own := RX0) (L := [(0, .ref ths), (1, .int p1), (2, .int p2), (3, .int p3), (4, .int p4)]) (by decide +kernel) rfl (Nat.le_of_ble_eq_true rfl) rfl ?_
  intro p e s m args below meth c Q hQ cx hnm
  unfold bd_X0_run at h
  refine q_iload_n cx (pc' := 1) 1 rfl dX0_run_0 rfl ?_
  refine q_istore cx (pc' := 3) rfl (by decide) (L' := [(5, .int p1), (0, .ref ths), (1, .int p1), (2, .int p2), (3, .int p3), (4, .int p4)]) rfl dX0_run_1 rfl ?_
  refine q_iconst cx (pc' := 4) ki_0 dX0_run_3 rfl ?_
  refine q_istore cx (pc' := 6) rfl (by decide) (L' := [(6, .int 0), (5, .int p1), (0, .ref ths), (1, .int p1), (2, .int p2), (3, .int p3), (4, .int p4)]) rfl dX0_run_4 rfl ?_
  obtain ⟨r6, hL6, h⟩ := bnd_i h
  have hk6_0 : ∀ (e5_6 : Int32), e5_6 = r6 → EE p l e (rm_X0_run (fu + 1)) s m args below meth c Q Γ 7 0 0 45 [(0, .ref ths), (2, .int p2), (3, .int p3), (4, .int p4), (5, .int e5_6)] [] M := by
    intro e5_6 hp
    subst hp
    refine q_iload cx (pc' := 47) 4 rfl dX0_run_45 rfl ?_
    refine q_if_lt cx (pc' := 50) (tgt := 57) dX0_run_47 (by decide) rfl (fun c47 => ?_) (fun c47 => ?_)
    · replace h := ip c47 h
      refine q_iconst cx (pc' := 58) ki_0 dX0_run_57 rfl ?_
      obtain ⟨rfl, rfl⟩ := o2_i h
      rw [hQ]
      exact q_iret cx dX0_run_58
    · replace h := ine c47 h
      refine q_iload cx (pc' := 52) 3 rfl dX0_run_50 rfl ?_
      refine q_bipush cx (pc' := 54) kb_40 dX0_run_52 rfl ?_
      refine q_icmp_lt cx (pc' := 57) (tgt := 59) dX0_run_54 (by decide) rfl (fun c54 => ?_) (fun c54 => ?_)
      · replace h := ip c54 h
        refine q_getsBO cx (pc' := 62) (Or.inl aw_103) dX0_run_59 rfl ?_
        refine q_iload cx (pc' := 64) 4 rfl dX0_run_62 rfl ?_
        refine q_iconst cx (pc' := 65) ki_3 dX0_run_64 rfl ?_
        refine q_imul cx (pc' := 66) dX0_run_65 rfl ?_
        refine q_iload_n cx (pc' := 67) 1 rfl dX0_run_66 rfl ?_
        refine q_iadd cx (pc' := 68) dX0_run_67 rfl ?_
        obtain ⟨hi68, x68, ex68, h⟩ := sA_i h
        refine q_ildBO cx (pc' := 69) hi68 ex68 dX0_run_68 rfl ?_
        refine q_istore cx (pc' := 71) rfl (by decide) (L' := [(6, .int x68), (0, .ref ths), (2, .int p2), (3, .int p3), (4, .int p4), (5, .int e5_6)]) rfl dX0_run_69 rfl ?_
        refine q_aload_n cx (pc' := 72) 1 rfl dX0_run_71 rfl ?_
        refine q_iload cx (pc' := 74) 0 rfl dX0_run_72 rfl ?_
        obtain ⟨M74, hc74, h⟩ := bnd_i h
        refine q_callV cx (pc' := 77) (S := []) (S1 := []) (kc' := 0) (ks' := 0) 0 (ct_X0_note Γ l M ths x68 ht0 _ hc74) lki_X0_note lkv_X0_note lkc_X0_21 ht0 (r := (RX0, TX0, 5)) ⟨rfl, by decide, rfl⟩ rfl rfl (Nat.le_of_ble_eq_true rfl) ⟨(by show 2 ≤ 2 + (fu + 1); omega), (by show 61 ≤ (61 + (fu + 1) * 40); omega)⟩ ⟨(Nat.le_of_ble_eq_true rfl), (Nat.le_of_ble_eq_true rfl)⟩ dX0_run_74 rfl rfl rfl ?_
        refine q_aload_n cx (pc' := 78) 1 rfl dX0_run_77 rfl ?_
        refine q_iload cx (pc' := 80) 0 rfl dX0_run_78 rfl ?_
        refine q_getsKA cx (pc' := 83) (Or.inr ⟨"BearMouse", NW_in (List.mem_of_getElem? (i := 861) (by decide +kernel)) rfl⟩) dX0_run_80 rfl ?_
        refine q_iload cx (pc' := 85) 5 rfl dX0_run_83 rfl ?_
        obtain ⟨hi85, x85, ex85, h⟩ := sA_i h
        refine q_ildKA cx (pc' := 86) hi85 ex85 dX0_run_85 rfl ?_
        refine q_iload_n cx (pc' := 87) 3 rfl dX0_run_86 rfl ?_
        refine q_iload cx (pc' := 89) 4 rfl dX0_run_87 rfl ?_
        refine q_iconst cx (pc' := 90) ki_1 dX0_run_89 rfl ?_
        refine q_iadd cx (pc' := 91) dX0_run_90 rfl ?_
        obtain ⟨hk91, h⟩ := ck_i h
        obtain ⟨⟨c91, M91⟩, hc91, h⟩ := bnd_i h
        replace h := pr2_i h
        refine q_callV cx (pc' := 94) (S := []) (S1 := [.int c91]) (kc' := 0) (ks' := 0) 0 (hF1 _ _ _ _ _ _ _ _ hk91 hc91) lki_X0_done lkv_X0_done lkc_X0_25 hk91 (r := (RX0, TX0, 5)) ⟨rfl, by decide, rfl⟩ rfl rfl (Nat.le_of_ble_eq_true rfl) ⟨(by show 2 + fu + 1 ≤ 2 + (fu + 1); omega), (by show 24 + (61 + fu * 40) ≤ (61 + (fu + 1) * 40); omega)⟩ ⟨(Nat.le_of_ble_eq_true rfl), (Nat.le_of_ble_eq_true rfl)⟩ dX0_run_91 rfl rfl rfl ?_
        obtain ⟨rfl, rfl⟩ := o2_i h
        rw [hQ]
        exact q_iret cx dX0_run_94
      · replace h := ine c54 h
        refine q_iconst cx (pc' := 58) ki_0 dX0_run_57 rfl ?_
        obtain ⟨rfl, rfl⟩ := o2_i h
        rw [hQ]
        exact q_iret cx dX0_run_58
  have key6 : ∀ (n : Nat) (w5_6 : Int32) (w6_6 : Int32), itr (fun s6 : Int32 × Int32 => lp_X0_run_6 p2 s6.1 s6.2) n (w5_6, w6_6) = some r6 → EE p l e (rm_X0_run (fu + 1)) s m args below meth c Q Γ 7 0 0 6 [(0, .ref ths), (2, .int p2), (3, .int p3), (4, .int p4), (5, .int w5_6), (6, .int w6_6)] [] M := by
    intro n
    induction n with
    | zero => intro _ _ h; exact (itr_0 h).elim
    | succ n ih =>
      intro w5_6 w6_6 h
      obtain ⟨z6, h, hz6⟩ := itr_i h
      replace h : lp_X0_run_6 p2 w5_6 w6_6 = some z6 := h
      unfold lp_X0_run_6 at h
      refine q_iload cx (pc' := 8) 5 rfl dX0_run_6 rfl ?_
      refine q_bipush cx (pc' := 10) kb_7 dX0_run_8 rfl ?_
      refine q_icmp_ge cx (pc' := 13) (tgt := 45) dX0_run_10 (by decide) rfl (fun c10 => ?_) (fun c10 => ?_)
      · replace h := ip c10 h
        refine q_sub cx [0, 1, 2, 3, 4] rfl ?_
        exact hk6_0 _ (hz6.2 _ h)
      · replace h := ine c10 h
        refine q_iload cx (pc' := 15) 4 rfl dX0_run_13 rfl ?_
        refine q_if_le cx (pc' := 18) (tgt := 45) dX0_run_15 (by decide) rfl (fun c15 => ?_) (fun c15 => ?_)
        · replace h := ip c15 h
          refine q_sub cx [0, 1, 2, 3, 4] rfl ?_
          exact hk6_0 _ (hz6.2 _ h)
        · replace h := ine c15 h
          refine q_getsBO cx (pc' := 21) (Or.inl aw_103) dX0_run_18 rfl ?_
          refine q_iload cx (pc' := 23) 4 rfl dX0_run_21 rfl ?_
          refine q_iconst cx (pc' := 24) ki_3 dX0_run_23 rfl ?_
          refine q_imul cx (pc' := 25) dX0_run_24 rfl ?_
          refine q_iload_n cx (pc' := 26) 1 rfl dX0_run_25 rfl ?_
          refine q_iadd cx (pc' := 27) dX0_run_26 rfl ?_
          obtain ⟨hi27, x27, ex27, h⟩ := sA_i h
          refine q_ildBO cx (pc' := 28) hi27 ex27 dX0_run_27 rfl ?_
          refine q_if_ge cx (pc' := 31) (tgt := 45) dX0_run_28 (by decide) rfl (fun c28 => ?_) (fun c28 => ?_)
          · replace h := ip c28 h
            refine q_sub cx [0, 1, 2, 3, 4] rfl ?_
            exact hk6_0 _ (hz6.2 _ h)
          · replace h := ine c28 h
            refine q_getsKA cx (pc' := 34) (Or.inr ⟨"BearMouse", NW_in (List.mem_of_getElem? (i := 861) (by decide +kernel)) rfl⟩) dX0_run_31 rfl ?_
            refine q_iload cx (pc' := 36) 4 rfl dX0_run_34 rfl ?_
            obtain ⟨hi36, x36, ex36, h⟩ := sA_i h
            refine q_ildKA cx (pc' := 37) hi36 ex36 dX0_run_36 rfl ?_
            refine q_istore cx (pc' := 39) rfl (by decide) (L' := [(5, .int x36), (0, .ref ths), (2, .int p2), (3, .int p3), (4, .int p4), (6, .int w6_6)]) rfl dX0_run_37 rfl ?_
            obtain ⟨v6_39, ev6_39, h⟩ := nm_i h
            refine q_iinc cx (pc' := 42) 5 rfl ki_1 ev6_39 (by decide) (L' := [(6, .int v6_39), (5, .int x36), (0, .ref ths), (2, .int p2), (3, .int p3), (4, .int p4)]) rfl dX0_run_39 rfl ?_
            refine q_goto cx dX0_run_42 (tgt := 6) (by decide) ?_
            refine q_sub cx [2, 3, 4, 5, 1, 0] rfl ?_
            exact ih _ _ (hz6.1 _ h)
  refine q_sub cx [2, 4, 5, 6, 1, 0] rfl ?_
  exact key6 FU _ _ hL6

def fn_rd : Nat → Nat → QM → Nat → Int32 → Int32 → Int32 → Int32 → Option (Int32 × QM)
  | 0, _, _, _, _, _, _, _ => none
  | n + 1, 0, M, ths, p1, p2, p3, p4 => bd_X0_run (fn_rd n) M ths p1 p2 p3 p4
  | n + 1, _ + 1, M, ths, p1, p2, p3, p4 => bd_X0_done (fn_rd n) M ths p1 p2 p3 p4
set_option maxRecDepth 100000 in
theorem ct_rd_all (Γ : GT) (l : Launch) : ∀ n : Nat, (∀ (M : QM) (ths : Nat) (p1 p2 p3 p4 : Int32) (z : Int32) (M' : QM), mt M ths = 0 → fn_rd n 0 M ths p1 p2 p3 p4 = some (z, M') → CT Γ l yX0_run cX0_run 7 (some .int) (rm_X0_run n) (.ref ths :: [.int p1, .int p2, .int p3, .int p4]) M (some (.int z)) M') ∧ (∀ (M : QM) (ths : Nat) (p1 p2 p3 p4 : Int32) (z : Int32) (M' : QM), mt M ths = 0 → fn_rd n 1 M ths p1 p2 p3 p4 = some (z, M') → CT Γ l yX0_done cX0_done 5 (some .int) (rm_X0_done n) (.ref ths :: [.int p1, .int p2, .int p3, .int p4]) M (some (.int z)) M') := by
  intro n
  induction n with
  | zero => exact ⟨(fun M ths p1 p2 p3 p4 z M' _ h => by cases h), (fun M ths p1 p2 p3 p4 z M' _ h => by cases h)⟩
  | succ n ih => exact ⟨(fun M ths p1 p2 p3 p4 z M' ht h => ct_X0_run Γ l (fn_rd n) n ih.1 ih.2 M ths p1 p2 p3 p4 ht z M' h), (fun M ths p1 p2 p3 p4 z M' ht h => ct_X0_done Γ l (fn_rd n) n ih.1 ih.2 M ths p1 p2 p3 p4 ht z M' h)⟩
theorem ct_rd_0 (Γ : GT) (l : Launch) (n : Nat) : ∀ (M : QM) (ths : Nat) (p1 p2 p3 p4 : Int32) (z : Int32) (M' : QM), mt M ths = 0 → fn_rd n 0 M ths p1 p2 p3 p4 = some (z, M') → CT Γ l yX0_run cX0_run 7 (some .int) (rm_X0_run n) (.ref ths :: [.int p1, .int p2, .int p3, .int p4]) M (some (.int z)) M' := (ct_rd_all Γ l n).1
theorem ct_rd_1 (Γ : GT) (l : Launch) (n : Nat) : ∀ (M : QM) (ths : Nat) (p1 p2 p3 p4 : Int32) (z : Int32) (M' : QM), mt M ths = 0 → fn_rd n 1 M ths p1 p2 p3 p4 = some (z, M') → CT Γ l yX0_done cX0_done 5 (some .int) (rm_X0_done n) (.ref ths :: [.int p1, .int p2, .int p3, .int p4]) M (some (.int z)) M' := (ct_rd_all Γ l n).2

abbrev rm_X6_become : Room := { frames := 1, cells := 0, slots := 0, locals := 40 }
def lp_X6_become_12 (ths : Nat) (w3_12 : Int32) (Mw_12 : QM) : Option ((Int32 × QM) ⊕ (QM)) :=
  if 60 ≤ w3_12 then
    some (.inr Mw_12)
  else
    gR Mw_12 ths 6 2 fun r19 =>
    wJ Mw_12 r19 w3_12 0 fun M24 =>
    nm (w3_12 + 1) fun v3_25 =>
    some (.inl (v3_25, M24))
def fn_X6_become (M : QM) (ths : Nat) (p1 : Int32) (p2 : Int32) : Option QM :=
  pI M ths 6 0 p1 fun M2 =>
  pI M2 ths 6 1 p2 fun M7 =>
  bnd (itr (fun s12 : Int32 × QM => lp_X6_become_12 ths s12.1 s12.2) FU (0, M7)) fun Mr_12 =>
  some Mr_12
set_option maxRecDepth 100000 in
set_option maxHeartbeats 4000000 in
theorem ct_X6_become (Γ : GT) (l : Launch) (M : QM) (ths : Nat) (p1 : Int32) (p2 : Int32) (ht0 : mt M ths = 6) (M' : QM) (h : fn_X6_become M ths p1 p2 = some M') : CT Γ l yX6_become cX6_become 4 none rm_X6_become (.ref ths :: [.int p1, .int p2]) M none M' := by
  refine ct_intro (own := RX6) (L := [(0, .ref ths), (1, .int p1), (2, .int p2)]) (by decide +kernel) rfl (Nat.le_of_ble_eq_true rfl) rfl ?_
  intro p e s m args below meth c Q hQ cx hnm
  unfold fn_X6_become at h
  refine q_aload_n cx (pc' := 1) 0 rfl dX6_become_0 rfl ?_
  refine q_iload_n cx (pc' := 2) 1 rfl dX6_become_1 rfl ?_
  obtain ⟨ht2, M2, eM2, h⟩ := pI_i h
  refine q_pI cx (pc' := 5) 6 0 fl_X6_9 rfl ht2 (ty := .int) ⟨(RX6, TX6, 3), rfl, by decide +kernel, Or.inl rfl⟩ rfl rfl eM2 dX6_become_2 rfl ?_
  refine q_aload_n cx (pc' := 6) 0 rfl dX6_become_5 rfl ?_
  refine q_iload_n cx (pc' := 7) 2 rfl dX6_become_6 rfl ?_
  obtain ⟨ht7, M7, eM7, h⟩ := pI_i h
  refine q_pI cx (pc' := 10) 6 1 fl_X6_17 rfl ht7 (ty := .int) ⟨(RX6, TX6, 3), rfl, by decide +kernel, Or.inl rfl⟩ rfl rfl eM7 dX6_become_7 rfl ?_
  refine q_iconst cx (pc' := 11) ki_0 dX6_become_10 rfl ?_
  refine q_istore_n cx (pc' := 12) rfl rfl (by decide) (L' := [(3, .int 0), (0, .ref ths), (1, .int p1), (2, .int p2)]) rfl dX6_become_11 rfl ?_
  obtain ⟨r12, hL12, h⟩ := bnd_i h
  have hk12_r : ∀ (Mr_12 : QM), Mr_12 = r12 → some Mr_12 = some M' := by
    intro Mr_12 hp
    subst hp
    exact h
  have key12 : ∀ (n : Nat) (w3_12 : Int32) (Mw_12 : QM), itr (fun s12 : Int32 × QM => lp_X6_become_12 ths s12.1 s12.2) n (w3_12, Mw_12) = some r12 → EE p l e rm_X6_become s m args below meth c Q Γ 4 0 0 12 [(0, .ref ths), (3, .int w3_12)] [] Mw_12 := by
    intro n
    induction n with
    | zero => intro _ _ h; exact (itr_0 h).elim
    | succ n ih =>
      intro w3_12 Mw_12 h
      obtain ⟨z12, h, hz12⟩ := itr_i h
      replace h : lp_X6_become_12 ths w3_12 Mw_12 = some z12 := h
      unfold lp_X6_become_12 at h
      refine q_iload_n cx (pc' := 13) 1 rfl dX6_become_12 rfl ?_
      refine q_bipush cx (pc' := 15) kb_60 dX6_become_13 rfl ?_
      refine q_icmp_ge cx (pc' := 18) (tgt := 31) dX6_become_15 (by decide) rfl (fun c15 => ?_) (fun c15 => ?_)
      · replace h := ip c15 h
        replace h := hk12_r _ (hz12.2 _ h)
        obtain rfl := o1_i h
        rw [hQ]
        exact q_vret cx dX6_become_31
      · replace h := ine c15 h
        refine q_aload_n cx (pc' := 19) 0 rfl dX6_become_18 rfl ?_
        obtain ⟨ht19, r19, ex19, h⟩ := gR_i h
        refine q_gR cx (pc' := 22) 6 2 fl_X6_13 rfl ht19 ex19 dX6_become_19 rfl ?_
        refine q_iload_n cx (pc' := 23) 1 rfl dX6_become_22 rfl ?_
        refine q_lconst0 cx (pc' := 24) dX6_become_23 rfl ?_
        obtain ⟨ht24, hi24, M24, eM24, h⟩ := wJ_i h
        refine q_last cx (pc' := 25) ht24 hi24 eM24 dX6_become_24 rfl ?_
        obtain ⟨v3_25, ev3_25, h⟩ := nm_i h
        refine q_iinc cx (pc' := 28) 1 rfl ki_1 ev3_25 (by decide) (L' := [(3, .int v3_25), (0, .ref ths)]) rfl dX6_become_25 rfl ?_
        refine q_goto cx dX6_become_28 (tgt := 12) (by decide) ?_
        refine q_sub cx [1, 0] rfl ?_
        exact ih _ _ (hz12.1 _ h)
  refine q_sub cx [1, 0] rfl ?_
  exact key12 FU _ _ hL12

abbrev rm_X6_fitted : Room := { frames := 1, cells := 0, slots := 0, locals := 40 }
def fn_X6_fitted (M : QM) (ths : Nat) (p1 : Int64) : Option Int64 :=
  gI M ths 6 0 fun x1 =>
  if x1 = 0 then
    some p1.toInt32.toInt8.toInt32.toInt64
  else if x1 = 1 then
    some p1.toInt32.toInt16.toInt32.toInt64
  else if x1 = 2 then
    some p1.toInt32.toInt64
  else if x1 = 3 then
    some p1
  else 
    if (lg_cmp p1 0) = 0 then
      some 0
    else
      some 1
set_option maxRecDepth 100000 in
set_option maxHeartbeats 4000000 in
theorem ct_X6_fitted (Γ : GT) (l : Launch) (M : QM) (ths : Nat) (p1 : Int64) (ht0 : mt M ths = 6) (z : Int64) (h : fn_X6_fitted M ths p1 = some z) : CT Γ l yX6_fitted cX6_fitted 3 (some .long) rm_X6_fitted (.ref ths :: [.long p1]) M (some (.long z)) M := by
  refine ct_intro (own := RX6) (L := [(0, .ref ths), (1, .long p1)]) (by decide +kernel) rfl (Nat.le_of_ble_eq_true rfl) rfl ?_
  intro p e s m args below meth c Q hQ cx hnm
  unfold fn_X6_fitted at h
  refine q_aload_n cx (pc' := 1) 0 rfl dX6_fitted_0 rfl ?_
  obtain ⟨ht1, x1, ex1, h⟩ := gI_i h
  refine q_gI cx (pc' := 4) 6 0 fl_X6_9 rfl ht1 ex1 dX6_fitted_1 rfl ?_
  rcases Decidable.em (x1 = 0) with c4_0 | c4_0
  · replace h := ip c4_0 h
    refine q_tabIn cx (off := 32) (tgt := 36) c4_0 dX6_fitted_4 (by decide) (by decide) ?_
    refine q_lload_n cx (pc' := 37) 1 rfl dX6_fitted_36 rfl ?_
    refine q_l2i cx (pc' := 38) dX6_fitted_37 rfl ?_
    refine q_i2b cx (pc' := 39) dX6_fitted_38 rfl ?_
    refine q_i2l cx (pc' := 40) dX6_fitted_39 rfl ?_
    obtain rfl := o1_i h
    rw [hQ]
    exact q_lret cx dX6_fitted_40
  replace h := ine c4_0 h
  rcases Decidable.em (x1 = 1) with c4_1 | c4_1
  · replace h := ip c4_1 h
    refine q_tabIn cx (off := 37) (tgt := 41) c4_1 dX6_fitted_4 (by decide) (by decide) ?_
    refine q_lload_n cx (pc' := 42) 1 rfl dX6_fitted_41 rfl ?_
    refine q_l2i cx (pc' := 43) dX6_fitted_42 rfl ?_
    refine q_i2s cx (pc' := 44) dX6_fitted_43 rfl ?_
    refine q_i2l cx (pc' := 45) dX6_fitted_44 rfl ?_
    obtain rfl := o1_i h
    rw [hQ]
    exact q_lret cx dX6_fitted_45
  replace h := ine c4_1 h
  rcases Decidable.em (x1 = 2) with c4_2 | c4_2
  · replace h := ip c4_2 h
    refine q_tabIn cx (off := 42) (tgt := 46) c4_2 dX6_fitted_4 (by decide) (by decide) ?_
    refine q_lload_n cx (pc' := 47) 1 rfl dX6_fitted_46 rfl ?_
    refine q_l2i cx (pc' := 48) dX6_fitted_47 rfl ?_
    refine q_i2l cx (pc' := 49) dX6_fitted_48 rfl ?_
    obtain rfl := o1_i h
    rw [hQ]
    exact q_lret cx dX6_fitted_49
  replace h := ine c4_2 h
  rcases Decidable.em (x1 = 3) with c4_3 | c4_3
  · replace h := ip c4_3 h
    refine q_tabIn cx (off := 46) (tgt := 50) c4_3 dX6_fitted_4 (by decide) (by decide) ?_
    refine q_lload_n cx (pc' := 51) 1 rfl dX6_fitted_50 rfl ?_
    obtain rfl := o1_i h
    rw [hQ]
    exact q_lret cx dX6_fitted_51
  replace h := ine c4_3 h
  have nt4_0 := lv_neT c4_0 (a := 0) rfl
  have nt4_1 := lv_neT c4_1 (a := 1) rfl
  have nt4_2 := lv_neT c4_2 (a := 2) rfl
  have nt4_3 := lv_neT c4_3 (a := 3) rfl
  refine q_tabOut cx (tgt := 52) dX6_fitted_4 (by omega) (by decide) ?_
  refine q_lload_n cx (pc' := 53) 1 rfl dX6_fitted_52 rfl ?_
  refine q_lconst0 cx (pc' := 54) dX6_fitted_53 rfl ?_
  refine q_lcmp cx (pc' := 55) dX6_fitted_54 rfl ?_
  refine q_if_eq cx (pc' := 58) (tgt := 62) dX6_fitted_55 (by decide) rfl (fun c55 => ?_) (fun c55 => ?_)
  · replace h := ip c55 h
    refine q_lconst0 cx (pc' := 63) dX6_fitted_62 rfl ?_
    obtain rfl := o1_i h
    rw [hQ]
    exact q_lret cx dX6_fitted_63
  · replace h := ine c55 h
    refine q_lconst1 cx (pc' := 59) dX6_fitted_58 rfl ?_
    refine q_goto cx dX6_fitted_59 (tgt := 63) (by decide) ?_
    obtain rfl := o1_i h
    rw [hQ]
    exact q_lret cx dX6_fitted_63
