abbrev rm_X9_init : Room := { frames := 2, cells := 45, slots := 1981, locals := 80 }
def fn_X9_init (M : QM) (ths : Nat) : Option QM :=
  pI M ths 9 0 0 fun M6 =>
  pI M6 ths 9 1 0 fun M11 =>
  nA M11 20 16 16 fun M17 r17 =>
  pR M17 ths 9 2 r17 fun M19 =>
  nA M19 20 5 5 fun M24 r24 =>
  pR M24 ths 9 3 r24 fun M26 =>
  nA M26 20 5 5 fun M31 r31 =>
  pR M31 ths 9 4 r31 fun M33 =>
  nA M33 20 5 5 fun M38 r38 =>
  pR M38 ths 9 5 r38 fun M40 =>
  nA M40 20 20 20 fun M46 r46 =>
  pR M46 ths 9 6 r46 fun M48 =>
  pI M48 ths 9 7 0 fun M53 =>
  pI M53 ths 9 8 (-1) fun M58 =>
  pI M58 ths 9 9 0 fun M63 =>
  pI M63 ths 9 10 0 fun M68 =>
  pI M68 ths 9 11 0 fun M73 =>
  nA M73 20 100 100 fun M79 r79 =>
  pR M79 ths 9 12 r79 fun M81 =>
  nA M81 20 6 6 fun M87 r87 =>
  pR M87 ths 9 13 r87 fun M89 =>
  nA M89 20 60 60 fun M95 r95 =>
  pR M95 ths 9 14 r95 fun M97 =>
  nA M97 20 60 60 fun M103 r103 =>
  pR M103 ths 9 15 r103 fun M105 =>
  nA M105 20 60 60 fun M111 r111 =>
  pR M111 ths 9 16 r111 fun M113 =>
  nA M113 20 60 60 fun M119 r119 =>
  pR M119 ths 9 17 r119 fun M121 =>
  nA M121 20 600 600 fun M128 r128 =>
  pR M128 ths 9 18 r128 fun M130 =>
  nA M130 20 101 101 fun M136 r136 =>
  pR M136 ths 9 19 r136 fun M138 =>
  pI M138 ths 9 20 0 fun M143 =>
  pI M143 ths 9 21 0 fun M148 =>
  pI M148 ths 9 22 0 fun M153 =>
  nA M153 20 18 18 fun M159 r159 =>
  wI M159 20 r159 0 116 fun M165 =>
  wI M165 20 r159 1 104 fun M170 =>
  wI M170 20 r159 2 105 fun M175 =>
  wI M175 20 r159 3 99 fun M180 =>
  wI M180 20 r159 4 107 fun M185 =>
  wI M185 20 r159 5 116 fun M190 =>
  wI M190 20 r159 6 104 fun M196 =>
  wI M196 20 r159 7 105 fun M202 =>
  wI M202 20 r159 8 110 fun M208 =>
  wI M208 20 r159 9 115 fun M214 =>
  wI M214 20 r159 10 112 fun M220 =>
  wI M220 20 r159 11 111 fun M226 =>
  wI M226 20 r159 12 111 fun M232 =>
  wI M232 20 r159 13 110 fun M238 =>
  wI M238 20 r159 14 109 fun M244 =>
  wI M244 20 r159 15 105 fun M250 =>
  wI M250 20 r159 16 108 fun M256 =>
  wI M256 20 r159 17 107 fun M262 =>
  pR M262 ths 9 23 r159 fun M263 =>
  nA M263 21 100 100 fun M269 r269 =>
  pR M269 ths 9 24 r269 fun M271 =>
  pI M271 ths 9 25 0 fun M276 =>
  nA M276 20 16 16 fun M282 r282 =>
  pR M282 ths 9 26 r282 fun M284 =>
  nA M284 20 16 16 fun M290 r290 =>
  pR M290 ths 9 27 r290 fun M292 =>
  nA M292 21 16 16 fun M298 r298 =>
  pR M298 ths 9 28 r298 fun M300 =>
  pI M300 ths 9 29 0 fun M305 =>
  pI M305 ths 9 30 0 fun M310 =>
  nA M310 20 16 16 fun M316 r316 =>
  pR M316 ths 9 31 r316 fun M318 =>
  nA M318 20 16 16 fun M324 r324 =>
  pR M324 ths 9 32 r324 fun M326 =>
  pI M326 ths 9 33 0 fun M331 =>
  nA M331 20 5 5 fun M336 r336 =>
  pR M336 ths 9 34 r336 fun M338 =>
  nA M338 20 5 5 fun M343 r343 =>
  pR M343 ths 9 35 r343 fun M345 =>
  nA M345 20 80 80 fun M351 r351 =>
  pR M351 ths 9 36 r351 fun M353 =>
  nA M353 21 5 5 fun M358 r358 =>
  pR M358 ths 9 37 r358 fun M360 =>
  pI M360 ths 9 38 0 fun M365 =>
  pI M365 ths 9 39 0 fun M370 =>
  nA M370 20 10 10 fun M376 r376 =>
  pR M376 ths 9 40 r376 fun M378 =>
  nA M378 20 10 10 fun M384 r384 =>
  pR M384 ths 9 41 r384 fun M386 =>
  nA M386 20 8 8 fun M392 r392 =>
  pR M392 ths 9 42 r392 fun M394 =>
  nA M394 20 8 8 fun M400 r400 =>
  pR M400 ths 9 43 r400 fun M402 =>
  pI M402 ths 9 44 0 fun M407 =>
  pI M407 ths 9 45 (-1) fun M412 =>
  pI M412 ths 9 46 0 fun M417 =>
  pI M417 ths 9 47 0 fun M422 =>
  pI M422 ths 9 48 0 fun M427 =>
  pI M427 ths 9 49 0 fun M432 =>
  pI M432 ths 9 50 0 fun M437 =>
  pI M437 ths 9 51 0 fun M442 =>
  nA M442 20 16 16 fun M448 r448 =>
  pR M448 ths 9 52 r448 fun M450 =>
  nA M450 20 5 5 fun M455 r455 =>
  pR M455 ths 9 53 r455 fun M457 =>
  nA M457 20 5 5 fun M462 r462 =>
  pR M462 ths 9 54 r462 fun M464 =>
  nA M464 20 5 5 fun M469 r469 =>
  pR M469 ths 9 55 r469 fun M471 =>
  nA M471 20 20 20 fun M477 r477 =>
  pR M477 ths 9 56 r477 fun M479 =>
  nA M479 20 5 5 fun M484 r484 =>
  pR M484 ths 9 57 r484 fun M486 =>
  nA M486 20 5 5 fun M491 r491 =>
  pR M491 ths 9 58 r491 fun M493 =>
  nA M493 20 10 10 fun M499 r499 =>
  pR M499 ths 9 59 r499 fun M501 =>
  nA M501 20 10 10 fun M507 r507 =>
  pR M507 ths 9 60 r507 fun M509 =>
  nA M509 20 8 8 fun M515 r515 =>
  pR M515 ths 9 61 r515 fun M517 =>
  nA M517 20 8 8 fun M523 r523 =>
  pR M523 ths 9 62 r523 fun M525 =>
  nA M525 21 5 5 fun M530 r530 =>
  pR M530 ths 9 63 r530 fun M532 =>
  pI M532 ths 9 64 0 fun M537 =>
  nA M537 20 20 20 fun M543 r543 =>
  pR M543 ths 9 65 r543 fun M545 =>
  nA M545 20 6 6 fun M551 r551 =>
  wI M551 20 r551 0 (-1) fun M556 =>
  wI M556 20 r551 1 (-1) fun M560 =>
  wI M560 20 r551 2 (-1) fun M564 =>
  wI M564 20 r551 3 (-1) fun M568 =>
  wI M568 20 r551 4 (-1) fun M572 =>
  wI M572 20 r551 5 (-1) fun M576 =>
  pR M576 ths 9 66 r551 fun M577 =>
  nA M577 20 6 6 fun M583 r583 =>
  pR M583 ths 9 67 r583 fun M585 =>
  nA M585 24 360 360 fun M592 r592 =>
  pR M592 ths 9 68 r592 fun M594 =>
  nA M594 24 60 60 fun M600 r600 =>
  pR M600 ths 9 69 r600 fun M602 =>
  some M602
set_option maxRecDepth 100000 in
set_option maxHeartbeats 4000000 in
theorem ct_X9_init (Γ : GT) (l : Launch) (M : QM) (ths : Nat) (ht0 : mt M ths = 9) (M' : QM) (h : fn_X9_init M ths = some M') : CT Γ l yX9_init cX9_init 1 none rm_X9_init (.ref ths :: []) M none M' := by
  refine ct_intro (own := RX9) (L := [(0, .ref ths)]) (by decide +kernel) rfl (Nat.le_of_ble_eq_true rfl) rfl ?_
  intro p e s m args below meth c Q hQ cx hnm
  unfold fn_X9_init at h
  refine q_aload_n cx (pc' := 1) 0 rfl dX9_init_0 rfl ?_
  refine q_objInit cx (pc' := 4) aw_106 ⟨aw_1, aw_2⟩ ⟨(Nat.le_of_ble_eq_true rfl), (Nat.le_of_ble_eq_true rfl)⟩ (Nat.le_of_ble_eq_true rfl) dX9_init_1 rfl ?_
  refine q_aload_n cx (pc' := 5) 0 rfl dX9_init_4 rfl ?_
  refine q_iconst cx (pc' := 6) ki_0 dX9_init_5 rfl ?_
  obtain ⟨ht6, M6, eM6, h⟩ := pI_i h
  refine q_pI cx (pc' := 9) 9 0 fl_X9_7 rfl ht6 (ty := .int) ⟨(RX9, TX9, 70), rfl, by decide +kernel, Or.inl rfl⟩ rfl rfl eM6 dX9_init_6 rfl ?_
  refine q_aload_n cx (pc' := 10) 0 rfl dX9_init_9 rfl ?_
  refine q_iconst cx (pc' := 11) ki_0 dX9_init_10 rfl ?_
  obtain ⟨ht11, M11, eM11, h⟩ := pI_i h
  refine q_pI cx (pc' := 14) 9 1 fl_X9_13 rfl ht11 (ty := .int) ⟨(RX9, TX9, 70), rfl, by decide +kernel, Or.inl rfl⟩ rfl rfl eM11 dX9_init_11 rfl ?_
  refine q_aload_n cx (pc' := 15) 0 rfl dX9_init_14 rfl ?_
  refine q_bipush cx (pc' := 17) kb_16 dX9_init_15 rfl ?_
  obtain ⟨hn17, hb17, M17, r17, eM17, er17, h⟩ := nA_i h
  refine q_newI cx (pc' := 19) aw_3 hn17 rfl (by omega) (Nat.le_of_ble_eq_true rfl) (Nat.le_trans (Nat.add_le_add_left hb17 _) (Nat.le_of_ble_eq_true rfl)) eM17 dX9_init_17 rfl ?_
  refine q_widen (k2 := 1) (s2 := 16) (Nat.le_refl _) (Nat.add_le_add_left hb17 _) ?_
  rw [← er17]
  obtain ⟨ht19, M19, eM19, h⟩ := pR_i h
  refine q_pR cx (pc' := 22) 9 2 fl_X9_16 rfl ht19 (ty := (.array .int)) ⟨(RX9, TX9, 70), rfl, by decide +kernel, Or.inr ⟨hnm, rfl, aw_107⟩⟩ rfl rfl eM19 dX9_init_19 rfl ?_
  refine q_aload_n cx (pc' := 23) 0 rfl dX9_init_22 rfl ?_
  refine q_iconst cx (pc' := 24) ki_5 dX9_init_23 rfl ?_
  obtain ⟨hn24, hb24, M24, r24, eM24, er24, h⟩ := nA_i h
  refine q_newI cx (pc' := 26) aw_3 hn24 rfl (by omega) (Nat.le_of_ble_eq_true rfl) (Nat.le_trans (Nat.add_le_add_left hb24 _) (Nat.le_of_ble_eq_true rfl)) eM24 dX9_init_24 rfl ?_
  refine q_widen (k2 := 2) (s2 := 21) (Nat.le_refl _) (Nat.add_le_add_left hb24 _) ?_
  rw [← er24]
  obtain ⟨ht26, M26, eM26, h⟩ := pR_i h
  refine q_pR cx (pc' := 29) 9 3 fl_X9_20 rfl ht26 (ty := (.array .int)) ⟨(RX9, TX9, 70), rfl, by decide +kernel, Or.inr ⟨hnm, rfl, aw_108⟩⟩ rfl rfl eM26 dX9_init_26 rfl ?_
  refine q_aload_n cx (pc' := 30) 0 rfl dX9_init_29 rfl ?_
  refine q_iconst cx (pc' := 31) ki_5 dX9_init_30 rfl ?_
  obtain ⟨hn31, hb31, M31, r31, eM31, er31, h⟩ := nA_i h
  refine q_newI cx (pc' := 33) aw_3 hn31 rfl (by omega) (Nat.le_of_ble_eq_true rfl) (Nat.le_trans (Nat.add_le_add_left hb31 _) (Nat.le_of_ble_eq_true rfl)) eM31 dX9_init_31 rfl ?_
  refine q_widen (k2 := 3) (s2 := 26) (Nat.le_refl _) (Nat.add_le_add_left hb31 _) ?_
  rw [← er31]
  obtain ⟨ht33, M33, eM33, h⟩ := pR_i h
  refine q_pR cx (pc' := 36) 9 4 fl_X9_23 rfl ht33 (ty := (.array .int)) ⟨(RX9, TX9, 70), rfl, by decide +kernel, Or.inr ⟨hnm, rfl, aw_109⟩⟩ rfl rfl eM33 dX9_init_33 rfl ?_
  refine q_aload_n cx (pc' := 37) 0 rfl dX9_init_36 rfl ?_
  refine q_iconst cx (pc' := 38) ki_5 dX9_init_37 rfl ?_
  obtain ⟨hn38, hb38, M38, r38, eM38, er38, h⟩ := nA_i h
  refine q_newI cx (pc' := 40) aw_3 hn38 rfl (by omega) (Nat.le_of_ble_eq_true rfl) (Nat.le_trans (Nat.add_le_add_left hb38 _) (Nat.le_of_ble_eq_true rfl)) eM38 dX9_init_38 rfl ?_
  refine q_widen (k2 := 4) (s2 := 31) (Nat.le_refl _) (Nat.add_le_add_left hb38 _) ?_
  rw [← er38]
  obtain ⟨ht40, M40, eM40, h⟩ := pR_i h
  refine q_pR cx (pc' := 43) 9 5 fl_X9_26 rfl ht40 (ty := (.array .int)) ⟨(RX9, TX9, 70), rfl, by decide +kernel, Or.inr ⟨hnm, rfl, aw_110⟩⟩ rfl rfl eM40 dX9_init_40 rfl ?_
  refine q_aload_n cx (pc' := 44) 0 rfl dX9_init_43 rfl ?_
  refine q_bipush cx (pc' := 46) kb_20 dX9_init_44 rfl ?_
  obtain ⟨hn46, hb46, M46, r46, eM46, er46, h⟩ := nA_i h
  refine q_newI cx (pc' := 48) aw_3 hn46 rfl (by omega) (Nat.le_of_ble_eq_true rfl) (Nat.le_trans (Nat.add_le_add_left hb46 _) (Nat.le_of_ble_eq_true rfl)) eM46 dX9_init_46 rfl ?_
  refine q_widen (k2 := 5) (s2 := 51) (Nat.le_refl _) (Nat.add_le_add_left hb46 _) ?_
  rw [← er46]
  obtain ⟨ht48, M48, eM48, h⟩ := pR_i h
  refine q_pR cx (pc' := 51) 9 6 fl_X9_29 rfl ht48 (ty := (.array .int)) ⟨(RX9, TX9, 70), rfl, by decide +kernel, Or.inr ⟨hnm, rfl, aw_111⟩⟩ rfl rfl eM48 dX9_init_48 rfl ?_
  refine q_aload_n cx (pc' := 52) 0 rfl dX9_init_51 rfl ?_
  refine q_iconst cx (pc' := 53) ki_0 dX9_init_52 rfl ?_
  obtain ⟨ht53, M53, eM53, h⟩ := pI_i h
  refine q_pI cx (pc' := 56) 9 7 fl_X9_32 rfl ht53 (ty := .int) ⟨(RX9, TX9, 70), rfl, by decide +kernel, Or.inl rfl⟩ rfl rfl eM53 dX9_init_53 rfl ?_
  refine q_aload_n cx (pc' := 57) 0 rfl dX9_init_56 rfl ?_
  refine q_iconst cx (pc' := 58) ki_m1 dX9_init_57 rfl ?_
  obtain ⟨ht58, M58, eM58, h⟩ := pI_i h
  refine q_pI cx (pc' := 61) 9 8 fl_X9_35 rfl ht58 (ty := .int) ⟨(RX9, TX9, 70), rfl, by decide +kernel, Or.inl rfl⟩ rfl rfl eM58 dX9_init_58 rfl ?_
  refine q_aload_n cx (pc' := 62) 0 rfl dX9_init_61 rfl ?_
  refine q_iconst cx (pc' := 63) ki_0 dX9_init_62 rfl ?_
  obtain ⟨ht63, M63, eM63, h⟩ := pI_i h
  refine q_pI cx (pc' := 66) 9 9 fl_X9_38 rfl ht63 (ty := .int) ⟨(RX9, TX9, 70), rfl, by decide +kernel, Or.inl rfl⟩ rfl rfl eM63 dX9_init_63 rfl ?_
  refine q_aload_n cx (pc' := 67) 0 rfl dX9_init_66 rfl ?_
  refine q_iconst cx (pc' := 68) ki_0 dX9_init_67 rfl ?_
  obtain ⟨ht68, M68, eM68, h⟩ := pI_i h
  refine q_pI cx (pc' := 71) 9 10 fl_X9_41 rfl ht68 (ty := .int) ⟨(RX9, TX9, 70), rfl, by decide +kernel, Or.inl rfl⟩ rfl rfl eM68 dX9_init_68 rfl ?_
  refine q_aload_n cx (pc' := 72) 0 rfl dX9_init_71 rfl ?_
  refine q_iconst cx (pc' := 73) ki_0 dX9_init_72 rfl ?_
  obtain ⟨ht73, M73, eM73, h⟩ := pI_i h
  refine q_pI cx (pc' := 76) 9 11 fl_X9_44 rfl ht73 (ty := .int) ⟨(RX9, TX9, 70), rfl, by decide +kernel, Or.inl rfl⟩ rfl rfl eM73 dX9_init_73 rfl ?_
  refine q_aload_n cx (pc' := 77) 0 rfl dX9_init_76 rfl ?_
  refine q_bipush cx (pc' := 79) kb_100 dX9_init_77 rfl ?_
  obtain ⟨hn79, hb79, M79, r79, eM79, er79, h⟩ := nA_i h
  refine q_newI cx (pc' := 81) aw_3 hn79 rfl (by omega) (Nat.le_of_ble_eq_true rfl) (Nat.le_trans (Nat.add_le_add_left hb79 _) (Nat.le_of_ble_eq_true rfl)) eM79 dX9_init_79 rfl ?_
  refine q_widen (k2 := 6) (s2 := 151) (Nat.le_refl _) (Nat.add_le_add_left hb79 _) ?_
  rw [← er79]
  obtain ⟨ht81, M81, eM81, h⟩ := pR_i h
  refine q_pR cx (pc' := 84) 9 12 fl_X9_47 rfl ht81 (ty := (.array .int)) ⟨(RX9, TX9, 70), rfl, by decide +kernel, Or.inr ⟨hnm, rfl, aw_112⟩⟩ rfl rfl eM81 dX9_init_81 rfl ?_
  refine q_aload_n cx (pc' := 85) 0 rfl dX9_init_84 rfl ?_
  refine q_bipush cx (pc' := 87) kb_6 dX9_init_85 rfl ?_
  obtain ⟨hn87, hb87, M87, r87, eM87, er87, h⟩ := nA_i h
  refine q_newI cx (pc' := 89) aw_3 hn87 rfl (by omega) (Nat.le_of_ble_eq_true rfl) (Nat.le_trans (Nat.add_le_add_left hb87 _) (Nat.le_of_ble_eq_true rfl)) eM87 dX9_init_87 rfl ?_
  refine q_widen (k2 := 7) (s2 := 157) (Nat.le_refl _) (Nat.add_le_add_left hb87 _) ?_
  rw [← er87]
  obtain ⟨ht89, M89, eM89, h⟩ := pR_i h
  refine q_pR cx (pc' := 92) 9 13 fl_X9_50 rfl ht89 (ty := (.array .int)) ⟨(RX9, TX9, 70), rfl, by decide +kernel, Or.inr ⟨hnm, rfl, aw_113⟩⟩ rfl rfl eM89 dX9_init_89 rfl ?_
  refine q_aload_n cx (pc' := 93) 0 rfl dX9_init_92 rfl ?_
  refine q_bipush cx (pc' := 95) kb_60 dX9_init_93 rfl ?_
  obtain ⟨hn95, hb95, M95, r95, eM95, er95, h⟩ := nA_i h
  refine q_newI cx (pc' := 97) aw_3 hn95 rfl (by omega) (Nat.le_of_ble_eq_true rfl) (Nat.le_trans (Nat.add_le_add_left hb95 _) (Nat.le_of_ble_eq_true rfl)) eM95 dX9_init_95 rfl ?_
  refine q_widen (k2 := 8) (s2 := 217) (Nat.le_refl _) (Nat.add_le_add_left hb95 _) ?_
  rw [← er95]
  obtain ⟨ht97, M97, eM97, h⟩ := pR_i h
  refine q_pR cx (pc' := 100) 9 14 fl_X9_53 rfl ht97 (ty := (.array .int)) ⟨(RX9, TX9, 70), rfl, by decide +kernel, Or.inr ⟨hnm, rfl, aw_114⟩⟩ rfl rfl eM97 dX9_init_97 rfl ?_
  refine q_aload_n cx (pc' := 101) 0 rfl dX9_init_100 rfl ?_
  refine q_bipush cx (pc' := 103) kb_60 dX9_init_101 rfl ?_
  obtain ⟨hn103, hb103, M103, r103, eM103, er103, h⟩ := nA_i h
  refine q_newI cx (pc' := 105) aw_3 hn103 rfl (by omega) (Nat.le_of_ble_eq_true rfl) (Nat.le_trans (Nat.add_le_add_left hb103 _) (Nat.le_of_ble_eq_true rfl)) eM103 dX9_init_103 rfl ?_
  refine q_widen (k2 := 9) (s2 := 277) (Nat.le_refl _) (Nat.add_le_add_left hb103 _) ?_
  rw [← er103]
  obtain ⟨ht105, M105, eM105, h⟩ := pR_i h
  refine q_pR cx (pc' := 108) 9 15 fl_X9_56 rfl ht105 (ty := (.array .int)) ⟨(RX9, TX9, 70), rfl, by decide +kernel, Or.inr ⟨hnm, rfl, aw_115⟩⟩ rfl rfl eM105 dX9_init_105 rfl ?_
  refine q_aload_n cx (pc' := 109) 0 rfl dX9_init_108 rfl ?_
  refine q_bipush cx (pc' := 111) kb_60 dX9_init_109 rfl ?_
  obtain ⟨hn111, hb111, M111, r111, eM111, er111, h⟩ := nA_i h
  refine q_newI cx (pc' := 113) aw_3 hn111 rfl (by omega) (Nat.le_of_ble_eq_true rfl) (Nat.le_trans (Nat.add_le_add_left hb111 _) (Nat.le_of_ble_eq_true rfl)) eM111 dX9_init_111 rfl ?_
  refine q_widen (k2 := 10) (s2 := 337) (Nat.le_refl _) (Nat.add_le_add_left hb111 _) ?_
  rw [← er111]
  obtain ⟨ht113, M113, eM113, h⟩ := pR_i h
  refine q_pR cx (pc' := 116) 9 16 fl_X9_59 rfl ht113 (ty := (.array .int)) ⟨(RX9, TX9, 70), rfl, by decide +kernel, Or.inr ⟨hnm, rfl, aw_116⟩⟩ rfl rfl eM113 dX9_init_113 rfl ?_
  refine q_aload_n cx (pc' := 117) 0 rfl dX9_init_116 rfl ?_
  refine q_bipush cx (pc' := 119) kb_60 dX9_init_117 rfl ?_
  obtain ⟨hn119, hb119, M119, r119, eM119, er119, h⟩ := nA_i h
  refine q_newI cx (pc' := 121) aw_3 hn119 rfl (by omega) (Nat.le_of_ble_eq_true rfl) (Nat.le_trans (Nat.add_le_add_left hb119 _) (Nat.le_of_ble_eq_true rfl)) eM119 dX9_init_119 rfl ?_
  refine q_widen (k2 := 11) (s2 := 397) (Nat.le_refl _) (Nat.add_le_add_left hb119 _) ?_
  rw [← er119]
  obtain ⟨ht121, M121, eM121, h⟩ := pR_i h
  refine q_pR cx (pc' := 124) 9 17 fl_X9_62 rfl ht121 (ty := (.array .int)) ⟨(RX9, TX9, 70), rfl, by decide +kernel, Or.inr ⟨hnm, rfl, aw_117⟩⟩ rfl rfl eM121 dX9_init_121 rfl ?_
  refine q_aload_n cx (pc' := 125) 0 rfl dX9_init_124 rfl ?_
  refine q_sipush cx (pc' := 128) ks_600 dX9_init_125 rfl ?_
  obtain ⟨hn128, hb128, M128, r128, eM128, er128, h⟩ := nA_i h
  refine q_newI cx (pc' := 130) aw_3 hn128 rfl (by omega) (Nat.le_of_ble_eq_true rfl) (Nat.le_trans (Nat.add_le_add_left hb128 _) (Nat.le_of_ble_eq_true rfl)) eM128 dX9_init_128 rfl ?_
  refine q_widen (k2 := 12) (s2 := 997) (Nat.le_refl _) (Nat.add_le_add_left hb128 _) ?_
  rw [← er128]
  obtain ⟨ht130, M130, eM130, h⟩ := pR_i h
  refine q_pR cx (pc' := 133) 9 18 fl_X9_65 rfl ht130 (ty := (.array .int)) ⟨(RX9, TX9, 70), rfl, by decide +kernel, Or.inr ⟨hnm, rfl, aw_118⟩⟩ rfl rfl eM130 dX9_init_130 rfl ?_
  refine q_aload_n cx (pc' := 134) 0 rfl dX9_init_133 rfl ?_
  refine q_bipush cx (pc' := 136) kb_101 dX9_init_134 rfl ?_
  obtain ⟨hn136, hb136, M136, r136, eM136, er136, h⟩ := nA_i h
  refine q_newI cx (pc' := 138) aw_3 hn136 rfl (by omega) (Nat.le_of_ble_eq_true rfl) (Nat.le_trans (Nat.add_le_add_left hb136 _) (Nat.le_of_ble_eq_true rfl)) eM136 dX9_init_136 rfl ?_
  refine q_widen (k2 := 13) (s2 := 1098) (Nat.le_refl _) (Nat.add_le_add_left hb136 _) ?_
  rw [← er136]
  obtain ⟨ht138, M138, eM138, h⟩ := pR_i h
  refine q_pR cx (pc' := 141) 9 19 fl_X9_68 rfl ht138 (ty := (.array .int)) ⟨(RX9, TX9, 70), rfl, by decide +kernel, Or.inr ⟨hnm, rfl, aw_119⟩⟩ rfl rfl eM138 dX9_init_138 rfl ?_
  refine q_aload_n cx (pc' := 142) 0 rfl dX9_init_141 rfl ?_
  refine q_iconst cx (pc' := 143) ki_0 dX9_init_142 rfl ?_
  obtain ⟨ht143, M143, eM143, h⟩ := pI_i h
  refine q_pI cx (pc' := 146) 9 20 fl_X9_71 rfl ht143 (ty := .int) ⟨(RX9, TX9, 70), rfl, by decide +kernel, Or.inl rfl⟩ rfl rfl eM143 dX9_init_143 rfl ?_
  refine q_aload_n cx (pc' := 147) 0 rfl dX9_init_146 rfl ?_
  refine q_iconst cx (pc' := 148) ki_0 dX9_init_147 rfl ?_
  obtain ⟨ht148, M148, eM148, h⟩ := pI_i h
  refine q_pI cx (pc' := 151) 9 21 fl_X9_74 rfl ht148 (ty := .int) ⟨(RX9, TX9, 70), rfl, by decide +kernel, Or.inl rfl⟩ rfl rfl eM148 dX9_init_148 rfl ?_
  refine q_aload_n cx (pc' := 152) 0 rfl dX9_init_151 rfl ?_
  refine q_iconst cx (pc' := 153) ki_0 dX9_init_152 rfl ?_
  obtain ⟨ht153, M153, eM153, h⟩ := pI_i h
  refine q_pI cx (pc' := 156) 9 22 fl_X9_77 rfl ht153 (ty := .int) ⟨(RX9, TX9, 70), rfl, by decide +kernel, Or.inl rfl⟩ rfl rfl eM153 dX9_init_153 rfl ?_
  refine q_aload_n cx (pc' := 157) 0 rfl dX9_init_156 rfl ?_
  refine q_bipush cx (pc' := 159) kb_18 dX9_init_157 rfl ?_
  obtain ⟨hn159, hb159, M159, r159, eM159, er159, h⟩ := nA_i h
  refine q_newI cx (pc' := 161) aw_3 hn159 rfl (by omega) (Nat.le_of_ble_eq_true rfl) (Nat.le_trans (Nat.add_le_add_left hb159 _) (Nat.le_of_ble_eq_true rfl)) eM159 dX9_init_159 rfl ?_
  refine q_widen (k2 := 14) (s2 := 1116) (Nat.le_refl _) (Nat.add_le_add_left hb159 _) ?_
  rw [← er159]
  refine q_dup cx (pc' := 162) rfl dX9_init_161 rfl ?_
  refine q_iconst cx (pc' := 163) ki_0 dX9_init_162 rfl ?_
  refine q_bipush cx (pc' := 165) kb_116 dX9_init_163 rfl ?_
  obtain ⟨ht165, hi165, M165, eM165, h⟩ := wI_i h
  refine q_iast cx (pc' := 166) ht165 hi165 eM165 dX9_init_165 rfl ?_
  refine q_dup cx (pc' := 167) rfl dX9_init_166 rfl ?_
  refine q_iconst cx (pc' := 168) ki_1 dX9_init_167 rfl ?_
  refine q_bipush cx (pc' := 170) kb_104 dX9_init_168 rfl ?_
  obtain ⟨ht170, hi170, M170, eM170, h⟩ := wI_i h
  refine q_iast cx (pc' := 171) ht170 hi170 eM170 dX9_init_170 rfl ?_
  refine q_dup cx (pc' := 172) rfl dX9_init_171 rfl ?_
  refine q_iconst cx (pc' := 173) ki_2 dX9_init_172 rfl ?_
  refine q_bipush cx (pc' := 175) kb_105 dX9_init_173 rfl ?_
  obtain ⟨ht175, hi175, M175, eM175, h⟩ := wI_i h
  refine q_iast cx (pc' := 176) ht175 hi175 eM175 dX9_init_175 rfl ?_
  refine q_dup cx (pc' := 177) rfl dX9_init_176 rfl ?_
  refine q_iconst cx (pc' := 178) ki_3 dX9_init_177 rfl ?_
  refine q_bipush cx (pc' := 180) kb_99 dX9_init_178 rfl ?_
  obtain ⟨ht180, hi180, M180, eM180, h⟩ := wI_i h
  refine q_iast cx (pc' := 181) ht180 hi180 eM180 dX9_init_180 rfl ?_
  refine q_dup cx (pc' := 182) rfl dX9_init_181 rfl ?_
  refine q_iconst cx (pc' := 183) ki_4 dX9_init_182 rfl ?_
  refine q_bipush cx (pc' := 185) kb_107 dX9_init_183 rfl ?_
  obtain ⟨ht185, hi185, M185, eM185, h⟩ := wI_i h
  refine q_iast cx (pc' := 186) ht185 hi185 eM185 dX9_init_185 rfl ?_
  refine q_dup cx (pc' := 187) rfl dX9_init_186 rfl ?_
  refine q_iconst cx (pc' := 188) ki_5 dX9_init_187 rfl ?_
  refine q_bipush cx (pc' := 190) kb_116 dX9_init_188 rfl ?_
  obtain ⟨ht190, hi190, M190, eM190, h⟩ := wI_i h
  refine q_iast cx (pc' := 191) ht190 hi190 eM190 dX9_init_190 rfl ?_
  refine q_dup cx (pc' := 192) rfl dX9_init_191 rfl ?_
  refine q_bipush cx (pc' := 194) kb_6 dX9_init_192 rfl ?_
  refine q_bipush cx (pc' := 196) kb_104 dX9_init_194 rfl ?_
  obtain ⟨ht196, hi196, M196, eM196, h⟩ := wI_i h
  refine q_iast cx (pc' := 197) ht196 hi196 eM196 dX9_init_196 rfl ?_
  refine q_dup cx (pc' := 198) rfl dX9_init_197 rfl ?_
  refine q_bipush cx (pc' := 200) kb_7 dX9_init_198 rfl ?_
  refine q_bipush cx (pc' := 202) kb_105 dX9_init_200 rfl ?_
  obtain ⟨ht202, hi202, M202, eM202, h⟩ := wI_i h
  refine q_iast cx (pc' := 203) ht202 hi202 eM202 dX9_init_202 rfl ?_
  refine q_dup cx (pc' := 204) rfl dX9_init_203 rfl ?_
  refine q_bipush cx (pc' := 206) kb_8 dX9_init_204 rfl ?_
  refine q_bipush cx (pc' := 208) kb_110 dX9_init_206 rfl ?_
  obtain ⟨ht208, hi208, M208, eM208, h⟩ := wI_i h
  refine q_iast cx (pc' := 209) ht208 hi208 eM208 dX9_init_208 rfl ?_
  refine q_dup cx (pc' := 210) rfl dX9_init_209 rfl ?_
  refine q_bipush cx (pc' := 212) kb_9 dX9_init_210 rfl ?_
  refine q_bipush cx (pc' := 214) kb_115 dX9_init_212 rfl ?_
  obtain ⟨ht214, hi214, M214, eM214, h⟩ := wI_i h
  refine q_iast cx (pc' := 215) ht214 hi214 eM214 dX9_init_214 rfl ?_
  refine q_dup cx (pc' := 216) rfl dX9_init_215 rfl ?_
  refine q_bipush cx (pc' := 218) kb_10 dX9_init_216 rfl ?_
  refine q_bipush cx (pc' := 220) kb_112 dX9_init_218 rfl ?_
  obtain ⟨ht220, hi220, M220, eM220, h⟩ := wI_i h
  refine q_iast cx (pc' := 221) ht220 hi220 eM220 dX9_init_220 rfl ?_
  refine q_dup cx (pc' := 222) rfl dX9_init_221 rfl ?_
  refine q_bipush cx (pc' := 224) kb_11 dX9_init_222 rfl ?_
  refine q_bipush cx (pc' := 226) kb_111 dX9_init_224 rfl ?_
  obtain ⟨ht226, hi226, M226, eM226, h⟩ := wI_i h
  refine q_iast cx (pc' := 227) ht226 hi226 eM226 dX9_init_226 rfl ?_
  refine q_dup cx (pc' := 228) rfl dX9_init_227 rfl ?_
  refine q_bipush cx (pc' := 230) kb_12 dX9_init_228 rfl ?_
  refine q_bipush cx (pc' := 232) kb_111 dX9_init_230 rfl ?_
  obtain ⟨ht232, hi232, M232, eM232, h⟩ := wI_i h
  refine q_iast cx (pc' := 233) ht232 hi232 eM232 dX9_init_232 rfl ?_
  refine q_dup cx (pc' := 234) rfl dX9_init_233 rfl ?_
  refine q_bipush cx (pc' := 236) kb_13 dX9_init_234 rfl ?_
  refine q_bipush cx (pc' := 238) kb_110 dX9_init_236 rfl ?_
  obtain ⟨ht238, hi238, M238, eM238, h⟩ := wI_i h
  refine q_iast cx (pc' := 239) ht238 hi238 eM238 dX9_init_238 rfl ?_
  refine q_dup cx (pc' := 240) rfl dX9_init_239 rfl ?_
  refine q_bipush cx (pc' := 242) kb_14 dX9_init_240 rfl ?_
  refine q_bipush cx (pc' := 244) kb_109 dX9_init_242 rfl ?_
  obtain ⟨ht244, hi244, M244, eM244, h⟩ := wI_i h
  refine q_iast cx (pc' := 245) ht244 hi244 eM244 dX9_init_244 rfl ?_
  refine q_dup cx (pc' := 246) rfl dX9_init_245 rfl ?_
  refine q_bipush cx (pc' := 248) kb_15 dX9_init_246 rfl ?_
  refine q_bipush cx (pc' := 250) kb_105 dX9_init_248 rfl ?_
  obtain ⟨ht250, hi250, M250, eM250, h⟩ := wI_i h
  refine q_iast cx (pc' := 251) ht250 hi250 eM250 dX9_init_250 rfl ?_
  refine q_dup cx (pc' := 252) rfl dX9_init_251 rfl ?_
  refine q_bipush cx (pc' := 254) kb_16 dX9_init_252 rfl ?_
  refine q_bipush cx (pc' := 256) kb_108 dX9_init_254 rfl ?_
  obtain ⟨ht256, hi256, M256, eM256, h⟩ := wI_i h
  refine q_iast cx (pc' := 257) ht256 hi256 eM256 dX9_init_256 rfl ?_
  refine q_dup cx (pc' := 258) rfl dX9_init_257 rfl ?_
  refine q_bipush cx (pc' := 260) kb_17 dX9_init_258 rfl ?_
  refine q_bipush cx (pc' := 262) kb_107 dX9_init_260 rfl ?_
  obtain ⟨ht262, hi262, M262, eM262, h⟩ := wI_i h
  refine q_iast cx (pc' := 263) ht262 hi262 eM262 dX9_init_262 rfl ?_
  obtain ⟨ht263, M263, eM263, h⟩ := pR_i h
  refine q_pR cx (pc' := 266) 9 23 fl_X9_80 rfl ht263 (ty := (.array .int)) ⟨(RX9, TX9, 70), rfl, by decide +kernel, Or.inr ⟨hnm, rfl, aw_120⟩⟩ rfl rfl eM263 dX9_init_263 rfl ?_
  refine q_aload_n cx (pc' := 267) 0 rfl dX9_init_266 rfl ?_
  refine q_bipush cx (pc' := 269) kb_100 dX9_init_267 rfl ?_
  obtain ⟨hn269, hb269, M269, r269, eM269, er269, h⟩ := nA_i h
  refine q_newZ cx (pc' := 271) aw_61 hn269 rfl (by omega) (Nat.le_of_ble_eq_true rfl) (Nat.le_trans (Nat.add_le_add_left hb269 _) (Nat.le_of_ble_eq_true rfl)) eM269 dX9_init_269 rfl ?_
  refine q_widen (k2 := 15) (s2 := 1216) (Nat.le_refl _) (Nat.add_le_add_left hb269 _) ?_
  rw [← er269]
  obtain ⟨ht271, M271, eM271, h⟩ := pR_i h
  refine q_pR cx (pc' := 274) 9 24 fl_X9_83 rfl ht271 (ty := (.array .boolean)) ⟨(RX9, TX9, 70), rfl, by decide +kernel, Or.inr ⟨hnm, rfl, aw_121⟩⟩ rfl rfl eM271 dX9_init_271 rfl ?_
  refine q_aload_n cx (pc' := 275) 0 rfl dX9_init_274 rfl ?_
  refine q_iconst cx (pc' := 276) ki_0 dX9_init_275 rfl ?_
  obtain ⟨ht276, M276, eM276, h⟩ := pI_i h
  refine q_pI cx (pc' := 279) 9 25 fl_X9_87 rfl ht276 (ty := .int) ⟨(RX9, TX9, 70), rfl, by decide +kernel, Or.inl rfl⟩ rfl rfl eM276 dX9_init_276 rfl ?_
  refine q_aload_n cx (pc' := 280) 0 rfl dX9_init_279 rfl ?_
  refine q_bipush cx (pc' := 282) kb_16 dX9_init_280 rfl ?_
  obtain ⟨hn282, hb282, M282, r282, eM282, er282, h⟩ := nA_i h
  refine q_newI cx (pc' := 284) aw_3 hn282 rfl (by omega) (Nat.le_of_ble_eq_true rfl) (Nat.le_trans (Nat.add_le_add_left hb282 _) (Nat.le_of_ble_eq_true rfl)) eM282 dX9_init_282 rfl ?_
  refine q_widen (k2 := 16) (s2 := 1232) (Nat.le_refl _) (Nat.add_le_add_left hb282 _) ?_
  rw [← er282]
  obtain ⟨ht284, M284, eM284, h⟩ := pR_i h
  refine q_pR cx (pc' := 287) 9 26 fl_X9_90 rfl ht284 (ty := (.array .int)) ⟨(RX9, TX9, 70), rfl, by decide +kernel, Or.inr ⟨hnm, rfl, aw_122⟩⟩ rfl rfl eM284 dX9_init_284 rfl ?_
  refine q_aload_n cx (pc' := 288) 0 rfl dX9_init_287 rfl ?_
  refine q_bipush cx (pc' := 290) kb_16 dX9_init_288 rfl ?_
  obtain ⟨hn290, hb290, M290, r290, eM290, er290, h⟩ := nA_i h
  refine q_newI cx (pc' := 292) aw_3 hn290 rfl (by omega) (Nat.le_of_ble_eq_true rfl) (Nat.le_trans (Nat.add_le_add_left hb290 _) (Nat.le_of_ble_eq_true rfl)) eM290 dX9_init_290 rfl ?_
  refine q_widen (k2 := 17) (s2 := 1248) (Nat.le_refl _) (Nat.add_le_add_left hb290 _) ?_
  rw [← er290]
  obtain ⟨ht292, M292, eM292, h⟩ := pR_i h
  refine q_pR cx (pc' := 295) 9 27 fl_X9_93 rfl ht292 (ty := (.array .int)) ⟨(RX9, TX9, 70), rfl, by decide +kernel, Or.inr ⟨hnm, rfl, aw_123⟩⟩ rfl rfl eM292 dX9_init_292 rfl ?_
  refine q_aload_n cx (pc' := 296) 0 rfl dX9_init_295 rfl ?_
  refine q_bipush cx (pc' := 298) kb_16 dX9_init_296 rfl ?_
  obtain ⟨hn298, hb298, M298, r298, eM298, er298, h⟩ := nA_i h
  refine q_newZ cx (pc' := 300) aw_61 hn298 rfl (by omega) (Nat.le_of_ble_eq_true rfl) (Nat.le_trans (Nat.add_le_add_left hb298 _) (Nat.le_of_ble_eq_true rfl)) eM298 dX9_init_298 rfl ?_
  refine q_widen (k2 := 18) (s2 := 1264) (Nat.le_refl _) (Nat.add_le_add_left hb298 _) ?_
  rw [← er298]
  obtain ⟨ht300, M300, eM300, h⟩ := pR_i h
  refine q_pR cx (pc' := 303) 9 28 fl_X9_96 rfl ht300 (ty := (.array .boolean)) ⟨(RX9, TX9, 70), rfl, by decide +kernel, Or.inr ⟨hnm, rfl, aw_124⟩⟩ rfl rfl eM300 dX9_init_300 rfl ?_
  refine q_aload_n cx (pc' := 304) 0 rfl dX9_init_303 rfl ?_
  refine q_iconst cx (pc' := 305) ki_0 dX9_init_304 rfl ?_
  obtain ⟨ht305, M305, eM305, h⟩ := pI_i h
  refine q_pI cx (pc' := 308) 9 29 fl_X9_99 rfl ht305 (ty := .int) ⟨(RX9, TX9, 70), rfl, by decide +kernel, Or.inl rfl⟩ rfl rfl eM305 dX9_init_305 rfl ?_
  refine q_aload_n cx (pc' := 309) 0 rfl dX9_init_308 rfl ?_
  refine q_iconst cx (pc' := 310) ki_0 dX9_init_309 rfl ?_
  obtain ⟨ht310, M310, eM310, h⟩ := pI_i h
  refine q_pI cx (pc' := 313) 9 30 fl_X9_102 rfl ht310 (ty := .int) ⟨(RX9, TX9, 70), rfl, by decide +kernel, Or.inl rfl⟩ rfl rfl eM310 dX9_init_310 rfl ?_
  refine q_aload_n cx (pc' := 314) 0 rfl dX9_init_313 rfl ?_
  refine q_bipush cx (pc' := 316) kb_16 dX9_init_314 rfl ?_
  obtain ⟨hn316, hb316, M316, r316, eM316, er316, h⟩ := nA_i h
  refine q_newI cx (pc' := 318) aw_3 hn316 rfl (by omega) (Nat.le_of_ble_eq_true rfl) (Nat.le_trans (Nat.add_le_add_left hb316 _) (Nat.le_of_ble_eq_true rfl)) eM316 dX9_init_316 rfl ?_
  refine q_widen (k2 := 19) (s2 := 1280) (Nat.le_refl _) (Nat.add_le_add_left hb316 _) ?_
  rw [← er316]
  obtain ⟨ht318, M318, eM318, h⟩ := pR_i h
  refine q_pR cx (pc' := 321) 9 31 fl_X9_105 rfl ht318 (ty := (.array .int)) ⟨(RX9, TX9, 70), rfl, by decide +kernel, Or.inr ⟨hnm, rfl, aw_125⟩⟩ rfl rfl eM318 dX9_init_318 rfl ?_
  refine q_aload_n cx (pc' := 322) 0 rfl dX9_init_321 rfl ?_
  refine q_bipush cx (pc' := 324) kb_16 dX9_init_322 rfl ?_
  obtain ⟨hn324, hb324, M324, r324, eM324, er324, h⟩ := nA_i h
  refine q_newI cx (pc' := 326) aw_3 hn324 rfl (by omega) (Nat.le_of_ble_eq_true rfl) (Nat.le_trans (Nat.add_le_add_left hb324 _) (Nat.le_of_ble_eq_true rfl)) eM324 dX9_init_324 rfl ?_
  refine q_widen (k2 := 20) (s2 := 1296) (Nat.le_refl _) (Nat.add_le_add_left hb324 _) ?_
  rw [← er324]
  obtain ⟨ht326, M326, eM326, h⟩ := pR_i h
  refine q_pR cx (pc' := 329) 9 32 fl_X9_108 rfl ht326 (ty := (.array .int)) ⟨(RX9, TX9, 70), rfl, by decide +kernel, Or.inr ⟨hnm, rfl, aw_126⟩⟩ rfl rfl eM326 dX9_init_326 rfl ?_
  refine q_aload_n cx (pc' := 330) 0 rfl dX9_init_329 rfl ?_
  refine q_iconst cx (pc' := 331) ki_0 dX9_init_330 rfl ?_
  obtain ⟨ht331, M331, eM331, h⟩ := pI_i h
  refine q_pI cx (pc' := 334) 9 33 fl_X9_111 rfl ht331 (ty := .int) ⟨(RX9, TX9, 70), rfl, by decide +kernel, Or.inl rfl⟩ rfl rfl eM331 dX9_init_331 rfl ?_
  refine q_aload_n cx (pc' := 335) 0 rfl dX9_init_334 rfl ?_
  refine q_iconst cx (pc' := 336) ki_5 dX9_init_335 rfl ?_
  obtain ⟨hn336, hb336, M336, r336, eM336, er336, h⟩ := nA_i h
  refine q_newI cx (pc' := 338) aw_3 hn336 rfl (by omega) (Nat.le_of_ble_eq_true rfl) (Nat.le_trans (Nat.add_le_add_left hb336 _) (Nat.le_of_ble_eq_true rfl)) eM336 dX9_init_336 rfl ?_
  refine q_widen (k2 := 21) (s2 := 1301) (Nat.le_refl _) (Nat.add_le_add_left hb336 _) ?_
  rw [← er336]
  obtain ⟨ht338, M338, eM338, h⟩ := pR_i h
  refine q_pR cx (pc' := 341) 9 34 fl_X9_114 rfl ht338 (ty := (.array .int)) ⟨(RX9, TX9, 70), rfl, by decide +kernel, Or.inr ⟨hnm, rfl, aw_127⟩⟩ rfl rfl eM338 dX9_init_338 rfl ?_
  refine q_aload_n cx (pc' := 342) 0 rfl dX9_init_341 rfl ?_
  refine q_iconst cx (pc' := 343) ki_5 dX9_init_342 rfl ?_
  obtain ⟨hn343, hb343, M343, r343, eM343, er343, h⟩ := nA_i h
  refine q_newI cx (pc' := 345) aw_3 hn343 rfl (by omega) (Nat.le_of_ble_eq_true rfl) (Nat.le_trans (Nat.add_le_add_left hb343 _) (Nat.le_of_ble_eq_true rfl)) eM343 dX9_init_343 rfl ?_
  refine q_widen (k2 := 22) (s2 := 1306) (Nat.le_refl _) (Nat.add_le_add_left hb343 _) ?_
  rw [← er343]
  obtain ⟨ht345, M345, eM345, h⟩ := pR_i h
  refine q_pR cx (pc' := 348) 9 35 fl_X9_117 rfl ht345 (ty := (.array .int)) ⟨(RX9, TX9, 70), rfl, by decide +kernel, Or.inr ⟨hnm, rfl, aw_128⟩⟩ rfl rfl eM345 dX9_init_345 rfl ?_
  refine q_aload_n cx (pc' := 349) 0 rfl dX9_init_348 rfl ?_
  refine q_bipush cx (pc' := 351) kb_80 dX9_init_349 rfl ?_
  obtain ⟨hn351, hb351, M351, r351, eM351, er351, h⟩ := nA_i h
  refine q_newI cx (pc' := 353) aw_3 hn351 rfl (by omega) (Nat.le_of_ble_eq_true rfl) (Nat.le_trans (Nat.add_le_add_left hb351 _) (Nat.le_of_ble_eq_true rfl)) eM351 dX9_init_351 rfl ?_
  refine q_widen (k2 := 23) (s2 := 1386) (Nat.le_refl _) (Nat.add_le_add_left hb351 _) ?_
  rw [← er351]
  obtain ⟨ht353, M353, eM353, h⟩ := pR_i h
  refine q_pR cx (pc' := 356) 9 36 fl_X9_120 rfl ht353 (ty := (.array .int)) ⟨(RX9, TX9, 70), rfl, by decide +kernel, Or.inr ⟨hnm, rfl, aw_129⟩⟩ rfl rfl eM353 dX9_init_353 rfl ?_
  refine q_aload_n cx (pc' := 357) 0 rfl dX9_init_356 rfl ?_
  refine q_iconst cx (pc' := 358) ki_5 dX9_init_357 rfl ?_
  obtain ⟨hn358, hb358, M358, r358, eM358, er358, h⟩ := nA_i h
  refine q_newZ cx (pc' := 360) aw_61 hn358 rfl (by omega) (Nat.le_of_ble_eq_true rfl) (Nat.le_trans (Nat.add_le_add_left hb358 _) (Nat.le_of_ble_eq_true rfl)) eM358 dX9_init_358 rfl ?_
  refine q_widen (k2 := 24) (s2 := 1391) (Nat.le_refl _) (Nat.add_le_add_left hb358 _) ?_
  rw [← er358]
  obtain ⟨ht360, M360, eM360, h⟩ := pR_i h
  refine q_pR cx (pc' := 363) 9 37 fl_X9_123 rfl ht360 (ty := (.array .boolean)) ⟨(RX9, TX9, 70), rfl, by decide +kernel, Or.inr ⟨hnm, rfl, aw_130⟩⟩ rfl rfl eM360 dX9_init_360 rfl ?_
  refine q_aload_n cx (pc' := 364) 0 rfl dX9_init_363 rfl ?_
  refine q_iconst cx (pc' := 365) ki_0 dX9_init_364 rfl ?_
  obtain ⟨ht365, M365, eM365, h⟩ := pI_i h
  refine q_pI cx (pc' := 368) 9 38 fl_X9_126 rfl ht365 (ty := .int) ⟨(RX9, TX9, 70), rfl, by decide +kernel, Or.inl rfl⟩ rfl rfl eM365 dX9_init_365 rfl ?_
  refine q_aload_n cx (pc' := 369) 0 rfl dX9_init_368 rfl ?_
  refine q_iconst cx (pc' := 370) ki_0 dX9_init_369 rfl ?_
  obtain ⟨ht370, M370, eM370, h⟩ := pI_i h
  refine q_pI cx (pc' := 373) 9 39 fl_X9_129 rfl ht370 (ty := .int) ⟨(RX9, TX9, 70), rfl, by decide +kernel, Or.inl rfl⟩ rfl rfl eM370 dX9_init_370 rfl ?_
  refine q_aload_n cx (pc' := 374) 0 rfl dX9_init_373 rfl ?_
  refine q_bipush cx (pc' := 376) kb_10 dX9_init_374 rfl ?_
  obtain ⟨hn376, hb376, M376, r376, eM376, er376, h⟩ := nA_i h
  refine q_newI cx (pc' := 378) aw_3 hn376 rfl (by omega) (Nat.le_of_ble_eq_true rfl) (Nat.le_trans (Nat.add_le_add_left hb376 _) (Nat.le_of_ble_eq_true rfl)) eM376 dX9_init_376 rfl ?_
  refine q_widen (k2 := 25) (s2 := 1401) (Nat.le_refl _) (Nat.add_le_add_left hb376 _) ?_
  rw [← er376]
  obtain ⟨ht378, M378, eM378, h⟩ := pR_i h
  refine q_pR cx (pc' := 381) 9 40 fl_X9_132 rfl ht378 (ty := (.array .int)) ⟨(RX9, TX9, 70), rfl, by decide +kernel, Or.inr ⟨hnm, rfl, aw_131⟩⟩ rfl rfl eM378 dX9_init_378 rfl ?_
  refine q_aload_n cx (pc' := 382) 0 rfl dX9_init_381 rfl ?_
  refine q_bipush cx (pc' := 384) kb_10 dX9_init_382 rfl ?_
  obtain ⟨hn384, hb384, M384, r384, eM384, er384, h⟩ := nA_i h
  refine q_newI cx (pc' := 386) aw_3 hn384 rfl (by omega) (Nat.le_of_ble_eq_true rfl) (Nat.le_trans (Nat.add_le_add_left hb384 _) (Nat.le_of_ble_eq_true rfl)) eM384 dX9_init_384 rfl ?_
  refine q_widen (k2 := 26) (s2 := 1411) (Nat.le_refl _) (Nat.add_le_add_left hb384 _) ?_
  rw [← er384]
  obtain ⟨ht386, M386, eM386, h⟩ := pR_i h
  refine q_pR cx (pc' := 389) 9 41 fl_X9_135 rfl ht386 (ty := (.array .int)) ⟨(RX9, TX9, 70), rfl, by decide +kernel, Or.inr ⟨hnm, rfl, aw_132⟩⟩ rfl rfl eM386 dX9_init_386 rfl ?_
  refine q_aload_n cx (pc' := 390) 0 rfl dX9_init_389 rfl ?_
  refine q_bipush cx (pc' := 392) kb_8 dX9_init_390 rfl ?_
  obtain ⟨hn392, hb392, M392, r392, eM392, er392, h⟩ := nA_i h
  refine q_newI cx (pc' := 394) aw_3 hn392 rfl (by omega) (Nat.le_of_ble_eq_true rfl) (Nat.le_trans (Nat.add_le_add_left hb392 _) (Nat.le_of_ble_eq_true rfl)) eM392 dX9_init_392 rfl ?_
  refine q_widen (k2 := 27) (s2 := 1419) (Nat.le_refl _) (Nat.add_le_add_left hb392 _) ?_
  rw [← er392]
  obtain ⟨ht394, M394, eM394, h⟩ := pR_i h
  refine q_pR cx (pc' := 397) 9 42 fl_X9_138 rfl ht394 (ty := (.array .int)) ⟨(RX9, TX9, 70), rfl, by decide +kernel, Or.inr ⟨hnm, rfl, aw_133⟩⟩ rfl rfl eM394 dX9_init_394 rfl ?_
  refine q_aload_n cx (pc' := 398) 0 rfl dX9_init_397 rfl ?_
  refine q_bipush cx (pc' := 400) kb_8 dX9_init_398 rfl ?_
  obtain ⟨hn400, hb400, M400, r400, eM400, er400, h⟩ := nA_i h
  refine q_newI cx (pc' := 402) aw_3 hn400 rfl (by omega) (Nat.le_of_ble_eq_true rfl) (Nat.le_trans (Nat.add_le_add_left hb400 _) (Nat.le_of_ble_eq_true rfl)) eM400 dX9_init_400 rfl ?_
  refine q_widen (k2 := 28) (s2 := 1427) (Nat.le_refl _) (Nat.add_le_add_left hb400 _) ?_
  rw [← er400]
  obtain ⟨ht402, M402, eM402, h⟩ := pR_i h
  refine q_pR cx (pc' := 405) 9 43 fl_X9_141 rfl ht402 (ty := (.array .int)) ⟨(RX9, TX9, 70), rfl, by decide +kernel, Or.inr ⟨hnm, rfl, aw_134⟩⟩ rfl rfl eM402 dX9_init_402 rfl ?_
  refine q_aload_n cx (pc' := 406) 0 rfl dX9_init_405 rfl ?_
  refine q_iconst cx (pc' := 407) ki_0 dX9_init_406 rfl ?_
  obtain ⟨ht407, M407, eM407, h⟩ := pI_i h
  refine q_pI cx (pc' := 410) 9 44 fl_X9_144 rfl ht407 (ty := .boolean) ⟨(RX9, TX9, 70), rfl, by decide +kernel, Or.inl rfl⟩ (by decide) (by decide) eM407 dX9_init_407 rfl ?_
  refine q_aload_n cx (pc' := 411) 0 rfl dX9_init_410 rfl ?_
  refine q_iconst cx (pc' := 412) ki_m1 dX9_init_411 rfl ?_
  obtain ⟨ht412, M412, eM412, h⟩ := pI_i h
  refine q_pI cx (pc' := 415) 9 45 fl_X9_148 rfl ht412 (ty := .int) ⟨(RX9, TX9, 70), rfl, by decide +kernel, Or.inl rfl⟩ rfl rfl eM412 dX9_init_412 rfl ?_
  refine q_aload_n cx (pc' := 416) 0 rfl dX9_init_415 rfl ?_
  refine q_iconst cx (pc' := 417) ki_0 dX9_init_416 rfl ?_
  obtain ⟨ht417, M417, eM417, h⟩ := pI_i h
  refine q_pI cx (pc' := 420) 9 46 fl_X9_151 rfl ht417 (ty := .int) ⟨(RX9, TX9, 70), rfl, by decide +kernel, Or.inl rfl⟩ rfl rfl eM417 dX9_init_417 rfl ?_
  refine q_aload_n cx (pc' := 421) 0 rfl dX9_init_420 rfl ?_
  refine q_iconst cx (pc' := 422) ki_0 dX9_init_421 rfl ?_
  obtain ⟨ht422, M422, eM422, h⟩ := pI_i h
  refine q_pI cx (pc' := 425) 9 47 fl_X9_154 rfl ht422 (ty := .int) ⟨(RX9, TX9, 70), rfl, by decide +kernel, Or.inl rfl⟩ rfl rfl eM422 dX9_init_422 rfl ?_
  refine q_aload_n cx (pc' := 426) 0 rfl dX9_init_425 rfl ?_
  refine q_iconst cx (pc' := 427) ki_0 dX9_init_426 rfl ?_
  obtain ⟨ht427, M427, eM427, h⟩ := pI_i h
  refine q_pI cx (pc' := 430) 9 48 fl_X9_157 rfl ht427 (ty := .int) ⟨(RX9, TX9, 70), rfl, by decide +kernel, Or.inl rfl⟩ rfl rfl eM427 dX9_init_427 rfl ?_
  refine q_aload_n cx (pc' := 431) 0 rfl dX9_init_430 rfl ?_
  refine q_iconst cx (pc' := 432) ki_0 dX9_init_431 rfl ?_
  obtain ⟨ht432, M432, eM432, h⟩ := pI_i h
  refine q_pI cx (pc' := 435) 9 49 fl_X9_160 rfl ht432 (ty := .int) ⟨(RX9, TX9, 70), rfl, by decide +kernel, Or.inl rfl⟩ rfl rfl eM432 dX9_init_432 rfl ?_
  refine q_aload_n cx (pc' := 436) 0 rfl dX9_init_435 rfl ?_
  refine q_iconst cx (pc' := 437) ki_0 dX9_init_436 rfl ?_
  obtain ⟨ht437, M437, eM437, h⟩ := pI_i h
  refine q_pI cx (pc' := 440) 9 50 fl_X9_163 rfl ht437 (ty := .int) ⟨(RX9, TX9, 70), rfl, by decide +kernel, Or.inl rfl⟩ rfl rfl eM437 dX9_init_437 rfl ?_
  refine q_aload_n cx (pc' := 441) 0 rfl dX9_init_440 rfl ?_
  refine q_iconst cx (pc' := 442) ki_0 dX9_init_441 rfl ?_
  obtain ⟨ht442, M442, eM442, h⟩ := pI_i h
  refine q_pI cx (pc' := 445) 9 51 fl_X9_166 rfl ht442 (ty := .int) ⟨(RX9, TX9, 70), rfl, by decide +kernel, Or.inl rfl⟩ rfl rfl eM442 dX9_init_442 rfl ?_
  refine q_aload_n cx (pc' := 446) 0 rfl dX9_init_445 rfl ?_
  refine q_bipush cx (pc' := 448) kb_16 dX9_init_446 rfl ?_
  obtain ⟨hn448, hb448, M448, r448, eM448, er448, h⟩ := nA_i h
  refine q_newI cx (pc' := 450) aw_3 hn448 rfl (by omega) (Nat.le_of_ble_eq_true rfl) (Nat.le_trans (Nat.add_le_add_left hb448 _) (Nat.le_of_ble_eq_true rfl)) eM448 dX9_init_448 rfl ?_
  refine q_widen (k2 := 29) (s2 := 1443) (Nat.le_refl _) (Nat.add_le_add_left hb448 _) ?_
  rw [← er448]
  obtain ⟨ht450, M450, eM450, h⟩ := pR_i h
  refine q_pR cx (pc' := 453) 9 52 fl_X9_169 rfl ht450 (ty := (.array .int)) ⟨(RX9, TX9, 70), rfl, by decide +kernel, Or.inr ⟨hnm, rfl, aw_135⟩⟩ rfl rfl eM450 dX9_init_450 rfl ?_
  refine q_aload_n cx (pc' := 454) 0 rfl dX9_init_453 rfl ?_
  refine q_iconst cx (pc' := 455) ki_5 dX9_init_454 rfl ?_
  obtain ⟨hn455, hb455, M455, r455, eM455, er455, h⟩ := nA_i h
  refine q_newI cx (pc' := 457) aw_3 hn455 rfl (by omega) (Nat.le_of_ble_eq_true rfl) (Nat.le_trans (Nat.add_le_add_left hb455 _) (Nat.le_of_ble_eq_true rfl)) eM455 dX9_init_455 rfl ?_
  refine q_widen (k2 := 30) (s2 := 1448) (Nat.le_refl _) (Nat.add_le_add_left hb455 _) ?_
  rw [← er455]
  obtain ⟨ht457, M457, eM457, h⟩ := pR_i h
  refine q_pR cx (pc' := 460) 9 53 fl_X9_172 rfl ht457 (ty := (.array .int)) ⟨(RX9, TX9, 70), rfl, by decide +kernel, Or.inr ⟨hnm, rfl, aw_136⟩⟩ rfl rfl eM457 dX9_init_457 rfl ?_
  refine q_aload_n cx (pc' := 461) 0 rfl dX9_init_460 rfl ?_
  refine q_iconst cx (pc' := 462) ki_5 dX9_init_461 rfl ?_
  obtain ⟨hn462, hb462, M462, r462, eM462, er462, h⟩ := nA_i h
  refine q_newI cx (pc' := 464) aw_3 hn462 rfl (by omega) (Nat.le_of_ble_eq_true rfl) (Nat.le_trans (Nat.add_le_add_left hb462 _) (Nat.le_of_ble_eq_true rfl)) eM462 dX9_init_462 rfl ?_
  refine q_widen (k2 := 31) (s2 := 1453) (Nat.le_refl _) (Nat.add_le_add_left hb462 _) ?_
  rw [← er462]
  obtain ⟨ht464, M464, eM464, h⟩ := pR_i h
  refine q_pR cx (pc' := 467) 9 54 fl_X9_175 rfl ht464 (ty := (.array .int)) ⟨(RX9, TX9, 70), rfl, by decide +kernel, Or.inr ⟨hnm, rfl, aw_137⟩⟩ rfl rfl eM464 dX9_init_464 rfl ?_
  refine q_aload_n cx (pc' := 468) 0 rfl dX9_init_467 rfl ?_
  refine q_iconst cx (pc' := 469) ki_5 dX9_init_468 rfl ?_
  obtain ⟨hn469, hb469, M469, r469, eM469, er469, h⟩ := nA_i h
  refine q_newI cx (pc' := 471) aw_3 hn469 rfl (by omega) (Nat.le_of_ble_eq_true rfl) (Nat.le_trans (Nat.add_le_add_left hb469 _) (Nat.le_of_ble_eq_true rfl)) eM469 dX9_init_469 rfl ?_
  refine q_widen (k2 := 32) (s2 := 1458) (Nat.le_refl _) (Nat.add_le_add_left hb469 _) ?_
  rw [← er469]
  obtain ⟨ht471, M471, eM471, h⟩ := pR_i h
  refine q_pR cx (pc' := 474) 9 55 fl_X9_178 rfl ht471 (ty := (.array .int)) ⟨(RX9, TX9, 70), rfl, by decide +kernel, Or.inr ⟨hnm, rfl, aw_138⟩⟩ rfl rfl eM471 dX9_init_471 rfl ?_
  refine q_aload_n cx (pc' := 475) 0 rfl dX9_init_474 rfl ?_
  refine q_bipush cx (pc' := 477) kb_20 dX9_init_475 rfl ?_
  obtain ⟨hn477, hb477, M477, r477, eM477, er477, h⟩ := nA_i h
  refine q_newI cx (pc' := 479) aw_3 hn477 rfl (by omega) (Nat.le_of_ble_eq_true rfl) (Nat.le_trans (Nat.add_le_add_left hb477 _) (Nat.le_of_ble_eq_true rfl)) eM477 dX9_init_477 rfl ?_
  refine q_widen (k2 := 33) (s2 := 1478) (Nat.le_refl _) (Nat.add_le_add_left hb477 _) ?_
  rw [← er477]
  obtain ⟨ht479, M479, eM479, h⟩ := pR_i h
  refine q_pR cx (pc' := 482) 9 56 fl_X9_181 rfl ht479 (ty := (.array .int)) ⟨(RX9, TX9, 70), rfl, by decide +kernel, Or.inr ⟨hnm, rfl, aw_139⟩⟩ rfl rfl eM479 dX9_init_479 rfl ?_
  refine q_aload_n cx (pc' := 483) 0 rfl dX9_init_482 rfl ?_
  refine q_iconst cx (pc' := 484) ki_5 dX9_init_483 rfl ?_
  obtain ⟨hn484, hb484, M484, r484, eM484, er484, h⟩ := nA_i h
  refine q_newI cx (pc' := 486) aw_3 hn484 rfl (by omega) (Nat.le_of_ble_eq_true rfl) (Nat.le_trans (Nat.add_le_add_left hb484 _) (Nat.le_of_ble_eq_true rfl)) eM484 dX9_init_484 rfl ?_
  refine q_widen (k2 := 34) (s2 := 1483) (Nat.le_refl _) (Nat.add_le_add_left hb484 _) ?_
  rw [← er484]
  obtain ⟨ht486, M486, eM486, h⟩ := pR_i h
  refine q_pR cx (pc' := 489) 9 57 fl_X9_184 rfl ht486 (ty := (.array .int)) ⟨(RX9, TX9, 70), rfl, by decide +kernel, Or.inr ⟨hnm, rfl, aw_140⟩⟩ rfl rfl eM486 dX9_init_486 rfl ?_
  refine q_aload_n cx (pc' := 490) 0 rfl dX9_init_489 rfl ?_
  refine q_iconst cx (pc' := 491) ki_5 dX9_init_490 rfl ?_
  obtain ⟨hn491, hb491, M491, r491, eM491, er491, h⟩ := nA_i h
  refine q_newI cx (pc' := 493) aw_3 hn491 rfl (by omega) (Nat.le_of_ble_eq_true rfl) (Nat.le_trans (Nat.add_le_add_left hb491 _) (Nat.le_of_ble_eq_true rfl)) eM491 dX9_init_491 rfl ?_
  refine q_widen (k2 := 35) (s2 := 1488) (Nat.le_refl _) (Nat.add_le_add_left hb491 _) ?_
  rw [← er491]
  obtain ⟨ht493, M493, eM493, h⟩ := pR_i h
  refine q_pR cx (pc' := 496) 9 58 fl_X9_187 rfl ht493 (ty := (.array .int)) ⟨(RX9, TX9, 70), rfl, by decide +kernel, Or.inr ⟨hnm, rfl, aw_141⟩⟩ rfl rfl eM493 dX9_init_493 rfl ?_
  refine q_aload_n cx (pc' := 497) 0 rfl dX9_init_496 rfl ?_
  refine q_bipush cx (pc' := 499) kb_10 dX9_init_497 rfl ?_
  obtain ⟨hn499, hb499, M499, r499, eM499, er499, h⟩ := nA_i h
  refine q_newI cx (pc' := 501) aw_3 hn499 rfl (by omega) (Nat.le_of_ble_eq_true rfl) (Nat.le_trans (Nat.add_le_add_left hb499 _) (Nat.le_of_ble_eq_true rfl)) eM499 dX9_init_499 rfl ?_
  refine q_widen (k2 := 36) (s2 := 1498) (Nat.le_refl _) (Nat.add_le_add_left hb499 _) ?_
  rw [← er499]
  obtain ⟨ht501, M501, eM501, h⟩ := pR_i h
  refine q_pR cx (pc' := 504) 9 59 fl_X9_190 rfl ht501 (ty := (.array .int)) ⟨(RX9, TX9, 70), rfl, by decide +kernel, Or.inr ⟨hnm, rfl, aw_142⟩⟩ rfl rfl eM501 dX9_init_501 rfl ?_
  refine q_aload_n cx (pc' := 505) 0 rfl dX9_init_504 rfl ?_
  refine q_bipush cx (pc' := 507) kb_10 dX9_init_505 rfl ?_
  obtain ⟨hn507, hb507, M507, r507, eM507, er507, h⟩ := nA_i h
  refine q_newI cx (pc' := 509) aw_3 hn507 rfl (by omega) (Nat.le_of_ble_eq_true rfl) (Nat.le_trans (Nat.add_le_add_left hb507 _) (Nat.le_of_ble_eq_true rfl)) eM507 dX9_init_507 rfl ?_
  refine q_widen (k2 := 37) (s2 := 1508) (Nat.le_refl _) (Nat.add_le_add_left hb507 _) ?_
  rw [← er507]
  obtain ⟨ht509, M509, eM509, h⟩ := pR_i h
  refine q_pR cx (pc' := 512) 9 60 fl_X9_193 rfl ht509 (ty := (.array .int)) ⟨(RX9, TX9, 70), rfl, by decide +kernel, Or.inr ⟨hnm, rfl, aw_143⟩⟩ rfl rfl eM509 dX9_init_509 rfl ?_
  refine q_aload_n cx (pc' := 513) 0 rfl dX9_init_512 rfl ?_
  refine q_bipush cx (pc' := 515) kb_8 dX9_init_513 rfl ?_
  obtain ⟨hn515, hb515, M515, r515, eM515, er515, h⟩ := nA_i h
  refine q_newI cx (pc' := 517) aw_3 hn515 rfl (by omega) (Nat.le_of_ble_eq_true rfl) (Nat.le_trans (Nat.add_le_add_left hb515 _) (Nat.le_of_ble_eq_true rfl)) eM515 dX9_init_515 rfl ?_
  refine q_widen (k2 := 38) (s2 := 1516) (Nat.le_refl _) (Nat.add_le_add_left hb515 _) ?_
  rw [← er515]
  obtain ⟨ht517, M517, eM517, h⟩ := pR_i h
  refine q_pR cx (pc' := 520) 9 61 fl_X9_196 rfl ht517 (ty := (.array .int)) ⟨(RX9, TX9, 70), rfl, by decide +kernel, Or.inr ⟨hnm, rfl, aw_144⟩⟩ rfl rfl eM517 dX9_init_517 rfl ?_
  refine q_aload_n cx (pc' := 521) 0 rfl dX9_init_520 rfl ?_
  refine q_bipush cx (pc' := 523) kb_8 dX9_init_521 rfl ?_
  obtain ⟨hn523, hb523, M523, r523, eM523, er523, h⟩ := nA_i h
  refine q_newI cx (pc' := 525) aw_3 hn523 rfl (by omega) (Nat.le_of_ble_eq_true rfl) (Nat.le_trans (Nat.add_le_add_left hb523 _) (Nat.le_of_ble_eq_true rfl)) eM523 dX9_init_523 rfl ?_
  refine q_widen (k2 := 39) (s2 := 1524) (Nat.le_refl _) (Nat.add_le_add_left hb523 _) ?_
  rw [← er523]
  obtain ⟨ht525, M525, eM525, h⟩ := pR_i h
  refine q_pR cx (pc' := 528) 9 62 fl_X9_199 rfl ht525 (ty := (.array .int)) ⟨(RX9, TX9, 70), rfl, by decide +kernel, Or.inr ⟨hnm, rfl, aw_145⟩⟩ rfl rfl eM525 dX9_init_525 rfl ?_
  refine q_aload_n cx (pc' := 529) 0 rfl dX9_init_528 rfl ?_
  refine q_iconst cx (pc' := 530) ki_5 dX9_init_529 rfl ?_
  obtain ⟨hn530, hb530, M530, r530, eM530, er530, h⟩ := nA_i h
  refine q_newZ cx (pc' := 532) aw_61 hn530 rfl (by omega) (Nat.le_of_ble_eq_true rfl) (Nat.le_trans (Nat.add_le_add_left hb530 _) (Nat.le_of_ble_eq_true rfl)) eM530 dX9_init_530 rfl ?_
  refine q_widen (k2 := 40) (s2 := 1529) (Nat.le_refl _) (Nat.add_le_add_left hb530 _) ?_
  rw [← er530]
  obtain ⟨ht532, M532, eM532, h⟩ := pR_i h
  refine q_pR cx (pc' := 535) 9 63 fl_X9_202 rfl ht532 (ty := (.array .boolean)) ⟨(RX9, TX9, 70), rfl, by decide +kernel, Or.inr ⟨hnm, rfl, aw_146⟩⟩ rfl rfl eM532 dX9_init_532 rfl ?_
  refine q_aload_n cx (pc' := 536) 0 rfl dX9_init_535 rfl ?_
  refine q_iconst cx (pc' := 537) ki_0 dX9_init_536 rfl ?_
  obtain ⟨ht537, M537, eM537, h⟩ := pI_i h
  refine q_pI cx (pc' := 540) 9 64 fl_X9_205 rfl ht537 (ty := .int) ⟨(RX9, TX9, 70), rfl, by decide +kernel, Or.inl rfl⟩ rfl rfl eM537 dX9_init_537 rfl ?_
  refine q_aload_n cx (pc' := 541) 0 rfl dX9_init_540 rfl ?_
  refine q_bipush cx (pc' := 543) kb_20 dX9_init_541 rfl ?_
  obtain ⟨hn543, hb543, M543, r543, eM543, er543, h⟩ := nA_i h
  refine q_newI cx (pc' := 545) aw_3 hn543 rfl (by omega) (Nat.le_of_ble_eq_true rfl) (Nat.le_trans (Nat.add_le_add_left hb543 _) (Nat.le_of_ble_eq_true rfl)) eM543 dX9_init_543 rfl ?_
  refine q_widen (k2 := 41) (s2 := 1549) (Nat.le_refl _) (Nat.add_le_add_left hb543 _) ?_
  rw [← er543]
  obtain ⟨ht545, M545, eM545, h⟩ := pR_i h
  refine q_pR cx (pc' := 548) 9 65 fl_X9_208 rfl ht545 (ty := (.array .int)) ⟨(RX9, TX9, 70), rfl, by decide +kernel, Or.inr ⟨hnm, rfl, aw_147⟩⟩ rfl rfl eM545 dX9_init_545 rfl ?_
  refine q_aload_n cx (pc' := 549) 0 rfl dX9_init_548 rfl ?_
  refine q_bipush cx (pc' := 551) kb_6 dX9_init_549 rfl ?_
  obtain ⟨hn551, hb551, M551, r551, eM551, er551, h⟩ := nA_i h
  refine q_newI cx (pc' := 553) aw_3 hn551 rfl (by omega) (Nat.le_of_ble_eq_true rfl) (Nat.le_trans (Nat.add_le_add_left hb551 _) (Nat.le_of_ble_eq_true rfl)) eM551 dX9_init_551 rfl ?_
  refine q_widen (k2 := 42) (s2 := 1555) (Nat.le_refl _) (Nat.add_le_add_left hb551 _) ?_
  rw [← er551]
  refine q_dup cx (pc' := 554) rfl dX9_init_553 rfl ?_
  refine q_iconst cx (pc' := 555) ki_0 dX9_init_554 rfl ?_
  refine q_iconst cx (pc' := 556) ki_m1 dX9_init_555 rfl ?_
  obtain ⟨ht556, hi556, M556, eM556, h⟩ := wI_i h
  refine q_iast cx (pc' := 557) ht556 hi556 eM556 dX9_init_556 rfl ?_
  refine q_dup cx (pc' := 558) rfl dX9_init_557 rfl ?_
  refine q_iconst cx (pc' := 559) ki_1 dX9_init_558 rfl ?_
  refine q_iconst cx (pc' := 560) ki_m1 dX9_init_559 rfl ?_
  obtain ⟨ht560, hi560, M560, eM560, h⟩ := wI_i h
  refine q_iast cx (pc' := 561) ht560 hi560 eM560 dX9_init_560 rfl ?_
  refine q_dup cx (pc' := 562) rfl dX9_init_561 rfl ?_
  refine q_iconst cx (pc' := 563) ki_2 dX9_init_562 rfl ?_
  refine q_iconst cx (pc' := 564) ki_m1 dX9_init_563 rfl ?_
  obtain ⟨ht564, hi564, M564, eM564, h⟩ := wI_i h
  refine q_iast cx (pc' := 565) ht564 hi564 eM564 dX9_init_564 rfl ?_
  refine q_dup cx (pc' := 566) rfl dX9_init_565 rfl ?_
  refine q_iconst cx (pc' := 567) ki_3 dX9_init_566 rfl ?_
  refine q_iconst cx (pc' := 568) ki_m1 dX9_init_567 rfl ?_
  obtain ⟨ht568, hi568, M568, eM568, h⟩ := wI_i h
  refine q_iast cx (pc' := 569) ht568 hi568 eM568 dX9_init_568 rfl ?_
  refine q_dup cx (pc' := 570) rfl dX9_init_569 rfl ?_
  refine q_iconst cx (pc' := 571) ki_4 dX9_init_570 rfl ?_
  refine q_iconst cx (pc' := 572) ki_m1 dX9_init_571 rfl ?_
  obtain ⟨ht572, hi572, M572, eM572, h⟩ := wI_i h
  refine q_iast cx (pc' := 573) ht572 hi572 eM572 dX9_init_572 rfl ?_
  refine q_dup cx (pc' := 574) rfl dX9_init_573 rfl ?_
  refine q_iconst cx (pc' := 575) ki_5 dX9_init_574 rfl ?_
  refine q_iconst cx (pc' := 576) ki_m1 dX9_init_575 rfl ?_
  obtain ⟨ht576, hi576, M576, eM576, h⟩ := wI_i h
  refine q_iast cx (pc' := 577) ht576 hi576 eM576 dX9_init_576 rfl ?_
  obtain ⟨ht577, M577, eM577, h⟩ := pR_i h
  refine q_pR cx (pc' := 580) 9 66 fl_X9_211 rfl ht577 (ty := (.array .int)) ⟨(RX9, TX9, 70), rfl, by decide +kernel, Or.inr ⟨hnm, rfl, aw_148⟩⟩ rfl rfl eM577 dX9_init_577 rfl ?_
  refine q_aload_n cx (pc' := 581) 0 rfl dX9_init_580 rfl ?_
  refine q_bipush cx (pc' := 583) kb_6 dX9_init_581 rfl ?_
  obtain ⟨hn583, hb583, M583, r583, eM583, er583, h⟩ := nA_i h
  refine q_newI cx (pc' := 585) aw_3 hn583 rfl (by omega) (Nat.le_of_ble_eq_true rfl) (Nat.le_trans (Nat.add_le_add_left hb583 _) (Nat.le_of_ble_eq_true rfl)) eM583 dX9_init_583 rfl ?_
  refine q_widen (k2 := 43) (s2 := 1561) (Nat.le_refl _) (Nat.add_le_add_left hb583 _) ?_
  rw [← er583]
  obtain ⟨ht585, M585, eM585, h⟩ := pR_i h
  refine q_pR cx (pc' := 588) 9 67 fl_X9_214 rfl ht585 (ty := (.array .int)) ⟨(RX9, TX9, 70), rfl, by decide +kernel, Or.inr ⟨hnm, rfl, aw_149⟩⟩ rfl rfl eM585 dX9_init_585 rfl ?_
  refine q_aload_n cx (pc' := 589) 0 rfl dX9_init_588 rfl ?_
  refine q_sipush cx (pc' := 592) ks_360 dX9_init_589 rfl ?_
  obtain ⟨hn592, hb592, M592, r592, eM592, er592, h⟩ := nA_i h
  refine q_newJ cx (pc' := 594) aw_39 hn592 rfl (by omega) (Nat.le_of_ble_eq_true rfl) (Nat.le_trans (Nat.add_le_add_left hb592 _) (Nat.le_of_ble_eq_true rfl)) eM592 dX9_init_592 rfl ?_
  refine q_widen (k2 := 44) (s2 := 1921) (Nat.le_refl _) (Nat.add_le_add_left hb592 _) ?_
  rw [← er592]
  obtain ⟨ht594, M594, eM594, h⟩ := pR_i h
  refine q_pR cx (pc' := 597) 9 68 fl_X9_217 rfl ht594 (ty := (.array .long)) ⟨(RX9, TX9, 70), rfl, by decide +kernel, Or.inr ⟨hnm, rfl, aw_150⟩⟩ rfl rfl eM594 dX9_init_594 rfl ?_
  refine q_aload_n cx (pc' := 598) 0 rfl dX9_init_597 rfl ?_
  refine q_bipush cx (pc' := 600) kb_60 dX9_init_598 rfl ?_
  obtain ⟨hn600, hb600, M600, r600, eM600, er600, h⟩ := nA_i h
  refine q_newJ cx (pc' := 602) aw_39 hn600 rfl (by omega) (Nat.le_of_ble_eq_true rfl) (Nat.le_trans (Nat.add_le_add_left hb600 _) (Nat.le_of_ble_eq_true rfl)) eM600 dX9_init_600 rfl ?_
  refine q_widen (k2 := 45) (s2 := 1981) (Nat.le_refl _) (Nat.add_le_add_left hb600 _) ?_
  rw [← er600]
  obtain ⟨ht602, M602, eM602, h⟩ := pR_i h
  refine q_pR cx (pc' := 605) 9 69 fl_X9_221 rfl ht602 (ty := (.array .long)) ⟨(RX9, TX9, 70), rfl, by decide +kernel, Or.inr ⟨hnm, rfl, aw_151⟩⟩ rfl rfl eM602 dX9_init_602 rfl ?_
  obtain rfl := o1_i h
  refine q_widen (k2 := 45) (s2 := 1981) (by omega) (by omega) ?_
  rw [hQ]
  exact q_vret cx dX9_init_605

abbrev rm_X9_in : Room := { frames := 1, cells := 0, slots := 0, locals := 40 }
def fn_X9_in (p1 : Int32) (p2 : Int32) (p3 : Int32) : Int32 :=
  if p1 < p2 then
    0
  else
    if p3 < p1 then
      0
    else
      1
set_option maxRecDepth 100000 in
set_option maxHeartbeats 4000000 in
theorem ct_X9_in (Γ : GT) (l : Launch) (M : QM) (ths : Nat) (p1 : Int32) (p2 : Int32) (p3 : Int32) (ht0 : mt M ths = 9) : CT Γ l yX9_in cX9_in 4 (some .boolean) rm_X9_in (.ref ths :: [.int p1, .int p2, .int p3]) M (some (.int (fn_X9_in p1 p2 p3))) M := by
  generalize h : fn_X9_in p1 p2 p3 = z
  refine ct_intro (own := RX9) (L := [(0, .ref ths), (1, .int p1), (2, .int p2), (3, .int p3)]) (by decide +kernel) rfl (Nat.le_of_ble_eq_true rfl) rfl ?_
  intro p e s m args below meth c Q hQ cx hnm
  unfold fn_X9_in at h
  refine q_iload_n cx (pc' := 1) 1 rfl dX9_in_0 rfl ?_
  refine q_iload_n cx (pc' := 2) 2 rfl dX9_in_1 rfl ?_
  refine q_icmp_lt cx (pc' := 5) (tgt := 14) dX9_in_2 (by decide) rfl (fun c2 => ?_) (fun c2 => ?_)
  · replace h := ip c2 h
    refine q_iconst cx (pc' := 15) ki_0 dX9_in_14 rfl ?_
    subst h
    rw [hQ]
    exact q_nret cx rfl dX9_in_15
  · replace h := ine c2 h
    refine q_iload_n cx (pc' := 6) 1 rfl dX9_in_5 rfl ?_
    refine q_iload_n cx (pc' := 7) 3 rfl dX9_in_6 rfl ?_
    refine q_icmp_gt cx (pc' := 10) (tgt := 14) dX9_in_7 (by decide) rfl (fun c7 => ?_) (fun c7 => ?_)
    · replace h := ip c7 h
      refine q_iconst cx (pc' := 15) ki_0 dX9_in_14 rfl ?_
      subst h
      rw [hQ]
      exact q_nret cx rfl dX9_in_15
    · replace h := ine c7 h
      refine q_iconst cx (pc' := 11) ki_1 dX9_in_10 rfl ?_
      refine q_goto cx dX9_in_11 (tgt := 15) (by decide) ?_
      subst h
      rw [hQ]
      exact q_nret cx rfl dX9_in_15

abbrev rm_X9_has : Room := { frames := 1, cells := 0, slots := 0, locals := 40 }
def fn_X9_has (p1 : Int32) (p2 : Int32) : Int32 :=
  if ((p1 >>> (p2 &&& 31)) &&& 1) = 1 then
    1
  else
    0
set_option maxRecDepth 100000 in
set_option maxHeartbeats 4000000 in
theorem ct_X9_has (Γ : GT) (l : Launch) (M : QM) (ths : Nat) (p1 : Int32) (p2 : Int32) (ht0 : mt M ths = 9) : CT Γ l yX9_has cX9_has 3 (some .boolean) rm_X9_has (.ref ths :: [.int p1, .int p2]) M (some (.int (fn_X9_has p1 p2))) M := by
  generalize h : fn_X9_has p1 p2 = z
  refine ct_intro (own := RX9) (L := [(0, .ref ths), (1, .int p1), (2, .int p2)]) (by decide +kernel) rfl (Nat.le_of_ble_eq_true rfl) rfl ?_
  intro p e s m args below meth c Q hQ cx hnm
  unfold fn_X9_has at h
  refine q_iload_n cx (pc' := 1) 1 rfl dX9_has_0 rfl ?_
  refine q_iload_n cx (pc' := 2) 2 rfl dX9_has_1 rfl ?_
  refine q_ishr cx (pc' := 3) dX9_has_2 rfl ?_
  refine q_iconst cx (pc' := 4) ki_1 dX9_has_3 rfl ?_
  refine q_iand cx (pc' := 5) dX9_has_4 rfl ?_
  refine q_iconst cx (pc' := 6) ki_1 dX9_has_5 rfl ?_
  refine q_icmp_ne cx (pc' := 9) (tgt := 13) dX9_has_6 (by decide) rfl (fun c6 => ?_) (fun c6 => ?_)
  · replace h := ine c6 h
    refine q_iconst cx (pc' := 14) ki_0 dX9_has_13 rfl ?_
    subst h
    rw [hQ]
    exact q_nret cx rfl dX9_has_14
  · replace h := ip c6 h
    refine q_iconst cx (pc' := 10) ki_1 dX9_has_9 rfl ?_
    refine q_goto cx dX9_has_10 (tgt := 14) (by decide) ?_
    subst h
    rw [hQ]
    exact q_nret cx rfl dX9_has_14

abbrev rm_X9_least0 : Room := { frames := 1, cells := 0, slots := 0, locals := 40 }
def fn_X9_least0 (p1 : Int32) : Int32 :=
  if 0 ≤ p1 then
    p1
  else
    0
set_option maxRecDepth 100000 in
set_option maxHeartbeats 4000000 in
theorem ct_X9_least0 (Γ : GT) (l : Launch) (M : QM) (ths : Nat) (p1 : Int32) (ht0 : mt M ths = 9) : CT Γ l yX9_least0 cX9_least0 2 (some .int) rm_X9_least0 (.ref ths :: [.int p1]) M (some (.int (fn_X9_least0 p1))) M := by
  generalize h : fn_X9_least0 p1 = z
  refine ct_intro (own := RX9) (L := [(0, .ref ths), (1, .int p1)]) (by decide +kernel) rfl (Nat.le_of_ble_eq_true rfl) rfl ?_
  intro p e s m args below meth c Q hQ cx hnm
  unfold fn_X9_least0 at h
  refine q_iload_n cx (pc' := 1) 1 rfl dX9_least0_0 rfl ?_
  refine q_if_ge cx (pc' := 4) (tgt := 8) dX9_least0_1 (by decide) rfl (fun c1 => ?_) (fun c1 => ?_)
  · replace h := ip c1 h
    refine q_iload_n cx (pc' := 9) 1 rfl dX9_least0_8 rfl ?_
    subst h
    rw [hQ]
    exact q_iret cx dX9_least0_9
  · replace h := ine c1 h
    refine q_iconst cx (pc' := 5) ki_0 dX9_least0_4 rfl ?_
    refine q_goto cx dX9_least0_5 (tgt := 9) (by decide) ?_
    subst h
    rw [hQ]
    exact q_iret cx dX9_least0_9

abbrev rm_X9_apart : Room := { frames := 1, cells := 0, slots := 0, locals := 40 }
def fn_X9_apart (p1 : Int32) (p2 : Int32) : Int32 :=
  if p1 ≤ p2 then
    (p2 - p1)
  else
    (p1 - p2)
set_option maxRecDepth 100000 in
set_option maxHeartbeats 4000000 in
theorem ct_X9_apart (Γ : GT) (l : Launch) (M : QM) (ths : Nat) (p1 : Int32) (p2 : Int32) (ht0 : mt M ths = 9) : CT Γ l yX9_apart cX9_apart 3 (some .int) rm_X9_apart (.ref ths :: [.int p1, .int p2]) M (some (.int (fn_X9_apart p1 p2))) M := by
  generalize h : fn_X9_apart p1 p2 = z
  refine ct_intro (own := RX9) (L := [(0, .ref ths), (1, .int p1), (2, .int p2)]) (by decide +kernel) rfl (Nat.le_of_ble_eq_true rfl) rfl ?_
  intro p e s m args below meth c Q hQ cx hnm
  unfold fn_X9_apart at h
  refine q_iload_n cx (pc' := 1) 1 rfl dX9_apart_0 rfl ?_
  refine q_iload_n cx (pc' := 2) 2 rfl dX9_apart_1 rfl ?_
  refine q_icmp_le cx (pc' := 5) (tgt := 11) dX9_apart_2 (by decide) rfl (fun c2 => ?_) (fun c2 => ?_)
  · replace h := ip c2 h
    refine q_iload_n cx (pc' := 12) 2 rfl dX9_apart_11 rfl ?_
    refine q_iload_n cx (pc' := 13) 1 rfl dX9_apart_12 rfl ?_
    refine q_isub cx (pc' := 14) dX9_apart_13 rfl ?_
    subst h
    rw [hQ]
    exact q_iret cx dX9_apart_14
  · replace h := ine c2 h
    refine q_iload_n cx (pc' := 6) 1 rfl dX9_apart_5 rfl ?_
    refine q_iload_n cx (pc' := 7) 2 rfl dX9_apart_6 rfl ?_
    refine q_isub cx (pc' := 8) dX9_apart_7 rfl ?_
    refine q_goto cx dX9_apart_8 (tgt := 14) (by decide) ?_
    subst h
    rw [hQ]
    exact q_iret cx dX9_apart_14

abbrev rm_X9_isCell : Room := { frames := 2, cells := 0, slots := 0, locals := 63 }
def fn_X9_isCell (p1 : Int32) : Int32 :=
  zb (fn_X9_in p1 0 15)
set_option maxRecDepth 100000 in
set_option maxHeartbeats 4000000 in
theorem ct_X9_isCell (Γ : GT) (l : Launch) (M : QM) (ths : Nat) (p1 : Int32) (ht0 : mt M ths = 9) : CT Γ l yX9_isCell cX9_isCell 2 (some .boolean) rm_X9_isCell (.ref ths :: [.int p1]) M (some (.int (fn_X9_isCell p1))) M := by
  generalize h : fn_X9_isCell p1 = z
  refine ct_intro (own := RX9) (L := [(0, .ref ths), (1, .int p1)]) (by decide +kernel) rfl (Nat.le_of_ble_eq_true rfl) rfl ?_
  intro p e s m args below meth c Q hQ cx hnm
  unfold fn_X9_isCell at h
  refine q_aload_n cx (pc' := 1) 0 rfl dX9_isCell_0 rfl ?_
  refine q_iload_n cx (pc' := 2) 1 rfl dX9_isCell_1 rfl ?_
  refine q_iconst cx (pc' := 3) ki_0 dX9_isCell_2 rfl ?_
  refine q_bipush cx (pc' := 5) kb_15 dX9_isCell_3 rfl ?_
  refine q_callV cx (pc' := 8) (S := []) (S1 := [.int (fn_X9_in p1 0 15)]) (kc' := 0) (ks' := 0) 9 (ct_X9_in Γ l M ths p1 0 15 ht0) lki_X9_in lkv_X9_in lkc_X9_224 ht0 (r := (RX9, TX9, 70)) ⟨rfl, by decide, rfl⟩ rfl rfl (Nat.le_of_ble_eq_true rfl) ⟨(Nat.le_of_ble_eq_true rfl), (Nat.le_of_ble_eq_true rfl)⟩ ⟨(Nat.le_of_ble_eq_true rfl), (Nat.le_of_ble_eq_true rfl)⟩ dX9_isCell_5 rfl rfl rfl ?_
  subst h
  rw [hQ]
  exact q_nret cx rfl dX9_isCell_8

abbrev rm_X9_isWalker : Room := { frames := 2, cells := 0, slots := 0, locals := 63 }
def fn_X9_isWalker (M : QM) (ths : Nat) (p1 : Int32) : Option Int32 :=
  gI M ths 9 0 fun x4 =>
  some (zb (fn_X9_in p1 0 (x4 - 1)))
set_option maxRecDepth 100000 in
set_option maxHeartbeats 4000000 in
theorem ct_X9_isWalker (Γ : GT) (l : Launch) (M : QM) (ths : Nat) (p1 : Int32) (ht0 : mt M ths = 9) (z : Int32) (h : fn_X9_isWalker M ths p1 = some z) : CT Γ l yX9_isWalker cX9_isWalker 2 (some .boolean) rm_X9_isWalker (.ref ths :: [.int p1]) M (some (.int z)) M := by
  refine ct_intro (own := RX9) (L := [(0, .ref ths), (1, .int p1)]) (by decide +kernel) rfl (Nat.le_of_ble_eq_true rfl) rfl ?_
  intro p e s m args below meth c Q hQ cx hnm
  unfold fn_X9_isWalker at h
  refine q_aload_n cx (pc' := 1) 0 rfl dX9_isWalker_0 rfl ?_
  refine q_iload_n cx (pc' := 2) 1 rfl dX9_isWalker_1 rfl ?_
  refine q_iconst cx (pc' := 3) ki_0 dX9_isWalker_2 rfl ?_
  refine q_aload_n cx (pc' := 4) 0 rfl dX9_isWalker_3 rfl ?_
  obtain ⟨ht4, x4, ex4, h⟩ := gI_i h
  refine q_gI cx (pc' := 7) 9 0 fl_X9_7 rfl ht4 ex4 dX9_isWalker_4 rfl ?_
  refine q_iconst cx (pc' := 8) ki_1 dX9_isWalker_7 rfl ?_
  refine q_isub cx (pc' := 9) dX9_isWalker_8 rfl ?_
  refine q_callV cx (pc' := 12) (S := []) (S1 := [.int (fn_X9_in p1 0 (x4 - 1))]) (kc' := 0) (ks' := 0) 9 (ct_X9_in Γ l M ths p1 0 (x4 - 1) ht0) lki_X9_in lkv_X9_in lkc_X9_224 ht0 (r := (RX9, TX9, 70)) ⟨rfl, by decide, rfl⟩ rfl rfl (Nat.le_of_ble_eq_true rfl) ⟨(Nat.le_of_ble_eq_true rfl), (Nat.le_of_ble_eq_true rfl)⟩ ⟨(Nat.le_of_ble_eq_true rfl), (Nat.le_of_ble_eq_true rfl)⟩ dX9_isWalker_9 rfl rfl rfl ?_
  obtain rfl := o1_i h
  rw [hQ]
  exact q_nret cx rfl dX9_isWalker_12

abbrev rm_X9_isStrength : Room := { frames := 2, cells := 0, slots := 0, locals := 63 }
def fn_X9_isStrength (p1 : Int32) : Int32 :=
  zb (fn_X9_in p1 0 99)
set_option maxRecDepth 100000 in
set_option maxHeartbeats 4000000 in
theorem ct_X9_isStrength (Γ : GT) (l : Launch) (M : QM) (ths : Nat) (p1 : Int32) (ht0 : mt M ths = 9) : CT Γ l yX9_isStrength cX9_isStrength 2 (some .boolean) rm_X9_isStrength (.ref ths :: [.int p1]) M (some (.int (fn_X9_isStrength p1))) M := by
  generalize h : fn_X9_isStrength p1 = z
  refine ct_intro (own := RX9) (L := [(0, .ref ths), (1, .int p1)]) (by decide +kernel) rfl (Nat.le_of_ble_eq_true rfl) rfl ?_
  intro p e s m args below meth c Q hQ cx hnm
  unfold fn_X9_isStrength at h
  refine q_aload_n cx (pc' := 1) 0 rfl dX9_isStrength_0 rfl ?_
  refine q_iload_n cx (pc' := 2) 1 rfl dX9_isStrength_1 rfl ?_
  refine q_iconst cx (pc' := 3) ki_0 dX9_isStrength_2 rfl ?_
  refine q_bipush cx (pc' := 5) kb_99 dX9_isStrength_3 rfl ?_
  refine q_callV cx (pc' := 8) (S := []) (S1 := [.int (fn_X9_in p1 0 99)]) (kc' := 0) (ks' := 0) 9 (ct_X9_in Γ l M ths p1 0 99 ht0) lki_X9_in lkv_X9_in lkc_X9_224 ht0 (r := (RX9, TX9, 70)) ⟨rfl, by decide, rfl⟩ rfl rfl (Nat.le_of_ble_eq_true rfl) ⟨(Nat.le_of_ble_eq_true rfl), (Nat.le_of_ble_eq_true rfl)⟩ ⟨(Nat.le_of_ble_eq_true rfl), (Nat.le_of_ble_eq_true rfl)⟩ dX9_isStrength_5 rfl rfl rfl ?_
  subst h
  rw [hQ]
  exact q_nret cx rfl dX9_isStrength_8

abbrev rm_X9_isMinutes : Room := { frames := 2, cells := 0, slots := 0, locals := 63 }
def fn_X9_isMinutes (p1 : Int32) : Int32 :=
  zb (fn_X9_in p1 0 60)
set_option maxRecDepth 100000 in
set_option maxHeartbeats 4000000 in
theorem ct_X9_isMinutes (Γ : GT) (l : Launch) (M : QM) (ths : Nat) (p1 : Int32) (ht0 : mt M ths = 9) : CT Γ l yX9_isMinutes cX9_isMinutes 2 (some .boolean) rm_X9_isMinutes (.ref ths :: [.int p1]) M (some (.int (fn_X9_isMinutes p1))) M := by
  generalize h : fn_X9_isMinutes p1 = z
  refine ct_intro (own := RX9) (L := [(0, .ref ths), (1, .int p1)]) (by decide +kernel) rfl (Nat.le_of_ble_eq_true rfl) rfl ?_
  intro p e s m args below meth c Q hQ cx hnm
  unfold fn_X9_isMinutes at h
  refine q_aload_n cx (pc' := 1) 0 rfl dX9_isMinutes_0 rfl ?_
  refine q_iload_n cx (pc' := 2) 1 rfl dX9_isMinutes_1 rfl ?_
  refine q_iconst cx (pc' := 3) ki_0 dX9_isMinutes_2 rfl ?_
  refine q_bipush cx (pc' := 5) kb_60 dX9_isMinutes_3 rfl ?_
  refine q_callV cx (pc' := 8) (S := []) (S1 := [.int (fn_X9_in p1 0 60)]) (kc' := 0) (ks' := 0) 9 (ct_X9_in Γ l M ths p1 0 60 ht0) lki_X9_in lkv_X9_in lkc_X9_224 ht0 (r := (RX9, TX9, 70)) ⟨rfl, by decide, rfl⟩ rfl rfl (Nat.le_of_ble_eq_true rfl) ⟨(Nat.le_of_ble_eq_true rfl), (Nat.le_of_ble_eq_true rfl)⟩ ⟨(Nat.le_of_ble_eq_true rfl), (Nat.le_of_ble_eq_true rfl)⟩ dX9_isMinutes_5 rfl rfl rfl ?_
  subst h
  rw [hQ]
  exact q_nret cx rfl dX9_isMinutes_8

abbrev rm_X9_walker : Room := { frames := 3, cells := 0, slots := 0, locals := 84 }
def lp_X9_walker_79 (ths : Nat) (w4_79 : Int32) (Mw_79 : QM) : Option ((Int32 × QM) ⊕ (QM)) :=
  if 4 ≤ w4_79 then
    some (.inr Mw_79)
  else
    gR Mw_79 ths 9 6 fun r86 =>
    gI Mw_79 ths 9 0 fun x91 =>
    wI Mw_79 20 r86 ((4 * x91) + w4_79) 0 fun M99 =>
    nm (w4_79 + 1) fun v4_100 =>
    some (.inl (v4_100, M99))
def fn_X9_walker (M : QM) (ths : Nat) (p1 : Int32) (p2 : Int32) (p3 : Int32) : Option (Int32 × QM) :=
  if (fn_X9_in p1 0 6) = 0 then
    some ((-1), M)
  else
    if (fn_X9_in p2 0 9) = 0 then
      some ((-2), M)
    else
      if (fn_X9_isStrength p3) = 0 then
        some ((-2), M)
      else
        gI M ths 9 0 fun x36 =>
        if x36 = 5 then
          some ((-4), M)
        else
          gR M ths 9 3 fun r47 =>
          gI M ths 9 0 fun x51 =>
          wI M 20 r47 x51 p1 fun M55 =>
          gR M55 ths 9 4 fun r57 =>
          gI M55 ths 9 0 fun x61 =>
          wI M55 20 r57 x61 p2 fun M65 =>
          gR M65 ths 9 5 fun r67 =>
          gI M65 ths 9 0 fun x71 =>
          wI M65 20 r67 x71 p3 fun M75 =>
          bnd (itr (fun s79 : Int32 × QM => lp_X9_walker_79 ths s79.1 s79.2) FU (0, M75)) fun Me_79 =>
          gI Me_79 ths 9 0 fun x108 =>
          pI Me_79 ths 9 0 (x108 + 1) fun M113 =>
          gI M113 ths 9 0 fun x117 =>
          some ((x117 - 1), M113)
set_option maxRecDepth 100000 in
set_option maxHeartbeats 4000000 in
theorem ct_X9_walker (Γ : GT) (l : Launch) (M : QM) (ths : Nat) (p1 : Int32) (p2 : Int32) (p3 : Int32) (ht0 : mt M ths = 9) (z : Int32) (M' : QM) (h : fn_X9_walker M ths p1 p2 p3 = some (z, M')) : CT Γ l yX9_walker cX9_walker 5 (some .int) rm_X9_walker (.ref ths :: [.int p1, .int p2, .int p3]) M (some (.int z)) M' := by
  refine ct_intro (own := RX9) (L := [(0, .ref ths), (1, .int p1), (2, .int p2), (3, .int p3)]) (by decide +kernel) rfl (Nat.le_of_ble_eq_true rfl) rfl ?_
  intro p e s m args below meth c Q hQ cx hnm
  unfold fn_X9_walker at h
  refine q_aload_n cx (pc' := 1) 0 rfl dX9_walker_0 rfl ?_
  refine q_iload_n cx (pc' := 2) 1 rfl dX9_walker_1 rfl ?_
  refine q_iconst cx (pc' := 3) ki_0 dX9_walker_2 rfl ?_
  refine q_bipush cx (pc' := 5) kb_6 dX9_walker_3 rfl ?_
  refine q_callV cx (pc' := 8) (S := []) (S1 := [.int (fn_X9_in p1 0 6)]) (kc' := 0) (ks' := 0) 9 (ct_X9_in Γ l M ths p1 0 6 ht0) lki_X9_in lkv_X9_in lkc_X9_224 ht0 (r := (RX9, TX9, 70)) ⟨rfl, by decide, rfl⟩ rfl rfl (Nat.le_of_ble_eq_true rfl) ⟨(Nat.le_of_ble_eq_true rfl), (Nat.le_of_ble_eq_true rfl)⟩ ⟨(Nat.le_of_ble_eq_true rfl), (Nat.le_of_ble_eq_true rfl)⟩ dX9_walker_5 rfl rfl rfl ?_
  refine q_if_ne cx (pc' := 11) (tgt := 13) dX9_walker_8 (by decide) rfl (fun c8 => ?_) (fun c8 => ?_)
  · replace h := ine c8 h
    refine q_aload_n cx (pc' := 14) 0 rfl dX9_walker_13 rfl ?_
    refine q_iload_n cx (pc' := 15) 2 rfl dX9_walker_14 rfl ?_
    refine q_iconst cx (pc' := 16) ki_0 dX9_walker_15 rfl ?_
    refine q_bipush cx (pc' := 18) kb_9 dX9_walker_16 rfl ?_
    refine q_callV cx (pc' := 21) (S := []) (S1 := [.int (fn_X9_in p2 0 9)]) (kc' := 0) (ks' := 0) 9 (ct_X9_in Γ l M ths p2 0 9 ht0) lki_X9_in lkv_X9_in lkc_X9_224 ht0 (r := (RX9, TX9, 70)) ⟨rfl, by decide, rfl⟩ rfl rfl (Nat.le_of_ble_eq_true rfl) ⟨(Nat.le_of_ble_eq_true rfl), (Nat.le_of_ble_eq_true rfl)⟩ ⟨(Nat.le_of_ble_eq_true rfl), (Nat.le_of_ble_eq_true rfl)⟩ dX9_walker_18 rfl rfl rfl ?_
    refine q_if_eq cx (pc' := 24) (tgt := 32) dX9_walker_21 (by decide) rfl (fun c21 => ?_) (fun c21 => ?_)
    · replace h := ip c21 h
      refine q_bipush cx (pc' := 34) kb_m2 dX9_walker_32 rfl ?_
      obtain ⟨rfl, rfl⟩ := o2_i h
      rw [hQ]
      exact q_iret cx dX9_walker_34
    · replace h := ine c21 h
      refine q_aload_n cx (pc' := 25) 0 rfl dX9_walker_24 rfl ?_
      refine q_iload_n cx (pc' := 26) 3 rfl dX9_walker_25 rfl ?_
      refine q_callV cx (pc' := 29) (S := []) (S1 := [.int (fn_X9_isStrength p3)]) (kc' := 0) (ks' := 0) 9 (ct_X9_isStrength Γ l M ths p3 ht0) lki_X9_isStrength lkv_X9_isStrength lkc_X9_228 ht0 (r := (RX9, TX9, 70)) ⟨rfl, by decide, rfl⟩ rfl rfl (Nat.le_of_ble_eq_true rfl) ⟨(Nat.le_of_ble_eq_true rfl), (Nat.le_of_ble_eq_true rfl)⟩ ⟨(Nat.le_of_ble_eq_true rfl), (Nat.le_of_ble_eq_true rfl)⟩ dX9_walker_26 rfl rfl rfl ?_
      refine q_if_ne cx (pc' := 32) (tgt := 35) dX9_walker_29 (by decide) rfl (fun c29 => ?_) (fun c29 => ?_)
      · replace h := ine c29 h
        refine q_aload_n cx (pc' := 36) 0 rfl dX9_walker_35 rfl ?_
        obtain ⟨ht36, x36, ex36, h⟩ := gI_i h
        refine q_gI cx (pc' := 39) 9 0 fl_X9_7 rfl ht36 ex36 dX9_walker_36 rfl ?_
        refine q_iconst cx (pc' := 40) ki_5 dX9_walker_39 rfl ?_
        refine q_icmp_ne cx (pc' := 43) (tgt := 46) dX9_walker_40 (by decide) rfl (fun c40 => ?_) (fun c40 => ?_)
        · replace h := ine c40 h
          refine q_aload_n cx (pc' := 47) 0 rfl dX9_walker_46 rfl ?_
          obtain ⟨ht47, r47, ex47, h⟩ := gR_i h
          refine q_gR cx (pc' := 50) 9 3 fl_X9_20 rfl ht47 ex47 dX9_walker_47 rfl ?_
          refine q_aload_n cx (pc' := 51) 0 rfl dX9_walker_50 rfl ?_
          obtain ⟨ht51, x51, ex51, h⟩ := gI_i h
          refine q_gI cx (pc' := 54) 9 0 fl_X9_7 rfl ht51 ex51 dX9_walker_51 rfl ?_
          refine q_iload_n cx (pc' := 55) 1 rfl dX9_walker_54 rfl ?_
          obtain ⟨ht55, hi55, M55, eM55, h⟩ := wI_i h
          refine q_iast cx (pc' := 56) ht55 hi55 eM55 dX9_walker_55 rfl ?_
          refine q_aload_n cx (pc' := 57) 0 rfl dX9_walker_56 rfl ?_
          obtain ⟨ht57, r57, ex57, h⟩ := gR_i h
          refine q_gR cx (pc' := 60) 9 4 fl_X9_23 rfl ht57 ex57 dX9_walker_57 rfl ?_
          refine q_aload_n cx (pc' := 61) 0 rfl dX9_walker_60 rfl ?_
          obtain ⟨ht61, x61, ex61, h⟩ := gI_i h
          refine q_gI cx (pc' := 64) 9 0 fl_X9_7 rfl ht61 ex61 dX9_walker_61 rfl ?_
          refine q_iload_n cx (pc' := 65) 2 rfl dX9_walker_64 rfl ?_
          obtain ⟨ht65, hi65, M65, eM65, h⟩ := wI_i h
          refine q_iast cx (pc' := 66) ht65 hi65 eM65 dX9_walker_65 rfl ?_
          refine q_aload_n cx (pc' := 67) 0 rfl dX9_walker_66 rfl ?_
          obtain ⟨ht67, r67, ex67, h⟩ := gR_i h
          refine q_gR cx (pc' := 70) 9 5 fl_X9_26 rfl ht67 ex67 dX9_walker_67 rfl ?_
          refine q_aload_n cx (pc' := 71) 0 rfl dX9_walker_70 rfl ?_
          obtain ⟨ht71, x71, ex71, h⟩ := gI_i h
          refine q_gI cx (pc' := 74) 9 0 fl_X9_7 rfl ht71 ex71 dX9_walker_71 rfl ?_
          refine q_iload_n cx (pc' := 75) 3 rfl dX9_walker_74 rfl ?_
          obtain ⟨ht75, hi75, M75, eM75, h⟩ := wI_i h
          refine q_iast cx (pc' := 76) ht75 hi75 eM75 dX9_walker_75 rfl ?_
          refine q_iconst cx (pc' := 77) ki_0 dX9_walker_76 rfl ?_
          refine q_istore cx (pc' := 79) rfl (by decide) (L' := [(4, .int 0), (0, .ref ths), (1, .int p1), (2, .int p2), (3, .int p3)]) rfl dX9_walker_77 rfl ?_
          obtain ⟨r79, hL79, h⟩ := bnd_i h
          have hk79_0 : ∀ (Me_79 : QM), Me_79 = r79 → EE p l e rm_X9_walker s m args below meth c Q Γ 5 0 0 106 [(0, .ref ths)] [] Me_79 := by
            intro Me_79 hp
            subst hp
            refine q_aload_n cx (pc' := 107) 0 rfl dX9_walker_106 rfl ?_
            refine q_dup cx (pc' := 108) rfl dX9_walker_107 rfl ?_
            obtain ⟨ht108, x108, ex108, h⟩ := gI_i h
            refine q_gI cx (pc' := 111) 9 0 fl_X9_7 rfl ht108 ex108 dX9_walker_108 rfl ?_
            refine q_iconst cx (pc' := 112) ki_1 dX9_walker_111 rfl ?_
            refine q_iadd cx (pc' := 113) dX9_walker_112 rfl ?_
            obtain ⟨ht113, M113, eM113, h⟩ := pI_i h
            refine q_pI cx (pc' := 116) 9 0 fl_X9_7 rfl ht113 (ty := .int) ⟨(RX9, TX9, 70), rfl, by decide +kernel, Or.inl rfl⟩ rfl rfl eM113 dX9_walker_113 rfl ?_
            refine q_aload_n cx (pc' := 117) 0 rfl dX9_walker_116 rfl ?_
            obtain ⟨ht117, x117, ex117, h⟩ := gI_i h
            refine q_gI cx (pc' := 120) 9 0 fl_X9_7 rfl ht117 ex117 dX9_walker_117 rfl ?_
            refine q_iconst cx (pc' := 121) ki_1 dX9_walker_120 rfl ?_
            refine q_isub cx (pc' := 122) dX9_walker_121 rfl ?_
            obtain ⟨rfl, rfl⟩ := o2_i h
            rw [hQ]
            exact q_iret cx dX9_walker_122
          have key79 : ∀ (n : Nat) (w4_79 : Int32) (Mw_79 : QM), itr (fun s79 : Int32 × QM => lp_X9_walker_79 ths s79.1 s79.2) n (w4_79, Mw_79) = some r79 → EE p l e rm_X9_walker s m args below meth c Q Γ 5 0 0 79 [(0, .ref ths), (4, .int w4_79)] [] Mw_79 := by
            intro n
            induction n with
            | zero => intro _ _ h; exact (itr_0 h).elim
            | succ n ih =>
              intro w4_79 Mw_79 h
              obtain ⟨z79, h, hz79⟩ := itr_i h
              replace h : lp_X9_walker_79 ths w4_79 Mw_79 = some z79 := h
              unfold lp_X9_walker_79 at h
              refine q_iload cx (pc' := 81) 1 rfl dX9_walker_79 rfl ?_
              refine q_iconst cx (pc' := 82) ki_4 dX9_walker_81 rfl ?_
              refine q_icmp_ge cx (pc' := 85) (tgt := 106) dX9_walker_82 (by decide) rfl (fun c82 => ?_) (fun c82 => ?_)
              · replace h := ip c82 h
                refine q_sub cx [0] rfl ?_
                exact hk79_0 _ (hz79.2 _ h)
              · replace h := ine c82 h
                refine q_aload_n cx (pc' := 86) 0 rfl dX9_walker_85 rfl ?_
                obtain ⟨ht86, r86, ex86, h⟩ := gR_i h
                refine q_gR cx (pc' := 89) 9 6 fl_X9_29 rfl ht86 ex86 dX9_walker_86 rfl ?_
                refine q_iconst cx (pc' := 90) ki_4 dX9_walker_89 rfl ?_
                refine q_aload_n cx (pc' := 91) 0 rfl dX9_walker_90 rfl ?_
                obtain ⟨ht91, x91, ex91, h⟩ := gI_i h
                refine q_gI cx (pc' := 94) 9 0 fl_X9_7 rfl ht91 ex91 dX9_walker_91 rfl ?_
                refine q_imul cx (pc' := 95) dX9_walker_94 rfl ?_
                refine q_iload cx (pc' := 97) 1 rfl dX9_walker_95 rfl ?_
                refine q_iadd cx (pc' := 98) dX9_walker_97 rfl ?_
                refine q_iconst cx (pc' := 99) ki_0 dX9_walker_98 rfl ?_
                obtain ⟨ht99, hi99, M99, eM99, h⟩ := wI_i h
                refine q_iast cx (pc' := 100) ht99 hi99 eM99 dX9_walker_99 rfl ?_
                obtain ⟨v4_100, ev4_100, h⟩ := nm_i h
                refine q_iinc cx (pc' := 103) 1 rfl ki_1 ev4_100 (by decide) (L' := [(4, .int v4_100), (0, .ref ths)]) rfl dX9_walker_100 rfl ?_
                refine q_goto cx dX9_walker_103 (tgt := 79) (by decide) ?_
                refine q_sub cx [1, 0] rfl ?_
                exact ih _ _ (hz79.1 _ h)
          refine q_sub cx [1, 0] rfl ?_
          exact key79 FU _ _ hL79
        · replace h := ip c40 h
          refine q_bipush cx (pc' := 45) kb_m4 dX9_walker_43 rfl ?_
          obtain ⟨rfl, rfl⟩ := o2_i h
          rw [hQ]
          exact q_iret cx dX9_walker_45
      · replace h := ip c29 h
        refine q_bipush cx (pc' := 34) kb_m2 dX9_walker_32 rfl ?_
        obtain ⟨rfl, rfl⟩ := o2_i h
        rw [hQ]
        exact q_iret cx dX9_walker_34
  · replace h := ip c8 h
    refine q_iconst cx (pc' := 12) ki_m1 dX9_walker_11 rfl ?_
    obtain ⟨rfl, rfl⟩ := o2_i h
    rw [hQ]
    exact q_iret cx dX9_walker_12

abbrev rm_X9_set : Room := { frames := 3, cells := 0, slots := 0, locals := 84 }
def fn_X9_set (M : QM) (ths : Nat) (p1 : Int32) (p2 : Int32) : Option (Int32 × QM) :=
  if (fn_X9_isCell p1) = 0 then
    some ((-1), M)
  else
    if (fn_X9_isStrength p2) = 0 then
      some ((-2), M)
    else
      gR M ths 9 2 fun r22 =>
      aI M 20 r22 p1 fun x26 =>
      gR M ths 9 2 fun r29 =>
      wI M 20 r29 p1 p2 fun M34 =>
      some (x26, M34)
set_option maxRecDepth 100000 in
set_option maxHeartbeats 4000000 in
theorem ct_X9_set (Γ : GT) (l : Launch) (M : QM) (ths : Nat) (p1 : Int32) (p2 : Int32) (ht0 : mt M ths = 9) (z : Int32) (M' : QM) (h : fn_X9_set M ths p1 p2 = some (z, M')) : CT Γ l yX9_set cX9_set 4 (some .int) rm_X9_set (.ref ths :: [.int p1, .int p2]) M (some (.int z)) M' := by
  refine ct_intro (own := RX9) (L := [(0, .ref ths), (1, .int p1), (2, .int p2)]) (by decide +kernel) rfl (Nat.le_of_ble_eq_true rfl) rfl ?_
  intro p e s m args below meth c Q hQ cx hnm
  unfold fn_X9_set at h
  refine q_aload_n cx (pc' := 1) 0 rfl dX9_set_0 rfl ?_
  refine q_iload_n cx (pc' := 2) 1 rfl dX9_set_1 rfl ?_
  refine q_callV cx (pc' := 5) (S := []) (S1 := [.int (fn_X9_isCell p1)]) (kc' := 0) (ks' := 0) 9 (ct_X9_isCell Γ l M ths p1 ht0) lki_X9_isCell lkv_X9_isCell lkc_X9_232 ht0 (r := (RX9, TX9, 70)) ⟨rfl, by decide, rfl⟩ rfl rfl (Nat.le_of_ble_eq_true rfl) ⟨(Nat.le_of_ble_eq_true rfl), (Nat.le_of_ble_eq_true rfl)⟩ ⟨(Nat.le_of_ble_eq_true rfl), (Nat.le_of_ble_eq_true rfl)⟩ dX9_set_2 rfl rfl rfl ?_
  refine q_if_ne cx (pc' := 8) (tgt := 10) dX9_set_5 (by decide) rfl (fun c5 => ?_) (fun c5 => ?_)
  · replace h := ine c5 h
    refine q_aload_n cx (pc' := 11) 0 rfl dX9_set_10 rfl ?_
    refine q_iload_n cx (pc' := 12) 2 rfl dX9_set_11 rfl ?_
    refine q_callV cx (pc' := 15) (S := []) (S1 := [.int (fn_X9_isStrength p2)]) (kc' := 0) (ks' := 0) 9 (ct_X9_isStrength Γ l M ths p2 ht0) lki_X9_isStrength lkv_X9_isStrength lkc_X9_228 ht0 (r := (RX9, TX9, 70)) ⟨rfl, by decide, rfl⟩ rfl rfl (Nat.le_of_ble_eq_true rfl) ⟨(Nat.le_of_ble_eq_true rfl), (Nat.le_of_ble_eq_true rfl)⟩ ⟨(Nat.le_of_ble_eq_true rfl), (Nat.le_of_ble_eq_true rfl)⟩ dX9_set_12 rfl rfl rfl ?_
    refine q_if_ne cx (pc' := 18) (tgt := 21) dX9_set_15 (by decide) rfl (fun c15 => ?_) (fun c15 => ?_)
    · replace h := ine c15 h
      refine q_aload_n cx (pc' := 22) 0 rfl dX9_set_21 rfl ?_
      obtain ⟨ht22, r22, ex22, h⟩ := gR_i h
      refine q_gR cx (pc' := 25) 9 2 fl_X9_16 rfl ht22 ex22 dX9_set_22 rfl ?_
      refine q_iload_n cx (pc' := 26) 1 rfl dX9_set_25 rfl ?_
      obtain ⟨ht26, hi26, x26, ex26, h⟩ := aI_i h
      refine q_iald cx (pc' := 27) ht26 hi26 ex26 dX9_set_26 rfl ?_
      refine q_istore_n cx (pc' := 28) rfl rfl (by decide) (L' := [(3, .int x26), (0, .ref ths), (1, .int p1), (2, .int p2)]) rfl dX9_set_27 rfl ?_
      refine q_aload_n cx (pc' := 29) 1 rfl dX9_set_28 rfl ?_
      obtain ⟨ht29, r29, ex29, h⟩ := gR_i h
      refine q_gR cx (pc' := 32) 9 2 fl_X9_16 rfl ht29 ex29 dX9_set_29 rfl ?_
      refine q_iload_n cx (pc' := 33) 2 rfl dX9_set_32 rfl ?_
      refine q_iload_n cx (pc' := 34) 3 rfl dX9_set_33 rfl ?_
      obtain ⟨ht34, hi34, M34, eM34, h⟩ := wI_i h
      refine q_iast cx (pc' := 35) ht34 hi34 eM34 dX9_set_34 rfl ?_
      refine q_iload_n cx (pc' := 36) 0 rfl dX9_set_35 rfl ?_
      obtain ⟨rfl, rfl⟩ := o2_i h
      rw [hQ]
      exact q_iret cx dX9_set_36
    · replace h := ip c15 h
      refine q_bipush cx (pc' := 20) kb_m2 dX9_set_18 rfl ?_
      obtain ⟨rfl, rfl⟩ := o2_i h
      rw [hQ]
      exact q_iret cx dX9_set_20
  · replace h := ip c5 h
    refine q_iconst cx (pc' := 9) ki_m1 dX9_set_8 rfl ?_
    obtain ⟨rfl, rfl⟩ := o2_i h
    rw [hQ]
    exact q_iret cx dX9_set_9

abbrev rm_X9_weigh : Room := { frames := 3, cells := 0, slots := 0, locals := 84 }
def fn_X9_weigh (M : QM) (ths : Nat) (p1 : Int32) (p2 : Int32) : Option (Int32 × QM) :=
  bnd (fn_X9_isWalker M ths p1) fun c2 =>
  if c2 = 0 then
    some ((-1), M)
  else
    if (fn_X9_isStrength p2) = 0 then
      some ((-2), M)
    else
      gR M ths 9 5 fun r22 =>
      aI M 20 r22 p1 fun x26 =>
      gR M ths 9 5 fun r29 =>
      wI M 20 r29 p1 p2 fun M34 =>
      some (x26, M34)
set_option maxRecDepth 100000 in
set_option maxHeartbeats 4000000 in
theorem ct_X9_weigh (Γ : GT) (l : Launch) (M : QM) (ths : Nat) (p1 : Int32) (p2 : Int32) (ht0 : mt M ths = 9) (z : Int32) (M' : QM) (h : fn_X9_weigh M ths p1 p2 = some (z, M')) : CT Γ l yX9_weigh cX9_weigh 4 (some .int) rm_X9_weigh (.ref ths :: [.int p1, .int p2]) M (some (.int z)) M' := by
  refine ct_intro (own := RX9) (L := [(0, .ref ths), (1, .int p1), (2, .int p2)]) (by decide +kernel) rfl (Nat.le_of_ble_eq_true rfl) rfl ?_
  intro p e s m args below meth c Q hQ cx hnm
  unfold fn_X9_weigh at h
  refine q_aload_n cx (pc' := 1) 0 rfl dX9_weigh_0 rfl ?_
  refine q_iload_n cx (pc' := 2) 1 rfl dX9_weigh_1 rfl ?_
  obtain ⟨c2, hc2, h⟩ := bnd_i h
  refine q_callV cx (pc' := 5) (S := []) (S1 := [.int c2]) (kc' := 0) (ks' := 0) 9 (ct_X9_isWalker Γ l M ths p1 ht0 _ hc2) lki_X9_isWalker lkv_X9_isWalker lkc_X9_235 ht0 (r := (RX9, TX9, 70)) ⟨rfl, by decide, rfl⟩ rfl rfl (Nat.le_of_ble_eq_true rfl) ⟨(Nat.le_of_ble_eq_true rfl), (Nat.le_of_ble_eq_true rfl)⟩ ⟨(Nat.le_of_ble_eq_true rfl), (Nat.le_of_ble_eq_true rfl)⟩ dX9_weigh_2 rfl rfl rfl ?_
  refine q_if_ne cx (pc' := 8) (tgt := 10) dX9_weigh_5 (by decide) rfl (fun c5 => ?_) (fun c5 => ?_)
  · replace h := ine c5 h
    refine q_aload_n cx (pc' := 11) 0 rfl dX9_weigh_10 rfl ?_
    refine q_iload_n cx (pc' := 12) 2 rfl dX9_weigh_11 rfl ?_
    refine q_callV cx (pc' := 15) (S := []) (S1 := [.int (fn_X9_isStrength p2)]) (kc' := 0) (ks' := 0) 9 (ct_X9_isStrength Γ l M ths p2 ht0) lki_X9_isStrength lkv_X9_isStrength lkc_X9_228 ht0 (r := (RX9, TX9, 70)) ⟨rfl, by decide, rfl⟩ rfl rfl (Nat.le_of_ble_eq_true rfl) ⟨(Nat.le_of_ble_eq_true rfl), (Nat.le_of_ble_eq_true rfl)⟩ ⟨(Nat.le_of_ble_eq_true rfl), (Nat.le_of_ble_eq_true rfl)⟩ dX9_weigh_12 rfl rfl rfl ?_
    refine q_if_ne cx (pc' := 18) (tgt := 21) dX9_weigh_15 (by decide) rfl (fun c15 => ?_) (fun c15 => ?_)
    · replace h := ine c15 h
      refine q_aload_n cx (pc' := 22) 0 rfl dX9_weigh_21 rfl ?_
      obtain ⟨ht22, r22, ex22, h⟩ := gR_i h
      refine q_gR cx (pc' := 25) 9 5 fl_X9_26 rfl ht22 ex22 dX9_weigh_22 rfl ?_
      refine q_iload_n cx (pc' := 26) 1 rfl dX9_weigh_25 rfl ?_
      obtain ⟨ht26, hi26, x26, ex26, h⟩ := aI_i h
      refine q_iald cx (pc' := 27) ht26 hi26 ex26 dX9_weigh_26 rfl ?_
      refine q_istore_n cx (pc' := 28) rfl rfl (by decide) (L' := [(3, .int x26), (0, .ref ths), (1, .int p1), (2, .int p2)]) rfl dX9_weigh_27 rfl ?_
      refine q_aload_n cx (pc' := 29) 1 rfl dX9_weigh_28 rfl ?_
      obtain ⟨ht29, r29, ex29, h⟩ := gR_i h
      refine q_gR cx (pc' := 32) 9 5 fl_X9_26 rfl ht29 ex29 dX9_weigh_29 rfl ?_
      refine q_iload_n cx (pc' := 33) 2 rfl dX9_weigh_32 rfl ?_
      refine q_iload_n cx (pc' := 34) 3 rfl dX9_weigh_33 rfl ?_
      obtain ⟨ht34, hi34, M34, eM34, h⟩ := wI_i h
      refine q_iast cx (pc' := 35) ht34 hi34 eM34 dX9_weigh_34 rfl ?_
      refine q_iload_n cx (pc' := 36) 0 rfl dX9_weigh_35 rfl ?_
      obtain ⟨rfl, rfl⟩ := o2_i h
      rw [hQ]
      exact q_iret cx dX9_weigh_36
    · replace h := ip c15 h
      refine q_bipush cx (pc' := 20) kb_m2 dX9_weigh_18 rfl ?_
      obtain ⟨rfl, rfl⟩ := o2_i h
      rw [hQ]
      exact q_iret cx dX9_weigh_20
  · replace h := ip c5 h
    refine q_iconst cx (pc' := 9) ki_m1 dX9_weigh_8 rfl ?_
    obtain ⟨rfl, rfl⟩ := o2_i h
    rw [hQ]
    exact q_iret cx dX9_weigh_9

abbrev rm_X9_line : Room := { frames := 3, cells := 0, slots := 0, locals := 84 }
def fn_X9_line (M : QM) (ths : Nat) (p1 : Int32) (p2 : Int32) (p3 : Int32) : Option (Int32 × QM) :=
  bnd (fn_X9_isWalker M ths p1) fun c2 =>
  if c2 = 0 then
    some ((-1), M)
  else
    if (fn_X9_in p2 0 3) = 0 then
      some ((-1), M)
    else
      if (fn_X9_in p3 0 9) = 0 then
        some ((-2), M)
      else
        gR M ths 9 3 fun r35 =>
        aI M 20 r35 p1 fun x39 =>
        if x39 = 6 then
          gR M ths 9 6 fun r49 =>
          aI M 20 r49 ((4 * p1) + p2) fun x57 =>
          gR M ths 9 6 fun r61 =>
          wI M 20 r61 ((4 * p1) + p2) p3 fun M70 =>
          some (x57, M70)
        else
          some ((-3), M)
set_option maxRecDepth 100000 in
set_option maxHeartbeats 4000000 in
theorem ct_X9_line (Γ : GT) (l : Launch) (M : QM) (ths : Nat) (p1 : Int32) (p2 : Int32) (p3 : Int32) (ht0 : mt M ths = 9) (z : Int32) (M' : QM) (h : fn_X9_line M ths p1 p2 p3 = some (z, M')) : CT Γ l yX9_line cX9_line 5 (some .int) rm_X9_line (.ref ths :: [.int p1, .int p2, .int p3]) M (some (.int z)) M' := by
  refine ct_intro (own := RX9) (L := [(0, .ref ths), (1, .int p1), (2, .int p2), (3, .int p3)]) (by decide +kernel) rfl (Nat.le_of_ble_eq_true rfl) rfl ?_
  intro p e s m args below meth c Q hQ cx hnm
  unfold fn_X9_line at h
  refine q_aload_n cx (pc' := 1) 0 rfl dX9_line_0 rfl ?_
  refine q_iload_n cx (pc' := 2) 1 rfl dX9_line_1 rfl ?_
  obtain ⟨c2, hc2, h⟩ := bnd_i h
  refine q_callV cx (pc' := 5) (S := []) (S1 := [.int c2]) (kc' := 0) (ks' := 0) 9 (ct_X9_isWalker Γ l M ths p1 ht0 _ hc2) lki_X9_isWalker lkv_X9_isWalker lkc_X9_235 ht0 (r := (RX9, TX9, 70)) ⟨rfl, by decide, rfl⟩ rfl rfl (Nat.le_of_ble_eq_true rfl) ⟨(Nat.le_of_ble_eq_true rfl), (Nat.le_of_ble_eq_true rfl)⟩ ⟨(Nat.le_of_ble_eq_true rfl), (Nat.le_of_ble_eq_true rfl)⟩ dX9_line_2 rfl rfl rfl ?_
  refine q_if_eq cx (pc' := 8) (tgt := 18) dX9_line_5 (by decide) rfl (fun c5 => ?_) (fun c5 => ?_)
  · replace h := ip c5 h
    refine q_iconst cx (pc' := 19) ki_m1 dX9_line_18 rfl ?_
    obtain ⟨rfl, rfl⟩ := o2_i h
    rw [hQ]
    exact q_iret cx dX9_line_19
  · replace h := ine c5 h
    refine q_aload_n cx (pc' := 9) 0 rfl dX9_line_8 rfl ?_
    refine q_iload_n cx (pc' := 10) 2 rfl dX9_line_9 rfl ?_
    refine q_iconst cx (pc' := 11) ki_0 dX9_line_10 rfl ?_
    refine q_iconst cx (pc' := 12) ki_3 dX9_line_11 rfl ?_
    refine q_callV cx (pc' := 15) (S := []) (S1 := [.int (fn_X9_in p2 0 3)]) (kc' := 0) (ks' := 0) 9 (ct_X9_in Γ l M ths p2 0 3 ht0) lki_X9_in lkv_X9_in lkc_X9_224 ht0 (r := (RX9, TX9, 70)) ⟨rfl, by decide, rfl⟩ rfl rfl (Nat.le_of_ble_eq_true rfl) ⟨(Nat.le_of_ble_eq_true rfl), (Nat.le_of_ble_eq_true rfl)⟩ ⟨(Nat.le_of_ble_eq_true rfl), (Nat.le_of_ble_eq_true rfl)⟩ dX9_line_12 rfl rfl rfl ?_
    refine q_if_ne cx (pc' := 18) (tgt := 20) dX9_line_15 (by decide) rfl (fun c15 => ?_) (fun c15 => ?_)
    · replace h := ine c15 h
      refine q_aload_n cx (pc' := 21) 0 rfl dX9_line_20 rfl ?_
      refine q_iload_n cx (pc' := 22) 3 rfl dX9_line_21 rfl ?_
      refine q_iconst cx (pc' := 23) ki_0 dX9_line_22 rfl ?_
      refine q_bipush cx (pc' := 25) kb_9 dX9_line_23 rfl ?_
      refine q_callV cx (pc' := 28) (S := []) (S1 := [.int (fn_X9_in p3 0 9)]) (kc' := 0) (ks' := 0) 9 (ct_X9_in Γ l M ths p3 0 9 ht0) lki_X9_in lkv_X9_in lkc_X9_224 ht0 (r := (RX9, TX9, 70)) ⟨rfl, by decide, rfl⟩ rfl rfl (Nat.le_of_ble_eq_true rfl) ⟨(Nat.le_of_ble_eq_true rfl), (Nat.le_of_ble_eq_true rfl)⟩ ⟨(Nat.le_of_ble_eq_true rfl), (Nat.le_of_ble_eq_true rfl)⟩ dX9_line_25 rfl rfl rfl ?_
      refine q_if_ne cx (pc' := 31) (tgt := 34) dX9_line_28 (by decide) rfl (fun c28 => ?_) (fun c28 => ?_)
      · replace h := ine c28 h
        refine q_aload_n cx (pc' := 35) 0 rfl dX9_line_34 rfl ?_
        obtain ⟨ht35, r35, ex35, h⟩ := gR_i h
        refine q_gR cx (pc' := 38) 9 3 fl_X9_20 rfl ht35 ex35 dX9_line_35 rfl ?_
        refine q_iload_n cx (pc' := 39) 1 rfl dX9_line_38 rfl ?_
        obtain ⟨ht39, hi39, x39, ex39, h⟩ := aI_i h
        refine q_iald cx (pc' := 40) ht39 hi39 ex39 dX9_line_39 rfl ?_
        refine q_bipush cx (pc' := 42) kb_6 dX9_line_40 rfl ?_
        refine q_icmp_eq cx (pc' := 45) (tgt := 48) dX9_line_42 (by decide) rfl (fun c42 => ?_) (fun c42 => ?_)
        · replace h := ip c42 h
          refine q_aload_n cx (pc' := 49) 0 rfl dX9_line_48 rfl ?_
          obtain ⟨ht49, r49, ex49, h⟩ := gR_i h
          refine q_gR cx (pc' := 52) 9 6 fl_X9_29 rfl ht49 ex49 dX9_line_49 rfl ?_
          refine q_iconst cx (pc' := 53) ki_4 dX9_line_52 rfl ?_
          refine q_iload_n cx (pc' := 54) 1 rfl dX9_line_53 rfl ?_
          refine q_imul cx (pc' := 55) dX9_line_54 rfl ?_
          refine q_iload_n cx (pc' := 56) 2 rfl dX9_line_55 rfl ?_
          refine q_iadd cx (pc' := 57) dX9_line_56 rfl ?_
          obtain ⟨ht57, hi57, x57, ex57, h⟩ := aI_i h
          refine q_iald cx (pc' := 58) ht57 hi57 ex57 dX9_line_57 rfl ?_
          refine q_istore cx (pc' := 60) rfl (by decide) (L' := [(4, .int x57), (0, .ref ths), (1, .int p1), (2, .int p2), (3, .int p3)]) rfl dX9_line_58 rfl ?_
          refine q_aload_n cx (pc' := 61) 1 rfl dX9_line_60 rfl ?_
          obtain ⟨ht61, r61, ex61, h⟩ := gR_i h
          refine q_gR cx (pc' := 64) 9 6 fl_X9_29 rfl ht61 ex61 dX9_line_61 rfl ?_
          refine q_iconst cx (pc' := 65) ki_4 dX9_line_64 rfl ?_
          refine q_iload_n cx (pc' := 66) 2 rfl dX9_line_65 rfl ?_
          refine q_imul cx (pc' := 67) dX9_line_66 rfl ?_
          refine q_iload_n cx (pc' := 68) 3 rfl dX9_line_67 rfl ?_
          refine q_iadd cx (pc' := 69) dX9_line_68 rfl ?_
          refine q_iload_n cx (pc' := 70) 4 rfl dX9_line_69 rfl ?_
          obtain ⟨ht70, hi70, M70, eM70, h⟩ := wI_i h
          refine q_iast cx (pc' := 71) ht70 hi70 eM70 dX9_line_70 rfl ?_
          refine q_iload cx (pc' := 73) 0 rfl dX9_line_71 rfl ?_
          obtain ⟨rfl, rfl⟩ := o2_i h
          rw [hQ]
          exact q_iret cx dX9_line_73
        · replace h := ine c42 h
          refine q_bipush cx (pc' := 47) kb_m3 dX9_line_45 rfl ?_
          obtain ⟨rfl, rfl⟩ := o2_i h
          rw [hQ]
          exact q_iret cx dX9_line_47
      · replace h := ip c28 h
        refine q_bipush cx (pc' := 33) kb_m2 dX9_line_31 rfl ?_
        obtain ⟨rfl, rfl⟩ := o2_i h
        rw [hQ]
        exact q_iret cx dX9_line_33
    · replace h := ip c15 h
      refine q_iconst cx (pc' := 19) ki_m1 dX9_line_18 rfl ?_
      obtain ⟨rfl, rfl⟩ := o2_i h
      rw [hQ]
      exact q_iret cx dX9_line_19

abbrev rm_X9_far : Room := { frames := 2, cells := 0, slots := 0, locals := 62 }
def fn_X9_far (p1 : Int32) (p2 : Int32) : Int32 :=
  if (p1 / 4) = (p2 / 4) then
    (fn_X9_apart (p1 - p1 / 4 * 4) (p2 - p2 / 4 * 4))
  else
    if (p1 - p1 / 4 * 4) = (p2 - p2 / 4 * 4) then
      (fn_X9_apart (p1 / 4) (p2 / 4))
    else
      999
set_option maxRecDepth 100000 in
set_option maxHeartbeats 4000000 in
theorem ct_X9_far (Γ : GT) (l : Launch) (M : QM) (ths : Nat) (p1 : Int32) (p2 : Int32) (ht0 : mt M ths = 9) : CT Γ l yX9_far cX9_far 3 (some .int) rm_X9_far (.ref ths :: [.int p1, .int p2]) M (some (.int (fn_X9_far p1 p2))) M := by
  generalize h : fn_X9_far p1 p2 = z
  refine ct_intro (own := RX9) (L := [(0, .ref ths), (1, .int p1), (2, .int p2)]) (by decide +kernel) rfl (Nat.le_of_ble_eq_true rfl) rfl ?_
  intro p e s m args below meth c Q hQ cx hnm
  unfold fn_X9_far at h
  refine q_iload_n cx (pc' := 1) 1 rfl dX9_far_0 rfl ?_
  refine q_iconst cx (pc' := 2) ki_4 dX9_far_1 rfl ?_
  refine q_idiv cx (pc' := 3) (by decide) dX9_far_2 rfl ?_
  refine q_iload_n cx (pc' := 4) 2 rfl dX9_far_3 rfl ?_
  refine q_iconst cx (pc' := 5) ki_4 dX9_far_4 rfl ?_
  refine q_idiv cx (pc' := 6) (by decide) dX9_far_5 rfl ?_
  refine q_icmp_ne cx (pc' := 9) (tgt := 20) dX9_far_6 (by decide) rfl (fun c6 => ?_) (fun c6 => ?_)
  · replace h := ine c6 h
    refine q_iload_n cx (pc' := 21) 1 rfl dX9_far_20 rfl ?_
    refine q_iconst cx (pc' := 22) ki_4 dX9_far_21 rfl ?_
    refine q_irem cx (pc' := 23) (by decide) dX9_far_22 rfl ?_
    refine q_iload_n cx (pc' := 24) 2 rfl dX9_far_23 rfl ?_
    refine q_iconst cx (pc' := 25) ki_4 dX9_far_24 rfl ?_
    refine q_irem cx (pc' := 26) (by decide) dX9_far_25 rfl ?_
    refine q_icmp_ne cx (pc' := 29) (tgt := 42) dX9_far_26 (by decide) rfl (fun c26 => ?_) (fun c26 => ?_)
    · replace h := ine c26 h
      refine q_sipush cx (pc' := 45) ks_999 dX9_far_42 rfl ?_
      subst h
      rw [hQ]
      exact q_iret cx dX9_far_45
    · replace h := ip c26 h
      refine q_aload_n cx (pc' := 30) 0 rfl dX9_far_29 rfl ?_
      refine q_iload_n cx (pc' := 31) 1 rfl dX9_far_30 rfl ?_
      refine q_iconst cx (pc' := 32) ki_4 dX9_far_31 rfl ?_
      refine q_idiv cx (pc' := 33) (by decide) dX9_far_32 rfl ?_
      refine q_iload_n cx (pc' := 34) 2 rfl dX9_far_33 rfl ?_
      refine q_iconst cx (pc' := 35) ki_4 dX9_far_34 rfl ?_
      refine q_idiv cx (pc' := 36) (by decide) dX9_far_35 rfl ?_
      refine q_callV cx (pc' := 39) (S := []) (S1 := [.int (fn_X9_apart (p1 / 4) (p2 / 4))]) (kc' := 0) (ks' := 0) 9 (ct_X9_apart Γ l M ths (p1 / 4) (p2 / 4) ht0) lki_X9_apart lkv_X9_apart lkc_X9_238 ht0 (r := (RX9, TX9, 70)) ⟨rfl, by decide, rfl⟩ rfl rfl (Nat.le_of_ble_eq_true rfl) ⟨(Nat.le_of_ble_eq_true rfl), (Nat.le_of_ble_eq_true rfl)⟩ ⟨(Nat.le_of_ble_eq_true rfl), (Nat.le_of_ble_eq_true rfl)⟩ dX9_far_36 rfl rfl rfl ?_
      refine q_goto cx dX9_far_39 (tgt := 45) (by decide) ?_
      subst h
      rw [hQ]
      exact q_iret cx dX9_far_45
  · replace h := ip c6 h
    refine q_aload_n cx (pc' := 10) 0 rfl dX9_far_9 rfl ?_
    refine q_iload_n cx (pc' := 11) 1 rfl dX9_far_10 rfl ?_
    refine q_iconst cx (pc' := 12) ki_4 dX9_far_11 rfl ?_
    refine q_irem cx (pc' := 13) (by decide) dX9_far_12 rfl ?_
    refine q_iload_n cx (pc' := 14) 2 rfl dX9_far_13 rfl ?_
    refine q_iconst cx (pc' := 15) ki_4 dX9_far_14 rfl ?_
    refine q_irem cx (pc' := 16) (by decide) dX9_far_15 rfl ?_
    refine q_callV cx (pc' := 19) (S := []) (S1 := [.int (fn_X9_apart (p1 - p1 / 4 * 4) (p2 - p2 / 4 * 4))]) (kc' := 0) (ks' := 0) 9 (ct_X9_apart Γ l M ths (p1 - p1 / 4 * 4) (p2 - p2 / 4 * 4) ht0) lki_X9_apart lkv_X9_apart lkc_X9_238 ht0 (r := (RX9, TX9, 70)) ⟨rfl, by decide, rfl⟩ rfl rfl (Nat.le_of_ble_eq_true rfl) ⟨(Nat.le_of_ble_eq_true rfl), (Nat.le_of_ble_eq_true rfl)⟩ ⟨(Nat.le_of_ble_eq_true rfl), (Nat.le_of_ble_eq_true rfl)⟩ dX9_far_16 rfl rfl rfl ?_
    subst h
    rw [hQ]
    exact q_iret cx dX9_far_19

abbrev rm_X9_isNext : Room := { frames := 3, cells := 0, slots := 0, locals := 84 }
def fn_X9_isNext (p1 : Int32) (p2 : Int32) : Int32 :=
  if (fn_X9_far p1 p2) = 1 then
    1
  else
    0
set_option maxRecDepth 100000 in
set_option maxHeartbeats 4000000 in
theorem ct_X9_isNext (Γ : GT) (l : Launch) (M : QM) (ths : Nat) (p1 : Int32) (p2 : Int32) (ht0 : mt M ths = 9) : CT Γ l yX9_isNext cX9_isNext 3 (some .boolean) rm_X9_isNext (.ref ths :: [.int p1, .int p2]) M (some (.int (fn_X9_isNext p1 p2))) M := by
  generalize h : fn_X9_isNext p1 p2 = z
  refine ct_intro (own := RX9) (L := [(0, .ref ths), (1, .int p1), (2, .int p2)]) (by decide +kernel) rfl (Nat.le_of_ble_eq_true rfl) rfl ?_
  intro p e s m args below meth c Q hQ cx hnm
  unfold fn_X9_isNext at h
  refine q_aload_n cx (pc' := 1) 0 rfl dX9_isNext_0 rfl ?_
  refine q_iload_n cx (pc' := 2) 1 rfl dX9_isNext_1 rfl ?_
  refine q_iload_n cx (pc' := 3) 2 rfl dX9_isNext_2 rfl ?_
  refine q_callV cx (pc' := 6) (S := []) (S1 := [.int (fn_X9_far p1 p2)]) (kc' := 0) (ks' := 0) 9 (ct_X9_far Γ l M ths p1 p2 ht0) lki_X9_far lkv_X9_far lkc_X9_242 ht0 (r := (RX9, TX9, 70)) ⟨rfl, by decide, rfl⟩ rfl rfl (Nat.le_of_ble_eq_true rfl) ⟨(Nat.le_of_ble_eq_true rfl), (Nat.le_of_ble_eq_true rfl)⟩ ⟨(Nat.le_of_ble_eq_true rfl), (Nat.le_of_ble_eq_true rfl)⟩ dX9_isNext_3 rfl rfl rfl ?_
  refine q_iconst cx (pc' := 7) ki_1 dX9_isNext_6 rfl ?_
  refine q_icmp_ne cx (pc' := 10) (tgt := 14) dX9_isNext_7 (by decide) rfl (fun c7 => ?_) (fun c7 => ?_)
  · replace h := ine c7 h
    refine q_iconst cx (pc' := 15) ki_0 dX9_isNext_14 rfl ?_
    subst h
    rw [hQ]
    exact q_nret cx rfl dX9_isNext_15
  · replace h := ip c7 h
    refine q_iconst cx (pc' := 11) ki_1 dX9_isNext_10 rfl ?_
    refine q_goto cx dX9_isNext_11 (tgt := 15) (by decide) ?_
    subst h
    rw [hQ]
    exact q_nret cx rfl dX9_isNext_15

abbrev rm_X9_stirs : Room := { frames := 1, cells := 0, slots := 0, locals := 40 }
def fn_X9_stirs (M : QM) (ths : Nat) (p1 : Int32) (p2 : Int32) : Option QM :=
  gR M ths 9 2 fun r1 =>
  aI M 20 r1 p1 fun x5 =>
  gR M ths 9 2 fun r8 =>
  gR M ths 9 2 fun r13 =>
  aI M 20 r13 p2 fun x17 =>
  wI M 20 r8 p1 x17 fun M18 =>
  gR M18 ths 9 2 fun r20 =>
  wI M18 20 r20 p2 x5 fun M25 =>
  some M25
set_option maxRecDepth 100000 in
set_option maxHeartbeats 4000000 in
theorem ct_X9_stirs (Γ : GT) (l : Launch) (M : QM) (ths : Nat) (p1 : Int32) (p2 : Int32) (ht0 : mt M ths = 9) (M' : QM) (h : fn_X9_stirs M ths p1 p2 = some M') : CT Γ l yX9_stirs cX9_stirs 4 none rm_X9_stirs (.ref ths :: [.int p1, .int p2]) M none M' := by
  refine ct_intro (own := RX9) (L := [(0, .ref ths), (1, .int p1), (2, .int p2)]) (by decide +kernel) rfl (Nat.le_of_ble_eq_true rfl) rfl ?_
  intro p e s m args below meth c Q hQ cx hnm
  unfold fn_X9_stirs at h
  refine q_aload_n cx (pc' := 1) 0 rfl dX9_stirs_0 rfl ?_
  obtain ⟨ht1, r1, ex1, h⟩ := gR_i h
  refine q_gR cx (pc' := 4) 9 2 fl_X9_16 rfl ht1 ex1 dX9_stirs_1 rfl ?_
  refine q_iload_n cx (pc' := 5) 1 rfl dX9_stirs_4 rfl ?_
  obtain ⟨ht5, hi5, x5, ex5, h⟩ := aI_i h
  refine q_iald cx (pc' := 6) ht5 hi5 ex5 dX9_stirs_5 rfl ?_
  refine q_istore_n cx (pc' := 7) rfl rfl (by decide) (L' := [(3, .int x5), (0, .ref ths), (1, .int p1), (2, .int p2)]) rfl dX9_stirs_6 rfl ?_
  refine q_aload_n cx (pc' := 8) 1 rfl dX9_stirs_7 rfl ?_
  obtain ⟨ht8, r8, ex8, h⟩ := gR_i h
  refine q_gR cx (pc' := 11) 9 2 fl_X9_16 rfl ht8 ex8 dX9_stirs_8 rfl ?_
  refine q_iload_n cx (pc' := 12) 2 rfl dX9_stirs_11 rfl ?_
  refine q_aload_n cx (pc' := 13) 1 rfl dX9_stirs_12 rfl ?_
  obtain ⟨ht13, r13, ex13, h⟩ := gR_i h
  refine q_gR cx (pc' := 16) 9 2 fl_X9_16 rfl ht13 ex13 dX9_stirs_13 rfl ?_
  refine q_iload_n cx (pc' := 17) 3 rfl dX9_stirs_16 rfl ?_
  obtain ⟨ht17, hi17, x17, ex17, h⟩ := aI_i h
  refine q_iald cx (pc' := 18) ht17 hi17 ex17 dX9_stirs_17 rfl ?_
  obtain ⟨ht18, hi18, M18, eM18, h⟩ := wI_i h
  refine q_iast cx (pc' := 19) ht18 hi18 eM18 dX9_stirs_18 rfl ?_
  refine q_aload_n cx (pc' := 20) 1 rfl dX9_stirs_19 rfl ?_
  obtain ⟨ht20, r20, ex20, h⟩ := gR_i h
  refine q_gR cx (pc' := 23) 9 2 fl_X9_16 rfl ht20 ex20 dX9_stirs_20 rfl ?_
  refine q_iload_n cx (pc' := 24) 3 rfl dX9_stirs_23 rfl ?_
  refine q_iload_n cx (pc' := 25) 0 rfl dX9_stirs_24 rfl ?_
  obtain ⟨ht25, hi25, M25, eM25, h⟩ := wI_i h
  refine q_iast cx (pc' := 26) ht25 hi25 eM25 dX9_stirs_25 rfl ?_
  obtain rfl := o1_i h
  rw [hQ]
  exact q_vret cx dX9_stirs_26

abbrev rm_X9_stir : Room := { frames := 4, cells := 0, slots := 0, locals := 106 }
def fn_X9_stir (M : QM) (ths : Nat) (p1 : Int32) (p2 : Int32) : Option (Int32 × QM) :=
  if (fn_X9_isCell p1) = 0 then
    some ((-1), M)
  else
    if (fn_X9_isCell p2) = 0 then
      some ((-1), M)
    else
      if (fn_X9_isNext p1 p2) = 0 then
        some ((-2), M)
      else
        bnd (fn_X9_stirs M ths p1 p2) fun M33 =>
        gR M33 ths 9 2 fun r37 =>
        aI M33 20 r37 p1 fun x41 =>
        some (x41, M33)
set_option maxRecDepth 100000 in
set_option maxHeartbeats 4000000 in
theorem ct_X9_stir (Γ : GT) (l : Launch) (M : QM) (ths : Nat) (p1 : Int32) (p2 : Int32) (ht0 : mt M ths = 9) (z : Int32) (M' : QM) (h : fn_X9_stir M ths p1 p2 = some (z, M')) : CT Γ l yX9_stir cX9_stir 3 (some .int) rm_X9_stir (.ref ths :: [.int p1, .int p2]) M (some (.int z)) M' := by
  refine ct_intro (own := RX9) (L := [(0, .ref ths), (1, .int p1), (2, .int p2)]) (by decide +kernel) rfl (Nat.le_of_ble_eq_true rfl) rfl ?_
  intro p e s m args below meth c Q hQ cx hnm
  unfold fn_X9_stir at h
  refine q_aload_n cx (pc' := 1) 0 rfl dX9_stir_0 rfl ?_
  refine q_iload_n cx (pc' := 2) 1 rfl dX9_stir_1 rfl ?_
  refine q_callV cx (pc' := 5) (S := []) (S1 := [.int (fn_X9_isCell p1)]) (kc' := 0) (ks' := 0) 9 (ct_X9_isCell Γ l M ths p1 ht0) lki_X9_isCell lkv_X9_isCell lkc_X9_232 ht0 (r := (RX9, TX9, 70)) ⟨rfl, by decide, rfl⟩ rfl rfl (Nat.le_of_ble_eq_true rfl) ⟨(Nat.le_of_ble_eq_true rfl), (Nat.le_of_ble_eq_true rfl)⟩ ⟨(Nat.le_of_ble_eq_true rfl), (Nat.le_of_ble_eq_true rfl)⟩ dX9_stir_2 rfl rfl rfl ?_
  refine q_if_eq cx (pc' := 8) (tgt := 16) dX9_stir_5 (by decide) rfl (fun c5 => ?_) (fun c5 => ?_)
  · replace h := ip c5 h
    refine q_iconst cx (pc' := 17) ki_m1 dX9_stir_16 rfl ?_
    obtain ⟨rfl, rfl⟩ := o2_i h
    rw [hQ]
    exact q_iret cx dX9_stir_17
  · replace h := ine c5 h
    refine q_aload_n cx (pc' := 9) 0 rfl dX9_stir_8 rfl ?_
    refine q_iload_n cx (pc' := 10) 2 rfl dX9_stir_9 rfl ?_
    refine q_callV cx (pc' := 13) (S := []) (S1 := [.int (fn_X9_isCell p2)]) (kc' := 0) (ks' := 0) 9 (ct_X9_isCell Γ l M ths p2 ht0) lki_X9_isCell lkv_X9_isCell lkc_X9_232 ht0 (r := (RX9, TX9, 70)) ⟨rfl, by decide, rfl⟩ rfl rfl (Nat.le_of_ble_eq_true rfl) ⟨(Nat.le_of_ble_eq_true rfl), (Nat.le_of_ble_eq_true rfl)⟩ ⟨(Nat.le_of_ble_eq_true rfl), (Nat.le_of_ble_eq_true rfl)⟩ dX9_stir_10 rfl rfl rfl ?_
    refine q_if_ne cx (pc' := 16) (tgt := 18) dX9_stir_13 (by decide) rfl (fun c13 => ?_) (fun c13 => ?_)
    · replace h := ine c13 h
      refine q_aload_n cx (pc' := 19) 0 rfl dX9_stir_18 rfl ?_
      refine q_iload_n cx (pc' := 20) 1 rfl dX9_stir_19 rfl ?_
      refine q_iload_n cx (pc' := 21) 2 rfl dX9_stir_20 rfl ?_
      refine q_callV cx (pc' := 24) (S := []) (S1 := [.int (fn_X9_isNext p1 p2)]) (kc' := 0) (ks' := 0) 9 (ct_X9_isNext Γ l M ths p1 p2 ht0) lki_X9_isNext lkv_X9_isNext lkc_X9_245 ht0 (r := (RX9, TX9, 70)) ⟨rfl, by decide, rfl⟩ rfl rfl (Nat.le_of_ble_eq_true rfl) ⟨(Nat.le_of_ble_eq_true rfl), (Nat.le_of_ble_eq_true rfl)⟩ ⟨(Nat.le_of_ble_eq_true rfl), (Nat.le_of_ble_eq_true rfl)⟩ dX9_stir_21 rfl rfl rfl ?_
      refine q_if_ne cx (pc' := 27) (tgt := 30) dX9_stir_24 (by decide) rfl (fun c24 => ?_) (fun c24 => ?_)
      · replace h := ine c24 h
        refine q_aload_n cx (pc' := 31) 0 rfl dX9_stir_30 rfl ?_
        refine q_iload_n cx (pc' := 32) 1 rfl dX9_stir_31 rfl ?_
        refine q_iload_n cx (pc' := 33) 2 rfl dX9_stir_32 rfl ?_
        obtain ⟨M33, hc33, h⟩ := bnd_i h
        refine q_callV cx (pc' := 36) (S := []) (S1 := []) (kc' := 0) (ks' := 0) 9 (ct_X9_stirs Γ l M ths p1 p2 ht0 _ hc33) lki_X9_stirs lkv_X9_stirs lkc_X9_249 ht0 (r := (RX9, TX9, 70)) ⟨rfl, by decide, rfl⟩ rfl rfl (Nat.le_of_ble_eq_true rfl) ⟨(Nat.le_of_ble_eq_true rfl), (Nat.le_of_ble_eq_true rfl)⟩ ⟨(Nat.le_of_ble_eq_true rfl), (Nat.le_of_ble_eq_true rfl)⟩ dX9_stir_33 rfl rfl rfl ?_
        refine q_aload_n cx (pc' := 37) 0 rfl dX9_stir_36 rfl ?_
        obtain ⟨ht37, r37, ex37, h⟩ := gR_i h
        refine q_gR cx (pc' := 40) 9 2 fl_X9_16 rfl ht37 ex37 dX9_stir_37 rfl ?_
        refine q_iload_n cx (pc' := 41) 1 rfl dX9_stir_40 rfl ?_
        obtain ⟨ht41, hi41, x41, ex41, h⟩ := aI_i h
        refine q_iald cx (pc' := 42) ht41 hi41 ex41 dX9_stir_41 rfl ?_
        obtain ⟨rfl, rfl⟩ := o2_i h
        rw [hQ]
        exact q_iret cx dX9_stir_42
      · replace h := ip c24 h
        refine q_bipush cx (pc' := 29) kb_m2 dX9_stir_27 rfl ?_
        obtain ⟨rfl, rfl⟩ := o2_i h
        rw [hQ]
        exact q_iret cx dX9_stir_29
    · replace h := ip c13 h
      refine q_iconst cx (pc' := 17) ki_m1 dX9_stir_16 rfl ?_
      obtain ⟨rfl, rfl⟩ := o2_i h
      rw [hQ]
      exact q_iret cx dX9_stir_17

abbrev rm_X9_feed : Room := { frames := 2, cells := 0, slots := 0, locals := 63 }
def fn_X9_feed (M : QM) (ths : Nat) (p1 : Int32) : Option (Int32 × QM) :=
  if (fn_X9_in p1 0 127) = 0 then
    some ((-2), M)
  else
    gI M ths 9 9 fun x15 =>
    if x15 = 100 then
      some ((-4), M)
    else
      gR M ths 9 12 fun r27 =>
      gI M ths 9 9 fun x31 =>
      wI M 20 r27 x31 p1 fun M35 =>
      gI M35 ths 9 9 fun x38 =>
      pI M35 ths 9 9 (x38 + 1) fun M43 =>
      gI M43 ths 9 9 fun x47 =>
      some (x47, M43)
set_option maxRecDepth 100000 in
set_option maxHeartbeats 4000000 in
theorem ct_X9_feed (Γ : GT) (l : Launch) (M : QM) (ths : Nat) (p1 : Int32) (ht0 : mt M ths = 9) (z : Int32) (M' : QM) (h : fn_X9_feed M ths p1 = some (z, M')) : CT Γ l yX9_feed cX9_feed 2 (some .int) rm_X9_feed (.ref ths :: [.int p1]) M (some (.int z)) M' := by
  refine ct_intro (own := RX9) (L := [(0, .ref ths), (1, .int p1)]) (by decide +kernel) rfl (Nat.le_of_ble_eq_true rfl) rfl ?_
  intro p e s m args below meth c Q hQ cx hnm
  unfold fn_X9_feed at h
  refine q_aload_n cx (pc' := 1) 0 rfl dX9_feed_0 rfl ?_
  refine q_iload_n cx (pc' := 2) 1 rfl dX9_feed_1 rfl ?_
  refine q_iconst cx (pc' := 3) ki_0 dX9_feed_2 rfl ?_
  refine q_bipush cx (pc' := 5) kb_127 dX9_feed_3 rfl ?_
  refine q_callV cx (pc' := 8) (S := []) (S1 := [.int (fn_X9_in p1 0 127)]) (kc' := 0) (ks' := 0) 9 (ct_X9_in Γ l M ths p1 0 127 ht0) lki_X9_in lkv_X9_in lkc_X9_224 ht0 (r := (RX9, TX9, 70)) ⟨rfl, by decide, rfl⟩ rfl rfl (Nat.le_of_ble_eq_true rfl) ⟨(Nat.le_of_ble_eq_true rfl), (Nat.le_of_ble_eq_true rfl)⟩ ⟨(Nat.le_of_ble_eq_true rfl), (Nat.le_of_ble_eq_true rfl)⟩ dX9_feed_5 rfl rfl rfl ?_
  refine q_if_ne cx (pc' := 11) (tgt := 14) dX9_feed_8 (by decide) rfl (fun c8 => ?_) (fun c8 => ?_)
  · replace h := ine c8 h
    refine q_aload_n cx (pc' := 15) 0 rfl dX9_feed_14 rfl ?_
    obtain ⟨ht15, x15, ex15, h⟩ := gI_i h
    refine q_gI cx (pc' := 18) 9 9 fl_X9_38 rfl ht15 ex15 dX9_feed_15 rfl ?_
    refine q_bipush cx (pc' := 20) kb_100 dX9_feed_18 rfl ?_
    refine q_icmp_ne cx (pc' := 23) (tgt := 26) dX9_feed_20 (by decide) rfl (fun c20 => ?_) (fun c20 => ?_)
    · replace h := ine c20 h
      refine q_aload_n cx (pc' := 27) 0 rfl dX9_feed_26 rfl ?_
      obtain ⟨ht27, r27, ex27, h⟩ := gR_i h
      refine q_gR cx (pc' := 30) 9 12 fl_X9_47 rfl ht27 ex27 dX9_feed_27 rfl ?_
      refine q_aload_n cx (pc' := 31) 0 rfl dX9_feed_30 rfl ?_
      obtain ⟨ht31, x31, ex31, h⟩ := gI_i h
      refine q_gI cx (pc' := 34) 9 9 fl_X9_38 rfl ht31 ex31 dX9_feed_31 rfl ?_
      refine q_iload_n cx (pc' := 35) 1 rfl dX9_feed_34 rfl ?_
      obtain ⟨ht35, hi35, M35, eM35, h⟩ := wI_i h
      refine q_iast cx (pc' := 36) ht35 hi35 eM35 dX9_feed_35 rfl ?_
      refine q_aload_n cx (pc' := 37) 0 rfl dX9_feed_36 rfl ?_
      refine q_dup cx (pc' := 38) rfl dX9_feed_37 rfl ?_
      obtain ⟨ht38, x38, ex38, h⟩ := gI_i h
      refine q_gI cx (pc' := 41) 9 9 fl_X9_38 rfl ht38 ex38 dX9_feed_38 rfl ?_
      refine q_iconst cx (pc' := 42) ki_1 dX9_feed_41 rfl ?_
      refine q_iadd cx (pc' := 43) dX9_feed_42 rfl ?_
      obtain ⟨ht43, M43, eM43, h⟩ := pI_i h
      refine q_pI cx (pc' := 46) 9 9 fl_X9_38 rfl ht43 (ty := .int) ⟨(RX9, TX9, 70), rfl, by decide +kernel, Or.inl rfl⟩ rfl rfl eM43 dX9_feed_43 rfl ?_
      refine q_aload_n cx (pc' := 47) 0 rfl dX9_feed_46 rfl ?_
      obtain ⟨ht47, x47, ex47, h⟩ := gI_i h
      refine q_gI cx (pc' := 50) 9 9 fl_X9_38 rfl ht47 ex47 dX9_feed_47 rfl ?_
      obtain ⟨rfl, rfl⟩ := o2_i h
      rw [hQ]
      exact q_iret cx dX9_feed_50
    · replace h := ip c20 h
      refine q_bipush cx (pc' := 25) kb_m4 dX9_feed_23 rfl ?_
      obtain ⟨rfl, rfl⟩ := o2_i h
      rw [hQ]
      exact q_iret cx dX9_feed_25
  · replace h := ip c8 h
    refine q_bipush cx (pc' := 13) kb_m2 dX9_feed_11 rfl ?_
    obtain ⟨rfl, rfl⟩ := o2_i h
    rw [hQ]
    exact q_iret cx dX9_feed_13

abbrev rm_X9_next : Room := { frames := 1, cells := 0, slots := 0, locals := 40 }
def fn_X9_next (M : QM) (ths : Nat) : Option Int32 :=
  gI M ths 9 10 fun x1 =>
  gI M ths 9 9 fun x5 =>
  if x5 ≤ x1 then
    some (-1)
  else
    gR M ths 9 12 fun r12 =>
    gI M ths 9 10 fun x16 =>
    aI M 20 r12 x16 fun x19 =>
    some x19
set_option maxRecDepth 100000 in
set_option maxHeartbeats 4000000 in
theorem ct_X9_next (Γ : GT) (l : Launch) (M : QM) (ths : Nat) (ht0 : mt M ths = 9) (z : Int32) (h : fn_X9_next M ths = some z) : CT Γ l yX9_next cX9_next 1 (some .int) rm_X9_next (.ref ths :: []) M (some (.int z)) M := by
  refine ct_intro (own := RX9) (L := [(0, .ref ths)]) (by decide +kernel) rfl (Nat.le_of_ble_eq_true rfl) rfl ?_
  intro p e s m args below meth c Q hQ cx hnm
  unfold fn_X9_next at h
  refine q_aload_n cx (pc' := 1) 0 rfl dX9_next_0 rfl ?_
  obtain ⟨ht1, x1, ex1, h⟩ := gI_i h
  refine q_gI cx (pc' := 4) 9 10 fl_X9_41 rfl ht1 ex1 dX9_next_1 rfl ?_
  refine q_aload_n cx (pc' := 5) 0 rfl dX9_next_4 rfl ?_
  obtain ⟨ht5, x5, ex5, h⟩ := gI_i h
  refine q_gI cx (pc' := 8) 9 9 fl_X9_38 rfl ht5 ex5 dX9_next_5 rfl ?_
  refine q_icmp_ge cx (pc' := 11) (tgt := 23) dX9_next_8 (by decide) rfl (fun c8 => ?_) (fun c8 => ?_)
  · replace h := ip c8 h
    refine q_iconst cx (pc' := 24) ki_m1 dX9_next_23 rfl ?_
    obtain rfl := o1_i h
    rw [hQ]
    exact q_iret cx dX9_next_24
  · replace h := ine c8 h
    refine q_aload_n cx (pc' := 12) 0 rfl dX9_next_11 rfl ?_
    obtain ⟨ht12, r12, ex12, h⟩ := gR_i h
    refine q_gR cx (pc' := 15) 9 12 fl_X9_47 rfl ht12 ex12 dX9_next_12 rfl ?_
    refine q_aload_n cx (pc' := 16) 0 rfl dX9_next_15 rfl ?_
    obtain ⟨ht16, x16, ex16, h⟩ := gI_i h
    refine q_gI cx (pc' := 19) 9 10 fl_X9_41 rfl ht16 ex16 dX9_next_16 rfl ?_
    obtain ⟨ht19, hi19, x19, ex19, h⟩ := aI_i h
    refine q_iald cx (pc' := 20) ht19 hi19 ex19 dX9_next_19 rfl ?_
    refine q_goto cx dX9_next_20 (tgt := 24) (by decide) ?_
    obtain rfl := o1_i h
    rw [hQ]
    exact q_iret cx dX9_next_24

abbrev rm_X9_takes : Room := { frames := 2, cells := 0, slots := 0, locals := 60 }
def fn_X9_takes (M : QM) (ths : Nat) (p1 : Int32) : Option (Int32 × QM) :=
  bnd (fn_X9_next M ths) fun c1 =>
  if c1 = p1 then
    gI M ths 9 10 fun x12 =>
    pI M ths 9 10 (x12 + 1) fun M17 =>
    some (1, M17)
  else
    some (0, M)
set_option maxRecDepth 100000 in
set_option maxHeartbeats 4000000 in
theorem ct_X9_takes (Γ : GT) (l : Launch) (M : QM) (ths : Nat) (p1 : Int32) (ht0 : mt M ths = 9) (z : Int32) (M' : QM) (h : fn_X9_takes M ths p1 = some (z, M')) : CT Γ l yX9_takes cX9_takes 2 (some .boolean) rm_X9_takes (.ref ths :: [.int p1]) M (some (.int z)) M' := by
  refine ct_intro (own := RX9) (L := [(0, .ref ths), (1, .int p1)]) (by decide +kernel) rfl (Nat.le_of_ble_eq_true rfl) rfl ?_
  intro p e s m args below meth c Q hQ cx hnm
  unfold fn_X9_takes at h
  refine q_aload_n cx (pc' := 1) 0 rfl dX9_takes_0 rfl ?_
  obtain ⟨c1, hc1, h⟩ := bnd_i h
  refine q_callV cx (pc' := 4) (S := []) (S1 := [.int c1]) (kc' := 0) (ks' := 0) 9 (ct_X9_next Γ l M ths ht0 _ hc1) lki_X9_next lkv_X9_next lkc_X9_253 ht0 (r := (RX9, TX9, 70)) ⟨rfl, by decide, rfl⟩ rfl rfl (Nat.le_of_ble_eq_true rfl) ⟨(Nat.le_of_ble_eq_true rfl), (Nat.le_of_ble_eq_true rfl)⟩ ⟨(Nat.le_of_ble_eq_true rfl), (Nat.le_of_ble_eq_true rfl)⟩ dX9_takes_1 rfl rfl rfl ?_
  refine q_iload_n cx (pc' := 5) 1 rfl dX9_takes_4 rfl ?_
  refine q_icmp_eq cx (pc' := 8) (tgt := 10) dX9_takes_5 (by decide) rfl (fun c5 => ?_) (fun c5 => ?_)
  · replace h := ip c5 h
    refine q_aload_n cx (pc' := 11) 0 rfl dX9_takes_10 rfl ?_
    refine q_dup cx (pc' := 12) rfl dX9_takes_11 rfl ?_
    obtain ⟨ht12, x12, ex12, h⟩ := gI_i h
    refine q_gI cx (pc' := 15) 9 10 fl_X9_41 rfl ht12 ex12 dX9_takes_12 rfl ?_
    refine q_iconst cx (pc' := 16) ki_1 dX9_takes_15 rfl ?_
    refine q_iadd cx (pc' := 17) dX9_takes_16 rfl ?_
    obtain ⟨ht17, M17, eM17, h⟩ := pI_i h
    refine q_pI cx (pc' := 20) 9 10 fl_X9_41 rfl ht17 (ty := .int) ⟨(RX9, TX9, 70), rfl, by decide +kernel, Or.inl rfl⟩ rfl rfl eM17 dX9_takes_17 rfl ?_
    refine q_iconst cx (pc' := 21) ki_1 dX9_takes_20 rfl ?_
    obtain ⟨rfl, rfl⟩ := o2_i h
    rw [hQ]
    exact q_nret cx rfl dX9_takes_21
  · replace h := ine c5 h
    refine q_iconst cx (pc' := 9) ki_0 dX9_takes_8 rfl ?_
    obtain ⟨rfl, rfl⟩ := o2_i h
    rw [hQ]
    exact q_nret cx rfl dX9_takes_9

abbrev rm_X9_takesWord : Room := { frames := 3, cells := 0, slots := 0, locals := 81 }
def lp_X9_takesWord_2 (ths : Nat) (p1 : Int32) (p2 : Int32) (w3_2 : Int32) (Mw_2 : QM) : Option ((Int32 × QM) ⊕ ((QM) ⊕ (Int32 × QM))) :=
  if p2 ≤ w3_2 then
    some (.inr (.inl Mw_2))
  else
    gR Mw_2 ths 9 23 fun r9 =>
    aI Mw_2 20 r9 (p1 + w3_2) fun x15 =>
    ck Mw_2 ths 9 <|
    bnd (fn_X9_takes Mw_2 ths x15) fun y16 =>
    pr2 y16 fun c16 M16 =>
    if c16 = 0 then
      some (.inr (.inr (0, M16)))
    else
      nm (w3_2 + 1) fun v3_24 =>
      some (.inl (v3_24, M16))
def fn_X9_takesWord (M : QM) (ths : Nat) (p1 : Int32) (p2 : Int32) : Option (Int32 × QM) :=
  bnd (itr (fun s2 : Int32 × QM => lp_X9_takesWord_2 ths p1 p2 s2.1 s2.2) FU (0, M)) fun r2 =>
  sm r2 (fun q2_0 =>
    nm q2_0 fun Me_2_0 =>
    ck Me_2_0 ths 9 <|
    bnd (fn_X9_takes Me_2_0 ths 32) fun y33 =>
    pr2 y33 fun c33 M33 =>
    some (zb c33, M33)) fun t2_0 =>
  pr2 t2_0 fun re_2 Mr_2 =>
  some (re_2, Mr_2)
set_option maxRecDepth 100000 in
set_option maxHeartbeats 4000000 in
theorem ct_X9_takesWord (Γ : GT) (l : Launch) (M : QM) (ths : Nat) (p1 : Int32) (p2 : Int32) (ht0 : mt M ths = 9) (z : Int32) (M' : QM) (h : fn_X9_takesWord M ths p1 p2 = some (z, M')) : CT Γ l yX9_takesWord cX9_takesWord 4 (some .boolean) rm_X9_takesWord (.ref ths :: [.int p1, .int p2]) M (some (.int z)) M' := by
  refine ct_intro (own := RX9) (L := [(0, .ref ths), (1, .int p1), (2, .int p2)]) (by decide +kernel) rfl (Nat.le_of_ble_eq_true rfl) rfl ?_
  intro p e s m args below meth c Q hQ cx hnm
  unfold fn_X9_takesWord at h
  refine q_iconst cx (pc' := 1) ki_0 dX9_takesWord_0 rfl ?_
  refine q_istore_n cx (pc' := 2) rfl rfl (by decide) (L' := [(3, .int 0), (0, .ref ths), (1, .int p1), (2, .int p2)]) rfl dX9_takesWord_1 rfl ?_
  obtain ⟨r2, hL2, h⟩ := bnd_i h
  have hk2_0 : ∀ (Me_2_0 : QM), (.inl Me_2_0) = r2 → EE p l e rm_X9_takesWord s m args below meth c Q Γ 4 0 0 30 [(0, .ref ths)] [] Me_2_0 := by
    intro Me_2_0 hp
    subst hp
    replace h := sm_l h
    replace h := nm_t h
    refine q_aload_n cx (pc' := 31) 0 rfl dX9_takesWord_30 rfl ?_
    refine q_bipush cx (pc' := 33) kb_32 dX9_takesWord_31 rfl ?_
    obtain ⟨hk33, h⟩ := ck_i h
    obtain ⟨⟨c33, M33⟩, hc33, h⟩ := bnd_i h
    replace h := pr2_i h
    refine q_callV cx (pc' := 36) (S := []) (S1 := [.int c33]) (kc' := 0) (ks' := 0) 9 (ct_X9_takes Γ l Me_2_0 ths 32 hk33 _ _ hc33) lki_X9_takes lkv_X9_takes lkc_X9_257 hk33 (r := (RX9, TX9, 70)) ⟨rfl, by decide, rfl⟩ rfl rfl (Nat.le_of_ble_eq_true rfl) ⟨(Nat.le_of_ble_eq_true rfl), (Nat.le_of_ble_eq_true rfl)⟩ ⟨(Nat.le_of_ble_eq_true rfl), (Nat.le_of_ble_eq_true rfl)⟩ dX9_takesWord_33 rfl rfl rfl ?_
    obtain ⟨rfl, rfl⟩ := o2_i h
    rw [hQ]
    exact q_nret cx rfl dX9_takesWord_36
  have hk2_r : ∀ (re_2 : Int32) (Mr_2 : QM), (.inr (re_2, Mr_2)) = r2 → some (re_2, Mr_2) = some (z, M') := by
    intro re_2 Mr_2 hp
    subst hp
    replace h := sm_r h
    replace h := pr2_i h
    exact h
  have key2 : ∀ (n : Nat) (w3_2 : Int32) (Mw_2 : QM), itr (fun s2 : Int32 × QM => lp_X9_takesWord_2 ths p1 p2 s2.1 s2.2) n (w3_2, Mw_2) = some r2 → EE p l e rm_X9_takesWord s m args below meth c Q Γ 4 0 0 2 [(0, .ref ths), (1, .int p1), (2, .int p2), (3, .int w3_2)] [] Mw_2 := by
    intro n
    induction n with
    | zero => intro _ _ h; exact (itr_0 h).elim
    | succ n ih =>
      intro w3_2 Mw_2 h
      obtain ⟨z2, h, hz2⟩ := itr_i h
      replace h : lp_X9_takesWord_2 ths p1 p2 w3_2 Mw_2 = some z2 := h
      unfold lp_X9_takesWord_2 at h
      refine q_iload_n cx (pc' := 3) 3 rfl dX9_takesWord_2 rfl ?_
      refine q_iload_n cx (pc' := 4) 2 rfl dX9_takesWord_3 rfl ?_
      refine q_icmp_ge cx (pc' := 7) (tgt := 30) dX9_takesWord_4 (by decide) rfl (fun c4 => ?_) (fun c4 => ?_)
      · replace h := ip c4 h
        refine q_sub cx [0] rfl ?_
        exact hk2_0 _ (hz2.2 _ h)
      · replace h := ine c4 h
        refine q_aload_n cx (pc' := 8) 0 rfl dX9_takesWord_7 rfl ?_
        refine q_aload_n cx (pc' := 9) 0 rfl dX9_takesWord_8 rfl ?_
        obtain ⟨ht9, r9, ex9, h⟩ := gR_i h
        refine q_gR cx (pc' := 12) 9 23 fl_X9_80 rfl ht9 ex9 dX9_takesWord_9 rfl ?_
        refine q_iload_n cx (pc' := 13) 1 rfl dX9_takesWord_12 rfl ?_
        refine q_iload_n cx (pc' := 14) 3 rfl dX9_takesWord_13 rfl ?_
        refine q_iadd cx (pc' := 15) dX9_takesWord_14 rfl ?_
        obtain ⟨ht15, hi15, x15, ex15, h⟩ := aI_i h
        refine q_iald cx (pc' := 16) ht15 hi15 ex15 dX9_takesWord_15 rfl ?_
        obtain ⟨hk16, h⟩ := ck_i h
        obtain ⟨⟨c16, M16⟩, hc16, h⟩ := bnd_i h
        replace h := pr2_i h
        refine q_callV cx (pc' := 19) (S := []) (S1 := [.int c16]) (kc' := 0) (ks' := 0) 9 (ct_X9_takes Γ l Mw_2 ths x15 hk16 _ _ hc16) lki_X9_takes lkv_X9_takes lkc_X9_257 hk16 (r := (RX9, TX9, 70)) ⟨rfl, by decide, rfl⟩ rfl rfl (Nat.le_of_ble_eq_true rfl) ⟨(Nat.le_of_ble_eq_true rfl), (Nat.le_of_ble_eq_true rfl)⟩ ⟨(Nat.le_of_ble_eq_true rfl), (Nat.le_of_ble_eq_true rfl)⟩ dX9_takesWord_16 rfl rfl rfl ?_
        refine q_if_ne cx (pc' := 22) (tgt := 24) dX9_takesWord_19 (by decide) rfl (fun c19 => ?_) (fun c19 => ?_)
        · replace h := ine c19 h
          obtain ⟨v3_24, ev3_24, h⟩ := nm_i h
          refine q_iinc cx (pc' := 27) 3 rfl ki_1 ev3_24 (by decide) (L' := [(3, .int v3_24), (0, .ref ths), (1, .int p1), (2, .int p2)]) rfl dX9_takesWord_24 rfl ?_
          refine q_goto cx dX9_takesWord_27 (tgt := 2) (by decide) ?_
          refine q_sub cx [1, 2, 3, 0] rfl ?_
          exact ih _ _ (hz2.1 _ h)
        · replace h := ip c19 h
          refine q_iconst cx (pc' := 23) ki_0 dX9_takesWord_22 rfl ?_
          replace h := hk2_r _ _ (hz2.2 _ h)
          obtain ⟨rfl, rfl⟩ := o2_i h
          rw [hQ]
          exact q_nret cx rfl dX9_takesWord_23
  refine q_sub cx [1, 2, 3, 0] rfl ?_
  exact key2 FU _ _ hL2

abbrev rm_X9_isDigit : Room := { frames := 2, cells := 0, slots := 0, locals := 63 }
def fn_X9_isDigit (M : QM) (ths : Nat) : Option Int32 :=
  bnd (fn_X9_next M ths) fun c2 =>
  some (zb (fn_X9_in c2 48 57))
set_option maxRecDepth 100000 in
set_option maxHeartbeats 4000000 in
theorem ct_X9_isDigit (Γ : GT) (l : Launch) (M : QM) (ths : Nat) (ht0 : mt M ths = 9) (z : Int32) (h : fn_X9_isDigit M ths = some z) : CT Γ l yX9_isDigit cX9_isDigit 1 (some .boolean) rm_X9_isDigit (.ref ths :: []) M (some (.int z)) M := by
  refine ct_intro (own := RX9) (L := [(0, .ref ths)]) (by decide +kernel) rfl (Nat.le_of_ble_eq_true rfl) rfl ?_
  intro p e s m args below meth c Q hQ cx hnm
  unfold fn_X9_isDigit at h
  refine q_aload_n cx (pc' := 1) 0 rfl dX9_isDigit_0 rfl ?_
  refine q_aload_n cx (pc' := 2) 0 rfl dX9_isDigit_1 rfl ?_
  obtain ⟨c2, hc2, h⟩ := bnd_i h
  refine q_callV cx (pc' := 5) (S := [.ref ths]) (S1 := [.int c2, .ref ths]) (kc' := 0) (ks' := 0) 9 (ct_X9_next Γ l M ths ht0 _ hc2) lki_X9_next lkv_X9_next lkc_X9_253 ht0 (r := (RX9, TX9, 70)) ⟨rfl, by decide, rfl⟩ rfl rfl (Nat.le_of_ble_eq_true rfl) ⟨(Nat.le_of_ble_eq_true rfl), (Nat.le_of_ble_eq_true rfl)⟩ ⟨(Nat.le_of_ble_eq_true rfl), (Nat.le_of_ble_eq_true rfl)⟩ dX9_isDigit_2 rfl rfl rfl ?_
  refine q_bipush cx (pc' := 7) kb_48 dX9_isDigit_5 rfl ?_
  refine q_bipush cx (pc' := 9) kb_57 dX9_isDigit_7 rfl ?_
  refine q_callV cx (pc' := 12) (S := []) (S1 := [.int (fn_X9_in c2 48 57)]) (kc' := 0) (ks' := 0) 9 (ct_X9_in Γ l M ths c2 48 57 ht0) lki_X9_in lkv_X9_in lkc_X9_224 ht0 (r := (RX9, TX9, 70)) ⟨rfl, by decide, rfl⟩ rfl rfl (Nat.le_of_ble_eq_true rfl) ⟨(Nat.le_of_ble_eq_true rfl), (Nat.le_of_ble_eq_true rfl)⟩ ⟨(Nat.le_of_ble_eq_true rfl), (Nat.le_of_ble_eq_true rfl)⟩ dX9_isDigit_9 rfl rfl rfl ?_
  obtain rfl := o1_i h
  rw [hQ]
  exact q_nret cx rfl dX9_isDigit_12

abbrev rm_X9_takesNumber : Room := { frames := 3, cells := 0, slots := 0, locals := 83 }
def lp_X9_takesNumber_16 (ths : Nat) (w1_16 : Int32) (Mw_16 : QM) : Option ((Int32 × QM) ⊕ (Int32 × QM)) :=
  if 2 ≤ w1_16 then
    some (.inr (1, Mw_16))
  else
    ck Mw_16 ths 9 <|
    bnd (fn_X9_isDigit Mw_16 ths) fun c22 =>
    if c22 = 0 then
      some (.inr (1, Mw_16))
    else
      gI Mw_16 ths 9 11 fun x32 =>
      ck Mw_16 ths 9 <|
      bnd (fn_X9_next Mw_16 ths) fun c37 =>
      pI Mw_16 ths 9 11 (((10 * x32) + c37) - 48) fun M44 =>
      gI M44 ths 9 10 fun x49 =>
      pI M44 ths 9 10 (x49 + 1) fun M54 =>
      nm (w1_16 + 1) fun v1_57 =>
      some (.inl (v1_57, M54))
def fn_X9_takesNumber (M : QM) (ths : Nat) : Option (Int32 × QM) :=
  bnd (fn_X9_isDigit M ths) fun c1 =>
  if c1 = 0 then
    some (0, M)
  else
    pI M ths 9 11 0 fun M11 =>
    bnd (itr (fun s16 : Int32 × QM => lp_X9_takesNumber_16 ths s16.1 s16.2) FU (0, M11)) fun r16 =>
    pr2 r16 fun re_16 Mr_16 =>
    some (re_16, Mr_16)
set_option maxRecDepth 100000 in
set_option maxHeartbeats 4000000 in
theorem ct_X9_takesNumber (Γ : GT) (l : Launch) (M : QM) (ths : Nat) (ht0 : mt M ths = 9) (z : Int32) (M' : QM) (h : fn_X9_takesNumber M ths = some (z, M')) : CT Γ l yX9_takesNumber cX9_takesNumber 2 (some .boolean) rm_X9_takesNumber (.ref ths :: []) M (some (.int z)) M' := by
  refine ct_intro (own := RX9) (L := [(0, .ref ths)]) (by decide +kernel) rfl (Nat.le_of_ble_eq_true rfl) rfl ?_
  intro p e s m args below meth c Q hQ cx hnm
  unfold fn_X9_takesNumber at h
  refine q_aload_n cx (pc' := 1) 0 rfl dX9_takesNumber_0 rfl ?_
  obtain ⟨c1, hc1, h⟩ := bnd_i h
  refine q_callV cx (pc' := 4) (S := []) (S1 := [.int c1]) (kc' := 0) (ks' := 0) 9 (ct_X9_isDigit Γ l M ths ht0 _ hc1) lki_X9_isDigit lkv_X9_isDigit lkc_X9_260 ht0 (r := (RX9, TX9, 70)) ⟨rfl, by decide, rfl⟩ rfl rfl (Nat.le_of_ble_eq_true rfl) ⟨(Nat.le_of_ble_eq_true rfl), (Nat.le_of_ble_eq_true rfl)⟩ ⟨(Nat.le_of_ble_eq_true rfl), (Nat.le_of_ble_eq_true rfl)⟩ dX9_takesNumber_1 rfl rfl rfl ?_
  refine q_if_ne cx (pc' := 7) (tgt := 9) dX9_takesNumber_4 (by decide) rfl (fun c4 => ?_) (fun c4 => ?_)
  · replace h := ine c4 h
    refine q_aload_n cx (pc' := 10) 0 rfl dX9_takesNumber_9 rfl ?_
    refine q_iconst cx (pc' := 11) ki_0 dX9_takesNumber_10 rfl ?_
    obtain ⟨ht11, M11, eM11, h⟩ := pI_i h
    refine q_pI cx (pc' := 14) 9 11 fl_X9_44 rfl ht11 (ty := .int) ⟨(RX9, TX9, 70), rfl, by decide +kernel, Or.inl rfl⟩ rfl rfl eM11 dX9_takesNumber_11 rfl ?_
    refine q_iconst cx (pc' := 15) ki_0 dX9_takesNumber_14 rfl ?_
    refine q_istore_n cx (pc' := 16) rfl rfl (by decide) (L' := [(1, .int 0), (0, .ref ths)]) rfl dX9_takesNumber_15 rfl ?_
    obtain ⟨r16, hL16, h⟩ := bnd_i h
    have hk16_r : ∀ (re_16 : Int32) (Mr_16 : QM), (re_16, Mr_16) = r16 → some (re_16, Mr_16) = some (z, M') := by
      intro re_16 Mr_16 hp
      subst hp
      replace h := pr2_i h
      exact h
    have key16 : ∀ (n : Nat) (w1_16 : Int32) (Mw_16 : QM), itr (fun s16 : Int32 × QM => lp_X9_takesNumber_16 ths s16.1 s16.2) n (w1_16, Mw_16) = some r16 → EE p l e rm_X9_takesNumber s m args below meth c Q Γ 2 0 0 16 [(0, .ref ths), (1, .int w1_16)] [] Mw_16 := by
      intro n
      induction n with
      | zero => intro _ _ h; exact (itr_0 h).elim
      | succ n ih =>
        intro w1_16 Mw_16 h
        obtain ⟨z16, h, hz16⟩ := itr_i h
        replace h : lp_X9_takesNumber_16 ths w1_16 Mw_16 = some z16 := h
        unfold lp_X9_takesNumber_16 at h
        refine q_iload_n cx (pc' := 17) 1 rfl dX9_takesNumber_16 rfl ?_
        refine q_iconst cx (pc' := 18) ki_2 dX9_takesNumber_17 rfl ?_
        refine q_icmp_ge cx (pc' := 21) (tgt := 63) dX9_takesNumber_18 (by decide) rfl (fun c18 => ?_) (fun c18 => ?_)
        · replace h := ip c18 h
          refine q_iconst cx (pc' := 64) ki_1 dX9_takesNumber_63 rfl ?_
          replace h := hk16_r _ _ (hz16.2 _ h)
          obtain ⟨rfl, rfl⟩ := o2_i h
          rw [hQ]
          exact q_nret cx rfl dX9_takesNumber_64
        · replace h := ine c18 h
          refine q_aload_n cx (pc' := 22) 0 rfl dX9_takesNumber_21 rfl ?_
          obtain ⟨hk22, h⟩ := ck_i h
          obtain ⟨c22, hc22, h⟩ := bnd_i h
          refine q_callV cx (pc' := 25) (S := []) (S1 := [.int c22]) (kc' := 0) (ks' := 0) 9 (ct_X9_isDigit Γ l Mw_16 ths hk22 _ hc22) lki_X9_isDigit lkv_X9_isDigit lkc_X9_260 hk22 (r := (RX9, TX9, 70)) ⟨rfl, by decide, rfl⟩ rfl rfl (Nat.le_of_ble_eq_true rfl) ⟨(Nat.le_of_ble_eq_true rfl), (Nat.le_of_ble_eq_true rfl)⟩ ⟨(Nat.le_of_ble_eq_true rfl), (Nat.le_of_ble_eq_true rfl)⟩ dX9_takesNumber_22 rfl rfl rfl ?_
          refine q_if_eq cx (pc' := 28) (tgt := 63) dX9_takesNumber_25 (by decide) rfl (fun c25 => ?_) (fun c25 => ?_)
          · replace h := ip c25 h
            refine q_iconst cx (pc' := 64) ki_1 dX9_takesNumber_63 rfl ?_
            replace h := hk16_r _ _ (hz16.2 _ h)
            obtain ⟨rfl, rfl⟩ := o2_i h
            rw [hQ]
            exact q_nret cx rfl dX9_takesNumber_64
          · replace h := ine c25 h
            refine q_aload_n cx (pc' := 29) 0 rfl dX9_takesNumber_28 rfl ?_
            refine q_bipush cx (pc' := 31) kb_10 dX9_takesNumber_29 rfl ?_
            refine q_aload_n cx (pc' := 32) 0 rfl dX9_takesNumber_31 rfl ?_
            obtain ⟨ht32, x32, ex32, h⟩ := gI_i h
            refine q_gI cx (pc' := 35) 9 11 fl_X9_44 rfl ht32 ex32 dX9_takesNumber_32 rfl ?_
            refine q_imul cx (pc' := 36) dX9_takesNumber_35 rfl ?_
            refine q_aload_n cx (pc' := 37) 0 rfl dX9_takesNumber_36 rfl ?_
            obtain ⟨hk37, h⟩ := ck_i h
            obtain ⟨c37, hc37, h⟩ := bnd_i h
            refine q_callV cx (pc' := 40) (S := [.int (10 * x32), .ref ths]) (S1 := [.int c37, .int (10 * x32), .ref ths]) (kc' := 0) (ks' := 0) 9 (ct_X9_next Γ l Mw_16 ths hk37 _ hc37) lki_X9_next lkv_X9_next lkc_X9_253 hk37 (r := (RX9, TX9, 70)) ⟨rfl, by decide, rfl⟩ rfl rfl (Nat.le_of_ble_eq_true rfl) ⟨(Nat.le_of_ble_eq_true rfl), (Nat.le_of_ble_eq_true rfl)⟩ ⟨(Nat.le_of_ble_eq_true rfl), (Nat.le_of_ble_eq_true rfl)⟩ dX9_takesNumber_37 rfl rfl rfl ?_
            refine q_iadd cx (pc' := 41) dX9_takesNumber_40 rfl ?_
            refine q_bipush cx (pc' := 43) kb_48 dX9_takesNumber_41 rfl ?_
            refine q_isub cx (pc' := 44) dX9_takesNumber_43 rfl ?_
            obtain ⟨ht44, M44, eM44, h⟩ := pI_i h
            refine q_pI cx (pc' := 47) 9 11 fl_X9_44 rfl ht44 (ty := .int) ⟨(RX9, TX9, 70), rfl, by decide +kernel, Or.inl rfl⟩ rfl rfl eM44 dX9_takesNumber_44 rfl ?_
            refine q_aload_n cx (pc' := 48) 0 rfl dX9_takesNumber_47 rfl ?_
            refine q_dup cx (pc' := 49) rfl dX9_takesNumber_48 rfl ?_
            obtain ⟨ht49, x49, ex49, h⟩ := gI_i h
            refine q_gI cx (pc' := 52) 9 10 fl_X9_41 rfl ht49 ex49 dX9_takesNumber_49 rfl ?_
            refine q_iconst cx (pc' := 53) ki_1 dX9_takesNumber_52 rfl ?_
            refine q_iadd cx (pc' := 54) dX9_takesNumber_53 rfl ?_
            obtain ⟨ht54, M54, eM54, h⟩ := pI_i h
            refine q_pI cx (pc' := 57) 9 10 fl_X9_41 rfl ht54 (ty := .int) ⟨(RX9, TX9, 70), rfl, by decide +kernel, Or.inl rfl⟩ rfl rfl eM54 dX9_takesNumber_54 rfl ?_
            obtain ⟨v1_57, ev1_57, h⟩ := nm_i h
            refine q_iinc cx (pc' := 60) 1 rfl ki_1 ev1_57 (by decide) (L' := [(1, .int v1_57), (0, .ref ths)]) rfl dX9_takesNumber_57 rfl ?_
            refine q_goto cx dX9_takesNumber_60 (tgt := 16) (by decide) ?_
            refine q_sub cx [1, 0] rfl ?_
            exact ih _ _ (hz16.1 _ h)
    refine q_sub cx [1, 0] rfl ?_
    exact key16 FU _ _ hL16
  · replace h := ip c4 h
    refine q_iconst cx (pc' := 8) ki_0 dX9_takesNumber_7 rfl ?_
    obtain ⟨rfl, rfl⟩ := o2_i h
    rw [hQ]
    exact q_nret cx rfl dX9_takesNumber_8

abbrev rm_X9_emits : Room := { frames := 1, cells := 0, slots := 0, locals := 40 }
def fn_X9_emits (M : QM) (ths : Nat) (p1 : Int32) : Option QM :=
  gR M ths 9 18 fun r1 =>
  gI M ths 9 20 fun x5 =>
  wI M 20 r1 x5 p1 fun M9 =>
  gI M9 ths 9 20 fun x12 =>
  pI M9 ths 9 20 (x12 + 1) fun M17 =>
  some M17
set_option maxRecDepth 100000 in
set_option maxHeartbeats 4000000 in
theorem ct_X9_emits (Γ : GT) (l : Launch) (M : QM) (ths : Nat) (p1 : Int32) (ht0 : mt M ths = 9) (M' : QM) (h : fn_X9_emits M ths p1 = some M') : CT Γ l yX9_emits cX9_emits 2 none rm_X9_emits (.ref ths :: [.int p1]) M none M' := by
  refine ct_intro (own := RX9) (L := [(0, .ref ths), (1, .int p1)]) (by decide +kernel) rfl (Nat.le_of_ble_eq_true rfl) rfl ?_
  intro p e s m args below meth c Q hQ cx hnm
  unfold fn_X9_emits at h
  refine q_aload_n cx (pc' := 1) 0 rfl dX9_emits_0 rfl ?_
  obtain ⟨ht1, r1, ex1, h⟩ := gR_i h
  refine q_gR cx (pc' := 4) 9 18 fl_X9_65 rfl ht1 ex1 dX9_emits_1 rfl ?_
  refine q_aload_n cx (pc' := 5) 0 rfl dX9_emits_4 rfl ?_
  obtain ⟨ht5, x5, ex5, h⟩ := gI_i h
  refine q_gI cx (pc' := 8) 9 20 fl_X9_71 rfl ht5 ex5 dX9_emits_5 rfl ?_
  refine q_iload_n cx (pc' := 9) 1 rfl dX9_emits_8 rfl ?_
  obtain ⟨ht9, hi9, M9, eM9, h⟩ := wI_i h
  refine q_iast cx (pc' := 10) ht9 hi9 eM9 dX9_emits_9 rfl ?_
  refine q_aload_n cx (pc' := 11) 0 rfl dX9_emits_10 rfl ?_
  refine q_dup cx (pc' := 12) rfl dX9_emits_11 rfl ?_
  obtain ⟨ht12, x12, ex12, h⟩ := gI_i h
  refine q_gI cx (pc' := 15) 9 20 fl_X9_71 rfl ht12 ex12 dX9_emits_12 rfl ?_
  refine q_iconst cx (pc' := 16) ki_1 dX9_emits_15 rfl ?_
  refine q_iadd cx (pc' := 17) dX9_emits_16 rfl ?_
  obtain ⟨ht17, M17, eM17, h⟩ := pI_i h
  refine q_pI cx (pc' := 20) 9 20 fl_X9_71 rfl ht17 (ty := .int) ⟨(RX9, TX9, 70), rfl, by decide +kernel, Or.inl rfl⟩ rfl rfl eM17 dX9_emits_17 rfl ?_
  obtain rfl := o1_i h
  rw [hQ]
  exact q_vret cx dX9_emits_20

abbrev rm_X9_whole : Room := { frames := 2, cells := 0, slots := 0, locals := 61 }
def lp_X9_whole_0 (ths : Nat) (Mw_0 : QM) : Option ((QM) ⊕ (QM)) :=
  gI Mw_0 ths 9 21 fun x1 =>
  if x1 ≤ 0 then
    some (.inr Mw_0)
  else
    gR Mw_0 ths 9 19 fun r8 =>
    gI Mw_0 ths 9 21 fun x12 =>
    aI Mw_0 20 r8 (x12 - 1) fun x17 =>
    if x17 = 33 then
      ck Mw_0 ths 9 <|
      bnd (fn_X9_emits Mw_0 ths (-33)) fun M26 =>
      gI M26 ths 9 21 fun x31 =>
      pI M26 ths 9 21 (x31 - 1) fun M36 =>
      gI M36 ths 9 22 fun x41 =>
      pI M36 ths 9 22 (x41 - 1) fun M46 =>
      some (.inl M46)
    else
      some (.inr Mw_0)
def fn_X9_whole (M : QM) (ths : Nat) : Option QM :=
  bnd (itr (fun s0 : QM => lp_X9_whole_0 ths s0) FU M) fun Mr_0 =>
  some Mr_0
set_option maxRecDepth 100000 in
set_option maxHeartbeats 4000000 in
theorem ct_X9_whole (Γ : GT) (l : Launch) (M : QM) (ths : Nat) (ht0 : mt M ths = 9) (M' : QM) (h : fn_X9_whole M ths = some M') : CT Γ l yX9_whole cX9_whole 1 none rm_X9_whole (.ref ths :: []) M none M' := by
  refine ct_intro (own := RX9) (L := [(0, .ref ths)]) (by decide +kernel) rfl (Nat.le_of_ble_eq_true rfl) rfl ?_
  intro p e s m args below meth c Q hQ cx hnm
  unfold fn_X9_whole at h
  obtain ⟨r0, hL0, h⟩ := bnd_i h
  have hk0_r : ∀ (Mr_0 : QM), Mr_0 = r0 → some Mr_0 = some M' := by
    intro Mr_0 hp
    subst hp
    exact h
  have key0 : ∀ (n : Nat) (Mw_0 : QM), itr (fun s0 : QM => lp_X9_whole_0 ths s0) n Mw_0 = some r0 → EE p l e rm_X9_whole s m args below meth c Q Γ 1 0 0 0 [(0, .ref ths)] [] Mw_0 := by
    intro n
    induction n with
    | zero => intro _ h; exact (itr_0 h).elim
    | succ n ih =>
      intro Mw_0 h
      obtain ⟨z0, h, hz0⟩ := itr_i h
      replace h : lp_X9_whole_0 ths Mw_0 = some z0 := h
      unfold lp_X9_whole_0 at h
      refine q_aload_n cx (pc' := 1) 0 rfl dX9_whole_0 rfl ?_
      obtain ⟨ht1, x1, ex1, h⟩ := gI_i h
      refine q_gI cx (pc' := 4) 9 21 fl_X9_74 rfl ht1 ex1 dX9_whole_1 rfl ?_
      refine q_if_le cx (pc' := 7) (tgt := 52) dX9_whole_4 (by decide) rfl (fun c4 => ?_) (fun c4 => ?_)
      · replace h := ip c4 h
        replace h := hk0_r _ (hz0.2 _ h)
        obtain rfl := o1_i h
        rw [hQ]
        exact q_vret cx dX9_whole_52
      · replace h := ine c4 h
        refine q_aload_n cx (pc' := 8) 0 rfl dX9_whole_7 rfl ?_
        obtain ⟨ht8, r8, ex8, h⟩ := gR_i h
        refine q_gR cx (pc' := 11) 9 19 fl_X9_68 rfl ht8 ex8 dX9_whole_8 rfl ?_
        refine q_aload_n cx (pc' := 12) 0 rfl dX9_whole_11 rfl ?_
        obtain ⟨ht12, x12, ex12, h⟩ := gI_i h
        refine q_gI cx (pc' := 15) 9 21 fl_X9_74 rfl ht12 ex12 dX9_whole_12 rfl ?_
        refine q_iconst cx (pc' := 16) ki_1 dX9_whole_15 rfl ?_
        refine q_isub cx (pc' := 17) dX9_whole_16 rfl ?_
        obtain ⟨ht17, hi17, x17, ex17, h⟩ := aI_i h
        refine q_iald cx (pc' := 18) ht17 hi17 ex17 dX9_whole_17 rfl ?_
        refine q_bipush cx (pc' := 20) kb_33 dX9_whole_18 rfl ?_
        refine q_icmp_ne cx (pc' := 23) (tgt := 52) dX9_whole_20 (by decide) rfl (fun c20 => ?_) (fun c20 => ?_)
        · replace h := ine c20 h
          replace h := hk0_r _ (hz0.2 _ h)
          obtain rfl := o1_i h
          rw [hQ]
          exact q_vret cx dX9_whole_52
        · replace h := ip c20 h
          refine q_aload_n cx (pc' := 24) 0 rfl dX9_whole_23 rfl ?_
          refine q_bipush cx (pc' := 26) kb_m33 dX9_whole_24 rfl ?_
          obtain ⟨hk26, h⟩ := ck_i h
          obtain ⟨M26, hc26, h⟩ := bnd_i h
          refine q_callV cx (pc' := 29) (S := []) (S1 := []) (kc' := 0) (ks' := 0) 9 (ct_X9_emits Γ l Mw_0 ths (-33) hk26 _ hc26) lki_X9_emits lkv_X9_emits lkc_X9_264 hk26 (r := (RX9, TX9, 70)) ⟨rfl, by decide, rfl⟩ rfl rfl (Nat.le_of_ble_eq_true rfl) ⟨(Nat.le_of_ble_eq_true rfl), (Nat.le_of_ble_eq_true rfl)⟩ ⟨(Nat.le_of_ble_eq_true rfl), (Nat.le_of_ble_eq_true rfl)⟩ dX9_whole_26 rfl rfl rfl ?_
          refine q_aload_n cx (pc' := 30) 0 rfl dX9_whole_29 rfl ?_
          refine q_dup cx (pc' := 31) rfl dX9_whole_30 rfl ?_
          obtain ⟨ht31, x31, ex31, h⟩ := gI_i h
          refine q_gI cx (pc' := 34) 9 21 fl_X9_74 rfl ht31 ex31 dX9_whole_31 rfl ?_
          refine q_iconst cx (pc' := 35) ki_1 dX9_whole_34 rfl ?_
          refine q_isub cx (pc' := 36) dX9_whole_35 rfl ?_
          obtain ⟨ht36, M36, eM36, h⟩ := pI_i h
          refine q_pI cx (pc' := 39) 9 21 fl_X9_74 rfl ht36 (ty := .int) ⟨(RX9, TX9, 70), rfl, by decide +kernel, Or.inl rfl⟩ rfl rfl eM36 dX9_whole_36 rfl ?_
          refine q_aload_n cx (pc' := 40) 0 rfl dX9_whole_39 rfl ?_
          refine q_dup cx (pc' := 41) rfl dX9_whole_40 rfl ?_
          obtain ⟨ht41, x41, ex41, h⟩ := gI_i h
          refine q_gI cx (pc' := 44) 9 22 fl_X9_77 rfl ht41 ex41 dX9_whole_41 rfl ?_
          refine q_iconst cx (pc' := 45) ki_1 dX9_whole_44 rfl ?_
          refine q_isub cx (pc' := 46) dX9_whole_45 rfl ?_
          obtain ⟨ht46, M46, eM46, h⟩ := pI_i h
          refine q_pI cx (pc' := 49) 9 22 fl_X9_77 rfl ht46 (ty := .int) ⟨(RX9, TX9, 70), rfl, by decide +kernel, Or.inl rfl⟩ rfl rfl eM46 dX9_whole_46 rfl ?_
          refine q_goto cx dX9_whole_49 (tgt := 0) (by decide) ?_
          refine q_sub cx [0] rfl ?_
          exact ih _ (hz0.1 _ h)
  refine q_sub cx [0] rfl ?_
  exact key0 FU _ hL0

abbrev rm_X9_settle : Room := { frames := 2, cells := 0, slots := 0, locals := 61 }
def jn_X9_settle_45_0 (ths : Nat) (Mj_45 : QM) : Option ((QM) ⊕ (QM)) :=
  gI Mj_45 ths 9 21 fun x47 =>
  pI Mj_45 ths 9 21 (x47 - 1) fun M52 =>
  gR M52 ths 9 19 fun r57 =>
  gI M52 ths 9 21 fun x61 =>
  aI M52 20 r57 x61 fun x64 =>
  ck M52 ths 9 <|
  bnd (fn_X9_emits M52 ths (-x64)) fun M66 =>
  some (.inl M66)
def lp_X9_settle_0 (ths : Nat) (p1 : Int32) (Mw_0 : QM) : Option ((QM) ⊕ (QM)) :=
  gI Mw_0 ths 9 21 fun x1 =>
  if x1 ≤ 0 then
    some (.inr Mw_0)
  else
    gR Mw_0 ths 9 19 fun r8 =>
    gI Mw_0 ths 9 21 fun x12 =>
    aI Mw_0 20 r8 (x12 - 1) fun x17 =>
    if x17 = 38 then
      jn_X9_settle_45_0 ths Mw_0
    else
      gR Mw_0 ths 9 19 fun r24 =>
      gI Mw_0 ths 9 21 fun x28 =>
      aI Mw_0 20 r24 (x28 - 1) fun x33 =>
      if x33 = 124 then
        if p1 = 38 then
          some (.inr Mw_0)
        else
          jn_X9_settle_45_0 ths Mw_0
      else
        some (.inr Mw_0)
def fn_X9_settle (M : QM) (ths : Nat) (p1 : Int32) : Option QM :=
  bnd (itr (fun s0 : QM => lp_X9_settle_0 ths p1 s0) FU M) fun Mr_0 =>
  some Mr_0
set_option maxRecDepth 100000 in
set_option maxHeartbeats 4000000 in
theorem ct_X9_settle (Γ : GT) (l : Launch) (M : QM) (ths : Nat) (p1 : Int32) (ht0 : mt M ths = 9) (M' : QM) (h : fn_X9_settle M ths p1 = some M') : CT Γ l yX9_settle cX9_settle 2 none rm_X9_settle (.ref ths :: [.int p1]) M none M' := by
  refine ct_intro (own := RX9) (L := [(0, .ref ths), (1, .int p1)]) (by decide +kernel) rfl (Nat.le_of_ble_eq_true rfl) rfl ?_
  intro p e s m args below meth c Q hQ cx hnm
  unfold fn_X9_settle at h
  obtain ⟨r0, hL0, h⟩ := bnd_i h
  have hk0_r : ∀ (Mr_0 : QM), Mr_0 = r0 → some Mr_0 = some M' := by
    intro Mr_0 hp
    subst hp
    exact h
  have key0 : ∀ (n : Nat) (Mw_0 : QM), itr (fun s0 : QM => lp_X9_settle_0 ths p1 s0) n Mw_0 = some r0 → EE p l e rm_X9_settle s m args below meth c Q Γ 2 0 0 0 [(0, .ref ths), (1, .int p1)] [] Mw_0 := by
    intro n
    induction n with
    | zero => intro _ h; exact (itr_0 h).elim
    | succ n ih =>
      intro Mw_0 h
      obtain ⟨z0, h, hz0⟩ := itr_i h
      replace h : lp_X9_settle_0 ths p1 Mw_0 = some z0 := h
      unfold lp_X9_settle_0 at h
      have hj45 : ∀ (Mj_45 : QM), jn_X9_settle_45_0 ths Mj_45 = some z0 → EE p l e rm_X9_settle s m args below meth c Q Γ 2 0 0 45 [(0, .ref ths), (1, .int p1)] [] Mj_45 := by
        intro Mj_45 h
        unfold jn_X9_settle_45_0 at h
        refine q_aload_n cx (pc' := 46) 0 rfl dX9_settle_45 rfl ?_
        refine q_dup cx (pc' := 47) rfl dX9_settle_46 rfl ?_
        obtain ⟨ht47, x47, ex47, h⟩ := gI_i h
        refine q_gI cx (pc' := 50) 9 21 fl_X9_74 rfl ht47 ex47 dX9_settle_47 rfl ?_
        refine q_iconst cx (pc' := 51) ki_1 dX9_settle_50 rfl ?_
        refine q_isub cx (pc' := 52) dX9_settle_51 rfl ?_
        obtain ⟨ht52, M52, eM52, h⟩ := pI_i h
        refine q_pI cx (pc' := 55) 9 21 fl_X9_74 rfl ht52 (ty := .int) ⟨(RX9, TX9, 70), rfl, by decide +kernel, Or.inl rfl⟩ rfl rfl eM52 dX9_settle_52 rfl ?_
        refine q_aload_n cx (pc' := 56) 0 rfl dX9_settle_55 rfl ?_
        refine q_aload_n cx (pc' := 57) 0 rfl dX9_settle_56 rfl ?_
        obtain ⟨ht57, r57, ex57, h⟩ := gR_i h
        refine q_gR cx (pc' := 60) 9 19 fl_X9_68 rfl ht57 ex57 dX9_settle_57 rfl ?_
        refine q_aload_n cx (pc' := 61) 0 rfl dX9_settle_60 rfl ?_
        obtain ⟨ht61, x61, ex61, h⟩ := gI_i h
        refine q_gI cx (pc' := 64) 9 21 fl_X9_74 rfl ht61 ex61 dX9_settle_61 rfl ?_
        obtain ⟨ht64, hi64, x64, ex64, h⟩ := aI_i h
        refine q_iald cx (pc' := 65) ht64 hi64 ex64 dX9_settle_64 rfl ?_
        refine q_ineg cx (pc' := 66) dX9_settle_65 rfl ?_
        obtain ⟨hk66, h⟩ := ck_i h
        obtain ⟨M66, hc66, h⟩ := bnd_i h
        refine q_callV cx (pc' := 69) (S := []) (S1 := []) (kc' := 0) (ks' := 0) 9 (ct_X9_emits Γ l M52 ths (-x64) hk66 _ hc66) lki_X9_emits lkv_X9_emits lkc_X9_264 hk66 (r := (RX9, TX9, 70)) ⟨rfl, by decide, rfl⟩ rfl rfl (Nat.le_of_ble_eq_true rfl) ⟨(Nat.le_of_ble_eq_true rfl), (Nat.le_of_ble_eq_true rfl)⟩ ⟨(Nat.le_of_ble_eq_true rfl), (Nat.le_of_ble_eq_true rfl)⟩ dX9_settle_66 rfl rfl rfl ?_
        refine q_goto cx dX9_settle_69 (tgt := 0) (by decide) ?_
        refine q_sub cx [0, 1] rfl ?_
        exact ih _ (hz0.1 _ h)
      refine q_aload_n cx (pc' := 1) 0 rfl dX9_settle_0 rfl ?_
      obtain ⟨ht1, x1, ex1, h⟩ := gI_i h
      refine q_gI cx (pc' := 4) 9 21 fl_X9_74 rfl ht1 ex1 dX9_settle_1 rfl ?_
      refine q_if_le cx (pc' := 7) (tgt := 72) dX9_settle_4 (by decide) rfl (fun c4 => ?_) (fun c4 => ?_)
      · replace h := ip c4 h
        replace h := hk0_r _ (hz0.2 _ h)
        obtain rfl := o1_i h
        rw [hQ]
        exact q_vret cx dX9_settle_72
      · replace h := ine c4 h
        refine q_aload_n cx (pc' := 8) 0 rfl dX9_settle_7 rfl ?_
        obtain ⟨ht8, r8, ex8, h⟩ := gR_i h
        refine q_gR cx (pc' := 11) 9 19 fl_X9_68 rfl ht8 ex8 dX9_settle_8 rfl ?_
        refine q_aload_n cx (pc' := 12) 0 rfl dX9_settle_11 rfl ?_
        obtain ⟨ht12, x12, ex12, h⟩ := gI_i h
        refine q_gI cx (pc' := 15) 9 21 fl_X9_74 rfl ht12 ex12 dX9_settle_12 rfl ?_
        refine q_iconst cx (pc' := 16) ki_1 dX9_settle_15 rfl ?_
        refine q_isub cx (pc' := 17) dX9_settle_16 rfl ?_
        obtain ⟨ht17, hi17, x17, ex17, h⟩ := aI_i h
        refine q_iald cx (pc' := 18) ht17 hi17 ex17 dX9_settle_17 rfl ?_
        refine q_bipush cx (pc' := 20) kb_38 dX9_settle_18 rfl ?_
        refine q_icmp_eq cx (pc' := 23) (tgt := 45) dX9_settle_20 (by decide) rfl (fun c20 => ?_) (fun c20 => ?_)
        · replace h := ip c20 h
          refine q_sub cx [0, 1] rfl ?_
          exact hj45 _ h
        · replace h := ine c20 h
          refine q_aload_n cx (pc' := 24) 0 rfl dX9_settle_23 rfl ?_
          obtain ⟨ht24, r24, ex24, h⟩ := gR_i h
          refine q_gR cx (pc' := 27) 9 19 fl_X9_68 rfl ht24 ex24 dX9_settle_24 rfl ?_
          refine q_aload_n cx (pc' := 28) 0 rfl dX9_settle_27 rfl ?_
          obtain ⟨ht28, x28, ex28, h⟩ := gI_i h
          refine q_gI cx (pc' := 31) 9 21 fl_X9_74 rfl ht28 ex28 dX9_settle_28 rfl ?_
          refine q_iconst cx (pc' := 32) ki_1 dX9_settle_31 rfl ?_
          refine q_isub cx (pc' := 33) dX9_settle_32 rfl ?_
          obtain ⟨ht33, hi33, x33, ex33, h⟩ := aI_i h
          refine q_iald cx (pc' := 34) ht33 hi33 ex33 dX9_settle_33 rfl ?_
          refine q_bipush cx (pc' := 36) kb_124 dX9_settle_34 rfl ?_
          refine q_icmp_ne cx (pc' := 39) (tgt := 72) dX9_settle_36 (by decide) rfl (fun c36 => ?_) (fun c36 => ?_)
          · replace h := ine c36 h
            replace h := hk0_r _ (hz0.2 _ h)
            obtain rfl := o1_i h
            rw [hQ]
            exact q_vret cx dX9_settle_72
          · replace h := ip c36 h
            refine q_iload_n cx (pc' := 40) 1 rfl dX9_settle_39 rfl ?_
            refine q_bipush cx (pc' := 42) kb_38 dX9_settle_40 rfl ?_
            refine q_icmp_eq cx (pc' := 45) (tgt := 72) dX9_settle_42 (by decide) rfl (fun c42 => ?_) (fun c42 => ?_)
            · replace h := ip c42 h
              replace h := hk0_r _ (hz0.2 _ h)
              obtain rfl := o1_i h
              rw [hQ]
              exact q_vret cx dX9_settle_72
            · replace h := ine c42 h
              refine q_sub cx [0, 1] rfl ?_
              exact hj45 _ h
  refine q_sub cx [0, 1] rfl ?_
  exact key0 FU _ hL0

abbrev rm_X9_place : Room := { frames := 1, cells := 0, slots := 0, locals := 40 }
def fn_X9_place (p1 : Int32) : Int32 :=
  if p1 = 98 then
    4
  else if p1 = 99 then
    0
  else if p1 = 109 then
    5
  else if p1 = 114 then
    1
  else if p1 = 115 then
    3
  else if p1 = 120 then
    2
  else 
    (-1)
set_option maxRecDepth 100000 in
set_option maxHeartbeats 4000000 in
theorem ct_X9_place (Γ : GT) (l : Launch) (M : QM) (ths : Nat) (p1 : Int32) (ht0 : mt M ths = 9) : CT Γ l yX9_place cX9_place 2 (some .int) rm_X9_place (.ref ths :: [.int p1]) M (some (.int (fn_X9_place p1))) M := by
  generalize h : fn_X9_place p1 = z
  refine ct_intro (own := RX9) (L := [(0, .ref ths), (1, .int p1)]) (by decide +kernel) rfl (Nat.le_of_ble_eq_true rfl) rfl ?_
  intro p e s m args below meth c Q hQ cx hnm
  unfold fn_X9_place at h
  refine q_iload_n cx (pc' := 1) 1 rfl dX9_place_0 rfl ?_
  rcases Decidable.em (p1 = 98) with c1_0 | c1_0
  · replace h := ip c1_0 h
    refine q_lookup cx (off := 67) (tgt := 68) dX9_place_1 (by decide) (by rw [c1_0]; decide) (by decide) ?_
    refine q_iconst cx (pc' := 69) ki_4 dX9_place_68 rfl ?_
    subst h
    rw [hQ]
    exact q_iret cx dX9_place_69
  replace h := ine c1_0 h
  rcases Decidable.em (p1 = 99) with c1_1 | c1_1
  · replace h := ip c1_1 h
    refine q_lookup cx (off := 59) (tgt := 60) dX9_place_1 (by decide) (by rw [c1_1]; decide) (by decide) ?_
    refine q_iconst cx (pc' := 61) ki_0 dX9_place_60 rfl ?_
    subst h
    rw [hQ]
    exact q_iret cx dX9_place_61
  replace h := ine c1_1 h
  rcases Decidable.em (p1 = 109) with c1_2 | c1_2
  · replace h := ip c1_2 h
    refine q_lookup cx (off := 69) (tgt := 70) dX9_place_1 (by decide) (by rw [c1_2]; decide) (by decide) ?_
    refine q_iconst cx (pc' := 71) ki_5 dX9_place_70 rfl ?_
    subst h
    rw [hQ]
    exact q_iret cx dX9_place_71
  replace h := ine c1_2 h
  rcases Decidable.em (p1 = 114) with c1_3 | c1_3
  · replace h := ip c1_3 h
    refine q_lookup cx (off := 61) (tgt := 62) dX9_place_1 (by decide) (by rw [c1_3]; decide) (by decide) ?_
    refine q_iconst cx (pc' := 63) ki_1 dX9_place_62 rfl ?_
    subst h
    rw [hQ]
    exact q_iret cx dX9_place_63
  replace h := ine c1_3 h
  rcases Decidable.em (p1 = 115) with c1_4 | c1_4
  · replace h := ip c1_4 h
    refine q_lookup cx (off := 65) (tgt := 66) dX9_place_1 (by decide) (by rw [c1_4]; decide) (by decide) ?_
    refine q_iconst cx (pc' := 67) ki_3 dX9_place_66 rfl ?_
    subst h
    rw [hQ]
    exact q_iret cx dX9_place_67
  replace h := ine c1_4 h
  rcases Decidable.em (p1 = 120) with c1_5 | c1_5
  · replace h := ip c1_5 h
    refine q_lookup cx (off := 63) (tgt := 64) dX9_place_1 (by decide) (by rw [c1_5]; decide) (by decide) ?_
    refine q_iconst cx (pc' := 65) ki_2 dX9_place_64 rfl ?_
    subst h
    rw [hQ]
    exact q_iret cx dX9_place_65
  replace h := ine c1_5 h
  refine q_lookup cx (off := 71) (tgt := 72) dX9_place_1 (by decide) ((lv_osw c1_0 (a := 98) rfl).trans ((lv_osw c1_1 (a := 99) rfl).trans ((lv_osw c1_2 (a := 109) rfl).trans ((lv_osw c1_3 (a := 114) rfl).trans ((lv_osw c1_4 (a := 115) rfl).trans ((lv_osw c1_5 (a := 120) rfl).trans rfl)))))) (by decide) ?_
  refine q_iconst cx (pc' := 73) ki_m1 dX9_place_72 rfl ?_
  subst h
  rw [hQ]
  exact q_iret cx dX9_place_73

abbrev rm_X9_takesTest : Room := { frames := 4, cells := 0, slots := 0, locals := 104 }
def fn_X9_takesTest (M : QM) (ths : Nat) : Option (Int32 × QM) :=
  bnd (fn_X9_next M ths) fun c2 =>
  nm (fn_X9_place c2) fun v1_8 =>
  if 0 ≤ v1_8 then
    gI M ths 9 10 fun x17 =>
    pI M ths 9 10 (x17 + 1) fun M22 =>
    ck M22 ths 9 <|
    bnd (fn_X9_next M22 ths) fun c26 =>
    ck M22 ths 9 <|
    if (fn_X9_in c26 60 62) = 0 then
      some (0, M22)
    else
      gI M22 ths 9 10 fun x46 =>
      pI M22 ths 9 10 (x46 + 1) fun M51 =>
      ck M51 ths 9 <|
      bnd (fn_X9_takesNumber M51 ths) fun y55 =>
      pr2 y55 fun c55 M55 =>
      if c55 = 0 then
        some (0, M55)
      else
        gI M55 ths 9 11 fun x78 =>
        ck M55 ths 9 <|
        bnd (fn_X9_emits M55 ths (((1000 * v1_8) + (100 * (c26 - 60))) + x78)) fun M82 =>
        ck M82 ths 9 <|
        bnd (fn_X9_whole M82 ths) fun M86 =>
        some (1, M86)
  else
    some (0, M)
set_option maxRecDepth 100000 in
set_option maxHeartbeats 4000000 in
theorem ct_X9_takesTest (Γ : GT) (l : Launch) (M : QM) (ths : Nat) (ht0 : mt M ths = 9) (z : Int32) (M' : QM) (h : fn_X9_takesTest M ths = some (z, M')) : CT Γ l yX9_takesTest cX9_takesTest 3 (some .boolean) rm_X9_takesTest (.ref ths :: []) M (some (.int z)) M' := by
  refine ct_intro (own := RX9) (L := [(0, .ref ths)]) (by decide +kernel) rfl (Nat.le_of_ble_eq_true rfl) rfl ?_
  intro p e s m args below meth c Q hQ cx hnm
  unfold fn_X9_takesTest at h
  refine q_aload_n cx (pc' := 1) 0 rfl dX9_takesTest_0 rfl ?_
  refine q_aload_n cx (pc' := 2) 0 rfl dX9_takesTest_1 rfl ?_
  obtain ⟨c2, hc2, h⟩ := bnd_i h
  refine q_callV cx (pc' := 5) (S := [.ref ths]) (S1 := [.int c2, .ref ths]) (kc' := 0) (ks' := 0) 9 (ct_X9_next Γ l M ths ht0 _ hc2) lki_X9_next lkv_X9_next lkc_X9_253 ht0 (r := (RX9, TX9, 70)) ⟨rfl, by decide, rfl⟩ rfl rfl (Nat.le_of_ble_eq_true rfl) ⟨(Nat.le_of_ble_eq_true rfl), (Nat.le_of_ble_eq_true rfl)⟩ ⟨(Nat.le_of_ble_eq_true rfl), (Nat.le_of_ble_eq_true rfl)⟩ dX9_takesTest_2 rfl rfl rfl ?_
  refine q_callV cx (pc' := 8) (S := []) (S1 := [.int (fn_X9_place c2)]) (kc' := 0) (ks' := 0) 9 (ct_X9_place Γ l M ths c2 ht0) lki_X9_place lkv_X9_place lkc_X9_268 ht0 (r := (RX9, TX9, 70)) ⟨rfl, by decide, rfl⟩ rfl rfl (Nat.le_of_ble_eq_true rfl) ⟨(Nat.le_of_ble_eq_true rfl), (Nat.le_of_ble_eq_true rfl)⟩ ⟨(Nat.le_of_ble_eq_true rfl), (Nat.le_of_ble_eq_true rfl)⟩ dX9_takesTest_5 rfl rfl rfl ?_
  obtain ⟨v1_8, ev1_8, h⟩ := nm_i h
  refine q_istore_n cx (pc' := 9) rfl ev1_8 (by decide) (L' := [(1, .int v1_8), (0, .ref ths)]) rfl dX9_takesTest_8 rfl ?_
  refine q_iload_n cx (pc' := 10) 0 rfl dX9_takesTest_9 rfl ?_
  refine q_if_ge cx (pc' := 13) (tgt := 15) dX9_takesTest_10 (by decide) rfl (fun c10 => ?_) (fun c10 => ?_)
  · replace h := ip c10 h
    refine q_aload_n cx (pc' := 16) 1 rfl dX9_takesTest_15 rfl ?_
    refine q_dup cx (pc' := 17) rfl dX9_takesTest_16 rfl ?_
    obtain ⟨ht17, x17, ex17, h⟩ := gI_i h
    refine q_gI cx (pc' := 20) 9 10 fl_X9_41 rfl ht17 ex17 dX9_takesTest_17 rfl ?_
    refine q_iconst cx (pc' := 21) ki_1 dX9_takesTest_20 rfl ?_
    refine q_iadd cx (pc' := 22) dX9_takesTest_21 rfl ?_
    obtain ⟨ht22, M22, eM22, h⟩ := pI_i h
    refine q_pI cx (pc' := 25) 9 10 fl_X9_41 rfl ht22 (ty := .int) ⟨(RX9, TX9, 70), rfl, by decide +kernel, Or.inl rfl⟩ rfl rfl eM22 dX9_takesTest_22 rfl ?_
    refine q_aload_n cx (pc' := 26) 1 rfl dX9_takesTest_25 rfl ?_
    obtain ⟨hk26, h⟩ := ck_i h
    obtain ⟨c26, hc26, h⟩ := bnd_i h
    refine q_callV cx (pc' := 29) (S := []) (S1 := [.int c26]) (kc' := 0) (ks' := 0) 9 (ct_X9_next Γ l M22 ths hk26 _ hc26) lki_X9_next lkv_X9_next lkc_X9_253 hk26 (r := (RX9, TX9, 70)) ⟨rfl, by decide, rfl⟩ rfl rfl (Nat.le_of_ble_eq_true rfl) ⟨(Nat.le_of_ble_eq_true rfl), (Nat.le_of_ble_eq_true rfl)⟩ ⟨(Nat.le_of_ble_eq_true rfl), (Nat.le_of_ble_eq_true rfl)⟩ dX9_takesTest_26 rfl rfl rfl ?_
    refine q_istore_n cx (pc' := 30) rfl rfl (by decide) (L' := [(2, .int c26), (1, .int v1_8), (0, .ref ths)]) rfl dX9_takesTest_29 rfl ?_
    refine q_aload_n cx (pc' := 31) 2 rfl dX9_takesTest_30 rfl ?_
    refine q_iload_n cx (pc' := 32) 0 rfl dX9_takesTest_31 rfl ?_
    refine q_bipush cx (pc' := 34) kb_60 dX9_takesTest_32 rfl ?_
    refine q_bipush cx (pc' := 36) kb_62 dX9_takesTest_34 rfl ?_
    obtain ⟨hk36, h⟩ := ck_i h
    refine q_callV cx (pc' := 39) (S := []) (S1 := [.int (fn_X9_in c26 60 62)]) (kc' := 0) (ks' := 0) 9 (ct_X9_in Γ l M22 ths c26 60 62 hk36) lki_X9_in lkv_X9_in lkc_X9_224 hk36 (r := (RX9, TX9, 70)) ⟨rfl, by decide, rfl⟩ rfl rfl (Nat.le_of_ble_eq_true rfl) ⟨(Nat.le_of_ble_eq_true rfl), (Nat.le_of_ble_eq_true rfl)⟩ ⟨(Nat.le_of_ble_eq_true rfl), (Nat.le_of_ble_eq_true rfl)⟩ dX9_takesTest_36 rfl rfl rfl ?_
    refine q_if_ne cx (pc' := 42) (tgt := 44) dX9_takesTest_39 (by decide) rfl (fun c39 => ?_) (fun c39 => ?_)
    · replace h := ine c39 h
      refine q_aload_n cx (pc' := 45) 2 rfl dX9_takesTest_44 rfl ?_
      refine q_dup cx (pc' := 46) rfl dX9_takesTest_45 rfl ?_
      obtain ⟨ht46, x46, ex46, h⟩ := gI_i h
      refine q_gI cx (pc' := 49) 9 10 fl_X9_41 rfl ht46 ex46 dX9_takesTest_46 rfl ?_
      refine q_iconst cx (pc' := 50) ki_1 dX9_takesTest_49 rfl ?_
      refine q_iadd cx (pc' := 51) dX9_takesTest_50 rfl ?_
      obtain ⟨ht51, M51, eM51, h⟩ := pI_i h
      refine q_pI cx (pc' := 54) 9 10 fl_X9_41 rfl ht51 (ty := .int) ⟨(RX9, TX9, 70), rfl, by decide +kernel, Or.inl rfl⟩ rfl rfl eM51 dX9_takesTest_51 rfl ?_
      refine q_aload_n cx (pc' := 55) 2 rfl dX9_takesTest_54 rfl ?_
      obtain ⟨hk55, h⟩ := ck_i h
      obtain ⟨⟨c55, M55⟩, hc55, h⟩ := bnd_i h
      replace h := pr2_i h
      refine q_callV cx (pc' := 58) (S := []) (S1 := [.int c55]) (kc' := 0) (ks' := 0) 9 (ct_X9_takesNumber Γ l M51 ths hk55 _ _ hc55) lki_X9_takesNumber lkv_X9_takesNumber lkc_X9_272 hk55 (r := (RX9, TX9, 70)) ⟨rfl, by decide, rfl⟩ rfl rfl (Nat.le_of_ble_eq_true rfl) ⟨(Nat.le_of_ble_eq_true rfl), (Nat.le_of_ble_eq_true rfl)⟩ ⟨(Nat.le_of_ble_eq_true rfl), (Nat.le_of_ble_eq_true rfl)⟩ dX9_takesTest_55 rfl rfl rfl ?_
      refine q_if_ne cx (pc' := 61) (tgt := 63) dX9_takesTest_58 (by decide) rfl (fun c58 => ?_) (fun c58 => ?_)
      · replace h := ine c58 h
        refine q_aload_n cx (pc' := 64) 2 rfl dX9_takesTest_63 rfl ?_
        refine q_sipush cx (pc' := 67) ks_1000 dX9_takesTest_64 rfl ?_
        refine q_iload_n cx (pc' := 68) 1 rfl dX9_takesTest_67 rfl ?_
        refine q_imul cx (pc' := 69) dX9_takesTest_68 rfl ?_
        refine q_bipush cx (pc' := 71) kb_100 dX9_takesTest_69 rfl ?_
        refine q_iload_n cx (pc' := 72) 0 rfl dX9_takesTest_71 rfl ?_
        refine q_bipush cx (pc' := 74) kb_60 dX9_takesTest_72 rfl ?_
        refine q_isub cx (pc' := 75) dX9_takesTest_74 rfl ?_
        refine q_imul cx (pc' := 76) dX9_takesTest_75 rfl ?_
        refine q_iadd cx (pc' := 77) dX9_takesTest_76 rfl ?_
        refine q_aload_n cx (pc' := 78) 2 rfl dX9_takesTest_77 rfl ?_
        obtain ⟨ht78, x78, ex78, h⟩ := gI_i h
        refine q_gI cx (pc' := 81) 9 11 fl_X9_44 rfl ht78 ex78 dX9_takesTest_78 rfl ?_
        refine q_iadd cx (pc' := 82) dX9_takesTest_81 rfl ?_
        obtain ⟨hk82, h⟩ := ck_i h
        obtain ⟨M82, hc82, h⟩ := bnd_i h
        refine q_callV cx (pc' := 85) (S := []) (S1 := []) (kc' := 0) (ks' := 0) 9 (ct_X9_emits Γ l M55 ths (((1000 * v1_8) + (100 * (c26 - 60))) + x78) hk82 _ hc82) lki_X9_emits lkv_X9_emits lkc_X9_264 hk82 (r := (RX9, TX9, 70)) ⟨rfl, by decide, rfl⟩ rfl rfl (Nat.le_of_ble_eq_true rfl) ⟨(Nat.le_of_ble_eq_true rfl), (Nat.le_of_ble_eq_true rfl)⟩ ⟨(Nat.le_of_ble_eq_true rfl), (Nat.le_of_ble_eq_true rfl)⟩ dX9_takesTest_82 rfl rfl rfl ?_
        refine q_aload_n cx (pc' := 86) 2 rfl dX9_takesTest_85 rfl ?_
        obtain ⟨hk86, h⟩ := ck_i h
        obtain ⟨M86, hc86, h⟩ := bnd_i h
        refine q_callV cx (pc' := 89) (S := []) (S1 := []) (kc' := 0) (ks' := 0) 9 (ct_X9_whole Γ l M82 ths hk86 _ hc86) lki_X9_whole lkv_X9_whole lkc_X9_275 hk86 (r := (RX9, TX9, 70)) ⟨rfl, by decide, rfl⟩ rfl rfl (Nat.le_of_ble_eq_true rfl) ⟨(Nat.le_of_ble_eq_true rfl), (Nat.le_of_ble_eq_true rfl)⟩ ⟨(Nat.le_of_ble_eq_true rfl), (Nat.le_of_ble_eq_true rfl)⟩ dX9_takesTest_86 rfl rfl rfl ?_
        refine q_iconst cx (pc' := 90) ki_1 dX9_takesTest_89 rfl ?_
        obtain ⟨rfl, rfl⟩ := o2_i h
        rw [hQ]
        exact q_nret cx rfl dX9_takesTest_90
      · replace h := ip c58 h
        refine q_iconst cx (pc' := 62) ki_0 dX9_takesTest_61 rfl ?_
        obtain ⟨rfl, rfl⟩ := o2_i h
        rw [hQ]
        exact q_nret cx rfl dX9_takesTest_62
    · replace h := ip c39 h
      refine q_iconst cx (pc' := 43) ki_0 dX9_takesTest_42 rfl ?_
      obtain ⟨rfl, rfl⟩ := o2_i h
      rw [hQ]
      exact q_nret cx rfl dX9_takesTest_43
  · replace h := ine c10 h
    refine q_iconst cx (pc' := 14) ki_0 dX9_takesTest_13 rfl ?_
    obtain ⟨rfl, rfl⟩ := o2_i h
    rw [hQ]
    exact q_nret cx rfl dX9_takesTest_14

abbrev rm_X9_takesE : Room := { frames := 5, cells := 0, slots := 0, locals := 126 }
def jn_X9_takesE_122_22 (ths : Nat) (j3_122 : Int32) (Mj_122 : QM) : Option ((Int32 × QM) ⊕ (Int32 × QM)) :=
  ck Mj_122 ths 9 <|
  bnd (fn_X9_settle Mj_122 ths j3_122) fun M124 =>
  gR M124 ths 9 19 fun r128 =>
  gI M124 ths 9 21 fun x132 =>
  wI M124 20 r128 x132 j3_122 fun M136 =>
  gI M136 ths 9 21 fun x139 =>
  pI M136 ths 9 21 (x139 + 1) fun M144 =>
  gI M144 ths 9 10 fun x151 =>
  pI M144 ths 9 10 (x151 + 1) fun M156 =>
  some (.inl (1, M156))
def jn_X9_takesE_43_22 (ths : Nat) (j2_43 : Int32) (j3_43 : Int32) (Mj_43 : QM) : Option ((Int32 × QM) ⊕ (Int32 × QM)) :=
  gI Mj_43 ths 9 22 fun x44 =>
  if x44 = 4 then
    some (.inr (0, Mj_43))
  else
    gI Mj_43 ths 9 22 fun x55 =>
    pI Mj_43 ths 9 22 (x55 + 1) fun M60 =>
    gR M60 ths 9 19 fun r64 =>
    gI M60 ths 9 21 fun x68 =>
    wI M60 20 r64 x68 j3_43 fun M72 =>
    gI M72 ths 9 21 fun x75 =>
    pI M72 ths 9 21 (x75 + 1) fun M80 =>
    gI M80 ths 9 10 fun x85 =>
    pI M80 ths 9 10 (x85 + 1) fun M90 =>
    some (.inl (j2_43, M90))
def lp_X9_takesE_22 (ths : Nat) (p1 : Int32) (w2_22 : Int32) (Mw_22 : QM) : Option ((Int32 × QM) ⊕ (Int32 × QM)) :=
  ck Mw_22 ths 9 <|
  bnd (fn_X9_next Mw_22 ths) fun c23 =>
  if w2_22 = 0 then
    if c23 = 38 then
      jn_X9_takesE_122_22 ths c23 Mw_22
    else
      if c23 = 124 then
        jn_X9_takesE_122_22 ths c23 Mw_22
      else
        ck Mw_22 ths 9 <|
        bnd (fn_X9_settle Mw_22 ths 124) fun M165 =>
        gR M165 ths 9 17 fun r169 =>
        gI M165 ths 9 20 fun x174 =>
        wI M165 20 r169 p1 x174 fun M177 =>
        gI M177 ths 9 21 fun x179 =>
        if x179 = 0 then
          some (.inr (1, M177))
        else
          if c23 = 41 then
            gI M177 ths 9 21 fun x197 =>
            pI M177 ths 9 21 (x197 - 1) fun M202 =>
            gI M202 ths 9 22 fun x207 =>
            pI M202 ths 9 22 (x207 - 1) fun M212 =>
            gI M212 ths 9 10 fun x217 =>
            pI M212 ths 9 10 (x217 + 1) fun M222 =>
            ck M222 ths 9 <|
            bnd (fn_X9_whole M222 ths) fun M226 =>
            some (.inl (w2_22, M226))
          else
            some (.inr (0, M177))
  else
    if c23 = 33 then
      jn_X9_takesE_43_22 ths w2_22 c23 Mw_22
    else
      if c23 = 40 then
        jn_X9_takesE_43_22 ths w2_22 c23 Mw_22
      else
        ck Mw_22 ths 9 <|
        bnd (fn_X9_takesTest Mw_22 ths) fun y97 =>
        pr2 y97 fun c97 M97 =>
        if c97 = 0 then
          some (.inr (0, M97))
        else
          some (.inl (0, M97))
def fn_X9_takesE (M : QM) (ths : Nat) (p1 : Int32) : Option (Int32 × QM) :=
  pI M ths 9 21 0 fun M2 =>
  pI M2 ths 9 22 0 fun M7 =>
  gR M7 ths 9 16 fun r11 =>
  gI M7 ths 9 20 fun x16 =>
  wI M7 20 r11 p1 x16 fun M19 =>
  bnd (itr (fun s22 : Int32 × QM => lp_X9_takesE_22 ths p1 s22.1 s22.2) FU (1, M19)) fun r22 =>
  pr2 r22 fun re_22 Mr_22 =>
  some (re_22, Mr_22)
set_option maxRecDepth 100000 in
set_option maxHeartbeats 4000000 in
theorem ct_X9_takesE (Γ : GT) (l : Launch) (M : QM) (ths : Nat) (p1 : Int32) (ht0 : mt M ths = 9) (z : Int32) (M' : QM) (h : fn_X9_takesE M ths p1 = some (z, M')) : CT Γ l yX9_takesE cX9_takesE 4 (some .boolean) rm_X9_takesE (.ref ths :: [.int p1]) M (some (.int z)) M' := by
  refine ct_intro (own := RX9) (L := [(0, .ref ths), (1, .int p1)]) (by decide +kernel) rfl (Nat.le_of_ble_eq_true rfl) rfl ?_
  intro p e s m args below meth c Q hQ cx hnm
  unfold fn_X9_takesE at h
  refine q_aload_n cx (pc' := 1) 0 rfl dX9_takesE_0 rfl ?_
  refine q_iconst cx (pc' := 2) ki_0 dX9_takesE_1 rfl ?_
  obtain ⟨ht2, M2, eM2, h⟩ := pI_i h
  refine q_pI cx (pc' := 5) 9 21 fl_X9_74 rfl ht2 (ty := .int) ⟨(RX9, TX9, 70), rfl, by decide +kernel, Or.inl rfl⟩ rfl rfl eM2 dX9_takesE_2 rfl ?_
  refine q_aload_n cx (pc' := 6) 0 rfl dX9_takesE_5 rfl ?_
  refine q_iconst cx (pc' := 7) ki_0 dX9_takesE_6 rfl ?_
  obtain ⟨ht7, M7, eM7, h⟩ := pI_i h
  refine q_pI cx (pc' := 10) 9 22 fl_X9_77 rfl ht7 (ty := .int) ⟨(RX9, TX9, 70), rfl, by decide +kernel, Or.inl rfl⟩ rfl rfl eM7 dX9_takesE_7 rfl ?_
  refine q_aload_n cx (pc' := 11) 0 rfl dX9_takesE_10 rfl ?_
  obtain ⟨ht11, r11, ex11, h⟩ := gR_i h
  refine q_gR cx (pc' := 14) 9 16 fl_X9_59 rfl ht11 ex11 dX9_takesE_11 rfl ?_
  refine q_iload_n cx (pc' := 15) 1 rfl dX9_takesE_14 rfl ?_
  refine q_aload_n cx (pc' := 16) 0 rfl dX9_takesE_15 rfl ?_
  obtain ⟨ht16, x16, ex16, h⟩ := gI_i h
  refine q_gI cx (pc' := 19) 9 20 fl_X9_71 rfl ht16 ex16 dX9_takesE_16 rfl ?_
  obtain ⟨ht19, hi19, M19, eM19, h⟩ := wI_i h
  refine q_iast cx (pc' := 20) ht19 hi19 eM19 dX9_takesE_19 rfl ?_
  refine q_iconst cx (pc' := 21) ki_1 dX9_takesE_20 rfl ?_
  refine q_istore_n cx (pc' := 22) rfl rfl (by decide) (L' := [(2, .int 1), (0, .ref ths), (1, .int p1)]) rfl dX9_takesE_21 rfl ?_
  obtain ⟨r22, hL22, h⟩ := bnd_i h
  have hk22_r : ∀ (re_22 : Int32) (Mr_22 : QM), (re_22, Mr_22) = r22 → some (re_22, Mr_22) = some (z, M') := by
    intro re_22 Mr_22 hp
    subst hp
    replace h := pr2_i h
    exact h
  have key22 : ∀ (n : Nat) (w2_22 : Int32) (Mw_22 : QM), itr (fun s22 : Int32 × QM => lp_X9_takesE_22 ths p1 s22.1 s22.2) n (w2_22, Mw_22) = some r22 → EE p l e rm_X9_takesE s m args below meth c Q Γ 4 0 0 22 [(0, .ref ths), (1, .int p1), (2, .int w2_22)] [] Mw_22 := by
    intro n
    induction n with
    | zero => intro _ _ h; exact (itr_0 h).elim
    | succ n ih =>
      intro w2_22 Mw_22 h
      obtain ⟨z22, h, hz22⟩ := itr_i h
      replace h : lp_X9_takesE_22 ths p1 w2_22 Mw_22 = some z22 := h
      unfold lp_X9_takesE_22 at h
      have hj122 : ∀ (j3_122 : Int32) (Mj_122 : QM), jn_X9_takesE_122_22 ths j3_122 Mj_122 = some z22 → EE p l e rm_X9_takesE s m args below meth c Q Γ 4 0 0 122 [(0, .ref ths), (1, .int p1), (3, .int j3_122)] [] Mj_122 := by
        intro j3_122 Mj_122 h
        unfold jn_X9_takesE_122_22 at h
        refine q_aload_n cx (pc' := 123) 0 rfl dX9_takesE_122 rfl ?_
        refine q_iload_n cx (pc' := 124) 2 rfl dX9_takesE_123 rfl ?_
        obtain ⟨hk124, h⟩ := ck_i h
        obtain ⟨M124, hc124, h⟩ := bnd_i h
        refine q_callV cx (pc' := 127) (S := []) (S1 := []) (kc' := 0) (ks' := 0) 9 (ct_X9_settle Γ l Mj_122 ths j3_122 hk124 _ hc124) lki_X9_settle lkv_X9_settle lkc_X9_281 hk124 (r := (RX9, TX9, 70)) ⟨rfl, by decide, rfl⟩ rfl rfl (Nat.le_of_ble_eq_true rfl) ⟨(Nat.le_of_ble_eq_true rfl), (Nat.le_of_ble_eq_true rfl)⟩ ⟨(Nat.le_of_ble_eq_true rfl), (Nat.le_of_ble_eq_true rfl)⟩ dX9_takesE_124 rfl rfl rfl ?_
        refine q_aload_n cx (pc' := 128) 0 rfl dX9_takesE_127 rfl ?_
        obtain ⟨ht128, r128, ex128, h⟩ := gR_i h
        refine q_gR cx (pc' := 131) 9 19 fl_X9_68 rfl ht128 ex128 dX9_takesE_128 rfl ?_
        refine q_aload_n cx (pc' := 132) 0 rfl dX9_takesE_131 rfl ?_
        obtain ⟨ht132, x132, ex132, h⟩ := gI_i h
        refine q_gI cx (pc' := 135) 9 21 fl_X9_74 rfl ht132 ex132 dX9_takesE_132 rfl ?_
        refine q_iload_n cx (pc' := 136) 2 rfl dX9_takesE_135 rfl ?_
        obtain ⟨ht136, hi136, M136, eM136, h⟩ := wI_i h
        refine q_iast cx (pc' := 137) ht136 hi136 eM136 dX9_takesE_136 rfl ?_
        refine q_aload_n cx (pc' := 138) 0 rfl dX9_takesE_137 rfl ?_
        refine q_dup cx (pc' := 139) rfl dX9_takesE_138 rfl ?_
        obtain ⟨ht139, x139, ex139, h⟩ := gI_i h
        refine q_gI cx (pc' := 142) 9 21 fl_X9_74 rfl ht139 ex139 dX9_takesE_139 rfl ?_
        refine q_iconst cx (pc' := 143) ki_1 dX9_takesE_142 rfl ?_
        refine q_iadd cx (pc' := 144) dX9_takesE_143 rfl ?_
        obtain ⟨ht144, M144, eM144, h⟩ := pI_i h
        refine q_pI cx (pc' := 147) 9 21 fl_X9_74 rfl ht144 (ty := .int) ⟨(RX9, TX9, 70), rfl, by decide +kernel, Or.inl rfl⟩ rfl rfl eM144 dX9_takesE_144 rfl ?_
        refine q_iconst cx (pc' := 148) ki_1 dX9_takesE_147 rfl ?_
        refine q_istore_n cx (pc' := 149) rfl rfl (by decide) (L' := [(2, .int 1), (0, .ref ths), (1, .int p1), (3, .int j3_122)]) rfl dX9_takesE_148 rfl ?_
        refine q_aload_n cx (pc' := 150) 1 rfl dX9_takesE_149 rfl ?_
        refine q_dup cx (pc' := 151) rfl dX9_takesE_150 rfl ?_
        obtain ⟨ht151, x151, ex151, h⟩ := gI_i h
        refine q_gI cx (pc' := 154) 9 10 fl_X9_41 rfl ht151 ex151 dX9_takesE_151 rfl ?_
        refine q_iconst cx (pc' := 155) ki_1 dX9_takesE_154 rfl ?_
        refine q_iadd cx (pc' := 156) dX9_takesE_155 rfl ?_
        obtain ⟨ht156, M156, eM156, h⟩ := pI_i h
        refine q_pI cx (pc' := 159) 9 10 fl_X9_41 rfl ht156 (ty := .int) ⟨(RX9, TX9, 70), rfl, by decide +kernel, Or.inl rfl⟩ rfl rfl eM156 dX9_takesE_156 rfl ?_
        refine q_goto cx dX9_takesE_159 (tgt := 22) (by decide) ?_
        refine q_sub cx [1, 2, 0] rfl ?_
        exact ih _ _ (hz22.1 _ h)
      have hj43 : ∀ (j2_43 : Int32) (j3_43 : Int32) (Mj_43 : QM), jn_X9_takesE_43_22 ths j2_43 j3_43 Mj_43 = some z22 → EE p l e rm_X9_takesE s m args below meth c Q Γ 4 0 0 43 [(0, .ref ths), (1, .int p1), (2, .int j2_43), (3, .int j3_43)] [] Mj_43 := by
        intro j2_43 j3_43 Mj_43 h
        unfold jn_X9_takesE_43_22 at h
        refine q_aload_n cx (pc' := 44) 0 rfl dX9_takesE_43 rfl ?_
        obtain ⟨ht44, x44, ex44, h⟩ := gI_i h
        refine q_gI cx (pc' := 47) 9 22 fl_X9_77 rfl ht44 ex44 dX9_takesE_44 rfl ?_
        refine q_iconst cx (pc' := 48) ki_4 dX9_takesE_47 rfl ?_
        refine q_icmp_ne cx (pc' := 51) (tgt := 53) dX9_takesE_48 (by decide) rfl (fun c48 => ?_) (fun c48 => ?_)
        · replace h := ine c48 h
          refine q_aload_n cx (pc' := 54) 0 rfl dX9_takesE_53 rfl ?_
          refine q_dup cx (pc' := 55) rfl dX9_takesE_54 rfl ?_
          obtain ⟨ht55, x55, ex55, h⟩ := gI_i h
          refine q_gI cx (pc' := 58) 9 22 fl_X9_77 rfl ht55 ex55 dX9_takesE_55 rfl ?_
          refine q_iconst cx (pc' := 59) ki_1 dX9_takesE_58 rfl ?_
          refine q_iadd cx (pc' := 60) dX9_takesE_59 rfl ?_
          obtain ⟨ht60, M60, eM60, h⟩ := pI_i h
          refine q_pI cx (pc' := 63) 9 22 fl_X9_77 rfl ht60 (ty := .int) ⟨(RX9, TX9, 70), rfl, by decide +kernel, Or.inl rfl⟩ rfl rfl eM60 dX9_takesE_60 rfl ?_
          refine q_aload_n cx (pc' := 64) 0 rfl dX9_takesE_63 rfl ?_
          obtain ⟨ht64, r64, ex64, h⟩ := gR_i h
          refine q_gR cx (pc' := 67) 9 19 fl_X9_68 rfl ht64 ex64 dX9_takesE_64 rfl ?_
          refine q_aload_n cx (pc' := 68) 0 rfl dX9_takesE_67 rfl ?_
          obtain ⟨ht68, x68, ex68, h⟩ := gI_i h
          refine q_gI cx (pc' := 71) 9 21 fl_X9_74 rfl ht68 ex68 dX9_takesE_68 rfl ?_
          refine q_iload_n cx (pc' := 72) 3 rfl dX9_takesE_71 rfl ?_
          obtain ⟨ht72, hi72, M72, eM72, h⟩ := wI_i h
          refine q_iast cx (pc' := 73) ht72 hi72 eM72 dX9_takesE_72 rfl ?_
          refine q_aload_n cx (pc' := 74) 0 rfl dX9_takesE_73 rfl ?_
          refine q_dup cx (pc' := 75) rfl dX9_takesE_74 rfl ?_
          obtain ⟨ht75, x75, ex75, h⟩ := gI_i h
          refine q_gI cx (pc' := 78) 9 21 fl_X9_74 rfl ht75 ex75 dX9_takesE_75 rfl ?_
          refine q_iconst cx (pc' := 79) ki_1 dX9_takesE_78 rfl ?_
          refine q_iadd cx (pc' := 80) dX9_takesE_79 rfl ?_
          obtain ⟨ht80, M80, eM80, h⟩ := pI_i h
          refine q_pI cx (pc' := 83) 9 21 fl_X9_74 rfl ht80 (ty := .int) ⟨(RX9, TX9, 70), rfl, by decide +kernel, Or.inl rfl⟩ rfl rfl eM80 dX9_takesE_80 rfl ?_
          refine q_aload_n cx (pc' := 84) 0 rfl dX9_takesE_83 rfl ?_
          refine q_dup cx (pc' := 85) rfl dX9_takesE_84 rfl ?_
          obtain ⟨ht85, x85, ex85, h⟩ := gI_i h
          refine q_gI cx (pc' := 88) 9 10 fl_X9_41 rfl ht85 ex85 dX9_takesE_85 rfl ?_
          refine q_iconst cx (pc' := 89) ki_1 dX9_takesE_88 rfl ?_
          refine q_iadd cx (pc' := 90) dX9_takesE_89 rfl ?_
          obtain ⟨ht90, M90, eM90, h⟩ := pI_i h
          refine q_pI cx (pc' := 93) 9 10 fl_X9_41 rfl ht90 (ty := .int) ⟨(RX9, TX9, 70), rfl, by decide +kernel, Or.inl rfl⟩ rfl rfl eM90 dX9_takesE_90 rfl ?_
          refine q_goto cx dX9_takesE_93 (tgt := 22) (by decide) ?_
          refine q_sub cx [0, 1, 2] rfl ?_
          exact ih _ _ (hz22.1 _ h)
        · replace h := ip c48 h
          refine q_iconst cx (pc' := 52) ki_0 dX9_takesE_51 rfl ?_
          replace h := hk22_r _ _ (hz22.2 _ h)
          obtain ⟨rfl, rfl⟩ := o2_i h
          rw [hQ]
          exact q_nret cx rfl dX9_takesE_52
      refine q_aload_n cx (pc' := 23) 0 rfl dX9_takesE_22 rfl ?_
      obtain ⟨hk23, h⟩ := ck_i h
      obtain ⟨c23, hc23, h⟩ := bnd_i h
      refine q_callV cx (pc' := 26) (S := []) (S1 := [.int c23]) (kc' := 0) (ks' := 0) 9 (ct_X9_next Γ l Mw_22 ths hk23 _ hc23) lki_X9_next lkv_X9_next lkc_X9_253 hk23 (r := (RX9, TX9, 70)) ⟨rfl, by decide, rfl⟩ rfl rfl (Nat.le_of_ble_eq_true rfl) ⟨(Nat.le_of_ble_eq_true rfl), (Nat.le_of_ble_eq_true rfl)⟩ ⟨(Nat.le_of_ble_eq_true rfl), (Nat.le_of_ble_eq_true rfl)⟩ dX9_takesE_23 rfl rfl rfl ?_
      refine q_istore_n cx (pc' := 27) rfl rfl (by decide) (L' := [(3, .int c23), (0, .ref ths), (1, .int p1), (2, .int w2_22)]) rfl dX9_takesE_26 rfl ?_
      refine q_iload_n cx (pc' := 28) 3 rfl dX9_takesE_27 rfl ?_
      refine q_if_eq cx (pc' := 31) (tgt := 110) dX9_takesE_28 (by decide) rfl (fun c28 => ?_) (fun c28 => ?_)
      · replace h := ip c28 h
        refine q_iload_n cx (pc' := 111) 0 rfl dX9_takesE_110 rfl ?_
        refine q_bipush cx (pc' := 113) kb_38 dX9_takesE_111 rfl ?_
        refine q_icmp_eq cx (pc' := 116) (tgt := 122) dX9_takesE_113 (by decide) rfl (fun c113 => ?_) (fun c113 => ?_)
        · replace h := ip c113 h
          refine q_sub cx [1, 2, 0] rfl ?_
          exact hj122 _ _ h
        · replace h := ine c113 h
          refine q_iload_n cx (pc' := 117) 0 rfl dX9_takesE_116 rfl ?_
          refine q_bipush cx (pc' := 119) kb_124 dX9_takesE_117 rfl ?_
          refine q_icmp_ne cx (pc' := 122) (tgt := 162) dX9_takesE_119 (by decide) rfl (fun c119 => ?_) (fun c119 => ?_)
          · replace h := ine c119 h
            refine q_aload_n cx (pc' := 163) 1 rfl dX9_takesE_162 rfl ?_
            refine q_bipush cx (pc' := 165) kb_124 dX9_takesE_163 rfl ?_
            obtain ⟨hk165, h⟩ := ck_i h
            obtain ⟨M165, hc165, h⟩ := bnd_i h
            refine q_callV cx (pc' := 168) (S := []) (S1 := []) (kc' := 0) (ks' := 0) 9 (ct_X9_settle Γ l Mw_22 ths 124 hk165 _ hc165) lki_X9_settle lkv_X9_settle lkc_X9_281 hk165 (r := (RX9, TX9, 70)) ⟨rfl, by decide, rfl⟩ rfl rfl (Nat.le_of_ble_eq_true rfl) ⟨(Nat.le_of_ble_eq_true rfl), (Nat.le_of_ble_eq_true rfl)⟩ ⟨(Nat.le_of_ble_eq_true rfl), (Nat.le_of_ble_eq_true rfl)⟩ dX9_takesE_165 rfl rfl rfl ?_
            refine q_aload_n cx (pc' := 169) 1 rfl dX9_takesE_168 rfl ?_
            obtain ⟨ht169, r169, ex169, h⟩ := gR_i h
            refine q_gR cx (pc' := 172) 9 17 fl_X9_62 rfl ht169 ex169 dX9_takesE_169 rfl ?_
            refine q_iload_n cx (pc' := 173) 2 rfl dX9_takesE_172 rfl ?_
            refine q_aload_n cx (pc' := 174) 1 rfl dX9_takesE_173 rfl ?_
            obtain ⟨ht174, x174, ex174, h⟩ := gI_i h
            refine q_gI cx (pc' := 177) 9 20 fl_X9_71 rfl ht174 ex174 dX9_takesE_174 rfl ?_
            obtain ⟨ht177, hi177, M177, eM177, h⟩ := wI_i h
            refine q_iast cx (pc' := 178) ht177 hi177 eM177 dX9_takesE_177 rfl ?_
            refine q_aload_n cx (pc' := 179) 1 rfl dX9_takesE_178 rfl ?_
            obtain ⟨ht179, x179, ex179, h⟩ := gI_i h
            refine q_gI cx (pc' := 182) 9 21 fl_X9_74 rfl ht179 ex179 dX9_takesE_179 rfl ?_
            refine q_if_ne cx (pc' := 185) (tgt := 187) dX9_takesE_182 (by decide) rfl (fun c182 => ?_) (fun c182 => ?_)
            · replace h := ine c182 h
              refine q_iload_n cx (pc' := 188) 0 rfl dX9_takesE_187 rfl ?_
              refine q_bipush cx (pc' := 190) kb_41 dX9_takesE_188 rfl ?_
              refine q_icmp_eq cx (pc' := 193) (tgt := 195) dX9_takesE_190 (by decide) rfl (fun c190 => ?_) (fun c190 => ?_)
              · replace h := ip c190 h
                refine q_aload_n cx (pc' := 196) 1 rfl dX9_takesE_195 rfl ?_
                refine q_dup cx (pc' := 197) rfl dX9_takesE_196 rfl ?_
                obtain ⟨ht197, x197, ex197, h⟩ := gI_i h
                refine q_gI cx (pc' := 200) 9 21 fl_X9_74 rfl ht197 ex197 dX9_takesE_197 rfl ?_
                refine q_iconst cx (pc' := 201) ki_1 dX9_takesE_200 rfl ?_
                refine q_isub cx (pc' := 202) dX9_takesE_201 rfl ?_
                obtain ⟨ht202, M202, eM202, h⟩ := pI_i h
                refine q_pI cx (pc' := 205) 9 21 fl_X9_74 rfl ht202 (ty := .int) ⟨(RX9, TX9, 70), rfl, by decide +kernel, Or.inl rfl⟩ rfl rfl eM202 dX9_takesE_202 rfl ?_
                refine q_aload_n cx (pc' := 206) 1 rfl dX9_takesE_205 rfl ?_
                refine q_dup cx (pc' := 207) rfl dX9_takesE_206 rfl ?_
                obtain ⟨ht207, x207, ex207, h⟩ := gI_i h
                refine q_gI cx (pc' := 210) 9 22 fl_X9_77 rfl ht207 ex207 dX9_takesE_207 rfl ?_
                refine q_iconst cx (pc' := 211) ki_1 dX9_takesE_210 rfl ?_
                refine q_isub cx (pc' := 212) dX9_takesE_211 rfl ?_
                obtain ⟨ht212, M212, eM212, h⟩ := pI_i h
                refine q_pI cx (pc' := 215) 9 22 fl_X9_77 rfl ht212 (ty := .int) ⟨(RX9, TX9, 70), rfl, by decide +kernel, Or.inl rfl⟩ rfl rfl eM212 dX9_takesE_212 rfl ?_
                refine q_aload_n cx (pc' := 216) 1 rfl dX9_takesE_215 rfl ?_
                refine q_dup cx (pc' := 217) rfl dX9_takesE_216 rfl ?_
                obtain ⟨ht217, x217, ex217, h⟩ := gI_i h
                refine q_gI cx (pc' := 220) 9 10 fl_X9_41 rfl ht217 ex217 dX9_takesE_217 rfl ?_
                refine q_iconst cx (pc' := 221) ki_1 dX9_takesE_220 rfl ?_
                refine q_iadd cx (pc' := 222) dX9_takesE_221 rfl ?_
                obtain ⟨ht222, M222, eM222, h⟩ := pI_i h
                refine q_pI cx (pc' := 225) 9 10 fl_X9_41 rfl ht222 (ty := .int) ⟨(RX9, TX9, 70), rfl, by decide +kernel, Or.inl rfl⟩ rfl rfl eM222 dX9_takesE_222 rfl ?_
                refine q_aload_n cx (pc' := 226) 1 rfl dX9_takesE_225 rfl ?_
                obtain ⟨hk226, h⟩ := ck_i h
                obtain ⟨M226, hc226, h⟩ := bnd_i h
                refine q_callV cx (pc' := 229) (S := []) (S1 := []) (kc' := 0) (ks' := 0) 9 (ct_X9_whole Γ l M222 ths hk226 _ hc226) lki_X9_whole lkv_X9_whole lkc_X9_275 hk226 (r := (RX9, TX9, 70)) ⟨rfl, by decide, rfl⟩ rfl rfl (Nat.le_of_ble_eq_true rfl) ⟨(Nat.le_of_ble_eq_true rfl), (Nat.le_of_ble_eq_true rfl)⟩ ⟨(Nat.le_of_ble_eq_true rfl), (Nat.le_of_ble_eq_true rfl)⟩ dX9_takesE_226 rfl rfl rfl ?_
                refine q_goto cx dX9_takesE_229 (tgt := 22) (by decide) ?_
                refine q_sub cx [1, 2, 3] rfl ?_
                exact ih _ _ (hz22.1 _ h)
              · replace h := ine c190 h
                refine q_iconst cx (pc' := 194) ki_0 dX9_takesE_193 rfl ?_
                replace h := hk22_r _ _ (hz22.2 _ h)
                obtain ⟨rfl, rfl⟩ := o2_i h
                rw [hQ]
                exact q_nret cx rfl dX9_takesE_194
            · replace h := ip c182 h
              refine q_iconst cx (pc' := 186) ki_1 dX9_takesE_185 rfl ?_
              replace h := hk22_r _ _ (hz22.2 _ h)
              obtain ⟨rfl, rfl⟩ := o2_i h
              rw [hQ]
              exact q_nret cx rfl dX9_takesE_186
          · replace h := ip c119 h
            refine q_sub cx [1, 2, 0] rfl ?_
            exact hj122 _ _ h
      · replace h := ine c28 h
        refine q_iload_n cx (pc' := 32) 0 rfl dX9_takesE_31 rfl ?_
        refine q_bipush cx (pc' := 34) kb_33 dX9_takesE_32 rfl ?_
        refine q_icmp_eq cx (pc' := 37) (tgt := 43) dX9_takesE_34 (by decide) rfl (fun c34 => ?_) (fun c34 => ?_)
        · replace h := ip c34 h
          refine q_sub cx [1, 2, 3, 0] rfl ?_
          exact hj43 _ _ _ h
        · replace h := ine c34 h
          refine q_iload_n cx (pc' := 38) 0 rfl dX9_takesE_37 rfl ?_
          refine q_bipush cx (pc' := 40) kb_40 dX9_takesE_38 rfl ?_
          refine q_icmp_ne cx (pc' := 43) (tgt := 96) dX9_takesE_40 (by decide) rfl (fun c40 => ?_) (fun c40 => ?_)
          · replace h := ine c40 h
            refine q_aload_n cx (pc' := 97) 1 rfl dX9_takesE_96 rfl ?_
            obtain ⟨hk97, h⟩ := ck_i h
            obtain ⟨⟨c97, M97⟩, hc97, h⟩ := bnd_i h
            replace h := pr2_i h
            refine q_callV cx (pc' := 100) (S := []) (S1 := [.int c97]) (kc' := 0) (ks' := 0) 9 (ct_X9_takesTest Γ l Mw_22 ths hk97 _ _ hc97) lki_X9_takesTest lkv_X9_takesTest lkc_X9_278 hk97 (r := (RX9, TX9, 70)) ⟨rfl, by decide, rfl⟩ rfl rfl (Nat.le_of_ble_eq_true rfl) ⟨(Nat.le_of_ble_eq_true rfl), (Nat.le_of_ble_eq_true rfl)⟩ ⟨(Nat.le_of_ble_eq_true rfl), (Nat.le_of_ble_eq_true rfl)⟩ dX9_takesE_97 rfl rfl rfl ?_
            refine q_if_eq cx (pc' := 103) (tgt := 108) dX9_takesE_100 (by decide) rfl (fun c100 => ?_) (fun c100 => ?_)
            · replace h := ip c100 h
              refine q_iconst cx (pc' := 109) ki_0 dX9_takesE_108 rfl ?_
              replace h := hk22_r _ _ (hz22.2 _ h)
              obtain ⟨rfl, rfl⟩ := o2_i h
              rw [hQ]
              exact q_nret cx rfl dX9_takesE_109
            · replace h := ine c100 h
              refine q_iconst cx (pc' := 104) ki_0 dX9_takesE_103 rfl ?_
              refine q_istore_n cx (pc' := 105) rfl rfl (by decide) (L' := [(2, .int 0), (3, .int c23), (0, .ref ths), (1, .int p1)]) rfl dX9_takesE_104 rfl ?_
              refine q_goto cx dX9_takesE_105 (tgt := 22) (by decide) ?_
              refine q_sub cx [2, 3, 0] rfl ?_
              exact ih _ _ (hz22.1 _ h)
          · replace h := ip c40 h
            refine q_sub cx [1, 2, 3, 0] rfl ?_
            exact hj43 _ _ _ h
  refine q_sub cx [1, 2, 0] rfl ?_
  exact key22 FU _ _ hL22

abbrev rm_X9_takesHead : Room := { frames := 4, cells := 0, slots := 0, locals := 104 }
def jn_X9_takesHead_101 (ths : Nat) (p1 : Int32) (js0_101 : Int32) (js1_101 : Int32) (js2_101 : Nat) (Mj_101 : QM) : Option (Int32 × QM) :=
  wI Mj_101 20 js2_101 js1_101 js0_101 fun M101 =>
  gR M101 ths 9 14 fun r103 =>
  aI M101 20 r103 p1 fun x107 =>
  if x107 = 1 then
    ck M101 ths 9 <|
    bnd (fn_X9_takesWord M101 ths 5 4) fun y115 =>
    pr2 y115 fun c115 M115 =>
    some (zb c115, M115)
  else
    ck M101 ths 9 <|
    bnd (fn_X9_takesWord M101 ths 0 5) fun y124 =>
    pr2 y124 fun c124 M124 =>
    some (zb c124, M124)
def jn_X9_takesHead_100 (ths : Nat) (p1 : Int32) (js0_100 : Int32) (js1_100 : Nat) (Mj_100 : QM) : Option (Int32 × QM) :=
  jn_X9_takesHead_101 ths p1 0 js0_100 js1_100 Mj_100
def fn_X9_takesHead (M : QM) (ths : Nat) (p1 : Int32) : Option (Int32 × QM) :=
  bnd (fn_X9_next M ths) fun c1 =>
  if c1 = 109 then
    gR M ths 9 14 fun r48 =>
    wI M 20 r48 p1 3 fun M53 =>
    ck M53 ths 9 <|
    bnd (fn_X9_takesWord M53 ths 14 4) fun y58 =>
    pr2 y58 fun c58 M58 =>
    some (zb c58, M58)
  else if c1 = 115 then
    gR M ths 9 14 fun r33 =>
    wI M 20 r33 p1 2 fun M38 =>
    ck M38 ths 9 <|
    bnd (fn_X9_takesWord M38 ths 9 5) fun y43 =>
    pr2 y43 fun c43 M43 =>
    some (zb c43, M43)
  else 
    gR M ths 9 14 fun r63 =>
    gI M ths 9 10 fun x68 =>
    gI M ths 9 9 fun x74 =>
    if x74 ≤ (x68 + 3) then
      jn_X9_takesHead_100 ths p1 p1 r63 M
    else
      gR M ths 9 12 fun r81 =>
      gI M ths 9 10 fun x85 =>
      aI M 20 r81 (x85 + 3) fun x90 =>
      if x90 = 110 then
        jn_X9_takesHead_101 ths p1 1 p1 r63 M
      else
        jn_X9_takesHead_100 ths p1 p1 r63 M
set_option maxRecDepth 100000 in
set_option maxHeartbeats 4000000 in
theorem ct_X9_takesHead (Γ : GT) (l : Launch) (M : QM) (ths : Nat) (p1 : Int32) (ht0 : mt M ths = 9) (z : Int32) (M' : QM) (h : fn_X9_takesHead M ths p1 = some (z, M')) : CT Γ l yX9_takesHead cX9_takesHead 2 (some .boolean) rm_X9_takesHead (.ref ths :: [.int p1]) M (some (.int z)) M' := by
  refine ct_intro (own := RX9) (L := [(0, .ref ths), (1, .int p1)]) (by decide +kernel) rfl (Nat.le_of_ble_eq_true rfl) rfl ?_
  intro p e s m args below meth c Q hQ cx hnm
  unfold fn_X9_takesHead at h
  have hj101 : ∀ (js0_101 : Int32) (js1_101 : Int32) (js2_101 : Nat) (Mj_101 : QM), jn_X9_takesHead_101 ths p1 js0_101 js1_101 js2_101 Mj_101 = some (z, M') → EE p l e rm_X9_takesHead s m args below meth c Q Γ 2 0 0 101 [(0, .ref ths), (1, .int p1)] [.int js0_101, .int js1_101, .ref js2_101] Mj_101 := by
    intro js0_101 js1_101 js2_101 Mj_101 h
    unfold jn_X9_takesHead_101 at h
    obtain ⟨ht101, hi101, M101, eM101, h⟩ := wI_i h
    refine q_iast cx (pc' := 102) ht101 hi101 eM101 dX9_takesHead_101 rfl ?_
    refine q_aload_n cx (pc' := 103) 0 rfl dX9_takesHead_102 rfl ?_
    obtain ⟨ht103, r103, ex103, h⟩ := gR_i h
    refine q_gR cx (pc' := 106) 9 14 fl_X9_53 rfl ht103 ex103 dX9_takesHead_103 rfl ?_
    refine q_iload_n cx (pc' := 107) 1 rfl dX9_takesHead_106 rfl ?_
    obtain ⟨ht107, hi107, x107, ex107, h⟩ := aI_i h
    refine q_iald cx (pc' := 108) ht107 hi107 ex107 dX9_takesHead_107 rfl ?_
    refine q_iconst cx (pc' := 109) ki_1 dX9_takesHead_108 rfl ?_
    refine q_icmp_ne cx (pc' := 112) (tgt := 121) dX9_takesHead_109 (by decide) rfl (fun c109 => ?_) (fun c109 => ?_)
    · replace h := ine c109 h
      refine q_aload_n cx (pc' := 122) 0 rfl dX9_takesHead_121 rfl ?_
      refine q_iconst cx (pc' := 123) ki_0 dX9_takesHead_122 rfl ?_
      refine q_iconst cx (pc' := 124) ki_5 dX9_takesHead_123 rfl ?_
      obtain ⟨hk124, h⟩ := ck_i h
      obtain ⟨⟨c124, M124⟩, hc124, h⟩ := bnd_i h
      replace h := pr2_i h
      refine q_callV cx (pc' := 127) (S := []) (S1 := [.int c124]) (kc' := 0) (ks' := 0) 9 (ct_X9_takesWord Γ l M101 ths 0 5 hk124 _ _ hc124) lki_X9_takesWord lkv_X9_takesWord lkc_X9_284 hk124 (r := (RX9, TX9, 70)) ⟨rfl, by decide, rfl⟩ rfl rfl (Nat.le_of_ble_eq_true rfl) ⟨(Nat.le_of_ble_eq_true rfl), (Nat.le_of_ble_eq_true rfl)⟩ ⟨(Nat.le_of_ble_eq_true rfl), (Nat.le_of_ble_eq_true rfl)⟩ dX9_takesHead_124 rfl rfl rfl ?_
      obtain ⟨rfl, rfl⟩ := o2_i h
      rw [hQ]
      exact q_nret cx rfl dX9_takesHead_127
    · replace h := ip c109 h
      refine q_aload_n cx (pc' := 113) 0 rfl dX9_takesHead_112 rfl ?_
      refine q_iconst cx (pc' := 114) ki_5 dX9_takesHead_113 rfl ?_
      refine q_iconst cx (pc' := 115) ki_4 dX9_takesHead_114 rfl ?_
      obtain ⟨hk115, h⟩ := ck_i h
      obtain ⟨⟨c115, M115⟩, hc115, h⟩ := bnd_i h
      replace h := pr2_i h
      refine q_callV cx (pc' := 118) (S := []) (S1 := [.int c115]) (kc' := 0) (ks' := 0) 9 (ct_X9_takesWord Γ l M101 ths 5 4 hk115 _ _ hc115) lki_X9_takesWord lkv_X9_takesWord lkc_X9_284 hk115 (r := (RX9, TX9, 70)) ⟨rfl, by decide, rfl⟩ rfl rfl (Nat.le_of_ble_eq_true rfl) ⟨(Nat.le_of_ble_eq_true rfl), (Nat.le_of_ble_eq_true rfl)⟩ ⟨(Nat.le_of_ble_eq_true rfl), (Nat.le_of_ble_eq_true rfl)⟩ dX9_takesHead_115 rfl rfl rfl ?_
      refine q_goto cx dX9_takesHead_118 (tgt := 127) (by decide) ?_
      obtain ⟨rfl, rfl⟩ := o2_i h
      rw [hQ]
      exact q_nret cx rfl dX9_takesHead_127
  have hj100 : ∀ (js0_100 : Int32) (js1_100 : Nat) (Mj_100 : QM), jn_X9_takesHead_100 ths p1 js0_100 js1_100 Mj_100 = some (z, M') → EE p l e rm_X9_takesHead s m args below meth c Q Γ 2 0 0 100 [(0, .ref ths), (1, .int p1)] [.int js0_100, .ref js1_100] Mj_100 := by
    intro js0_100 js1_100 Mj_100 h
    unfold jn_X9_takesHead_100 at h
    refine q_iconst cx (pc' := 101) ki_0 dX9_takesHead_100 rfl ?_
    refine q_sub cx [0, 1] rfl ?_
    exact hj101 _ _ _ _ h
  refine q_aload_n cx (pc' := 1) 0 rfl dX9_takesHead_0 rfl ?_
  obtain ⟨c1, hc1, h⟩ := bnd_i h
  refine q_callV cx (pc' := 4) (S := []) (S1 := [.int c1]) (kc' := 0) (ks' := 0) 9 (ct_X9_next Γ l M ths ht0 _ hc1) lki_X9_next lkv_X9_next lkc_X9_253 ht0 (r := (RX9, TX9, 70)) ⟨rfl, by decide, rfl⟩ rfl rfl (Nat.le_of_ble_eq_true rfl) ⟨(Nat.le_of_ble_eq_true rfl), (Nat.le_of_ble_eq_true rfl)⟩ ⟨(Nat.le_of_ble_eq_true rfl), (Nat.le_of_ble_eq_true rfl)⟩ dX9_takesHead_1 rfl rfl rfl ?_
  rcases Decidable.em (c1 = 109) with c4_0 | c4_0
  · replace h := ip c4_0 h
    refine q_lookup cx (off := 43) (tgt := 47) dX9_takesHead_4 (by decide) (by rw [c4_0]; decide) (by decide) ?_
    refine q_aload_n cx (pc' := 48) 0 rfl dX9_takesHead_47 rfl ?_
    obtain ⟨ht48, r48, ex48, h⟩ := gR_i h
    refine q_gR cx (pc' := 51) 9 14 fl_X9_53 rfl ht48 ex48 dX9_takesHead_48 rfl ?_
    refine q_iload_n cx (pc' := 52) 1 rfl dX9_takesHead_51 rfl ?_
    refine q_iconst cx (pc' := 53) ki_3 dX9_takesHead_52 rfl ?_
    obtain ⟨ht53, hi53, M53, eM53, h⟩ := wI_i h
    refine q_iast cx (pc' := 54) ht53 hi53 eM53 dX9_takesHead_53 rfl ?_
    refine q_aload_n cx (pc' := 55) 0 rfl dX9_takesHead_54 rfl ?_
    refine q_bipush cx (pc' := 57) kb_14 dX9_takesHead_55 rfl ?_
    refine q_iconst cx (pc' := 58) ki_4 dX9_takesHead_57 rfl ?_
    obtain ⟨hk58, h⟩ := ck_i h
    obtain ⟨⟨c58, M58⟩, hc58, h⟩ := bnd_i h
    replace h := pr2_i h
    refine q_callV cx (pc' := 61) (S := []) (S1 := [.int c58]) (kc' := 0) (ks' := 0) 9 (ct_X9_takesWord Γ l M53 ths 14 4 hk58 _ _ hc58) lki_X9_takesWord lkv_X9_takesWord lkc_X9_284 hk58 (r := (RX9, TX9, 70)) ⟨rfl, by decide, rfl⟩ rfl rfl (Nat.le_of_ble_eq_true rfl) ⟨(Nat.le_of_ble_eq_true rfl), (Nat.le_of_ble_eq_true rfl)⟩ ⟨(Nat.le_of_ble_eq_true rfl), (Nat.le_of_ble_eq_true rfl)⟩ dX9_takesHead_58 rfl rfl rfl ?_
    obtain ⟨rfl, rfl⟩ := o2_i h
    rw [hQ]
    exact q_nret cx rfl dX9_takesHead_61
  replace h := ine c4_0 h
  rcases Decidable.em (c1 = 115) with c4_1 | c4_1
  · replace h := ip c4_1 h
    refine q_lookup cx (off := 28) (tgt := 32) dX9_takesHead_4 (by decide) (by rw [c4_1]; decide) (by decide) ?_
    refine q_aload_n cx (pc' := 33) 0 rfl dX9_takesHead_32 rfl ?_
    obtain ⟨ht33, r33, ex33, h⟩ := gR_i h
    refine q_gR cx (pc' := 36) 9 14 fl_X9_53 rfl ht33 ex33 dX9_takesHead_33 rfl ?_
    refine q_iload_n cx (pc' := 37) 1 rfl dX9_takesHead_36 rfl ?_
    refine q_iconst cx (pc' := 38) ki_2 dX9_takesHead_37 rfl ?_
    obtain ⟨ht38, hi38, M38, eM38, h⟩ := wI_i h
    refine q_iast cx (pc' := 39) ht38 hi38 eM38 dX9_takesHead_38 rfl ?_
    refine q_aload_n cx (pc' := 40) 0 rfl dX9_takesHead_39 rfl ?_
    refine q_bipush cx (pc' := 42) kb_9 dX9_takesHead_40 rfl ?_
    refine q_iconst cx (pc' := 43) ki_5 dX9_takesHead_42 rfl ?_
    obtain ⟨hk43, h⟩ := ck_i h
    obtain ⟨⟨c43, M43⟩, hc43, h⟩ := bnd_i h
    replace h := pr2_i h
    refine q_callV cx (pc' := 46) (S := []) (S1 := [.int c43]) (kc' := 0) (ks' := 0) 9 (ct_X9_takesWord Γ l M38 ths 9 5 hk43 _ _ hc43) lki_X9_takesWord lkv_X9_takesWord lkc_X9_284 hk43 (r := (RX9, TX9, 70)) ⟨rfl, by decide, rfl⟩ rfl rfl (Nat.le_of_ble_eq_true rfl) ⟨(Nat.le_of_ble_eq_true rfl), (Nat.le_of_ble_eq_true rfl)⟩ ⟨(Nat.le_of_ble_eq_true rfl), (Nat.le_of_ble_eq_true rfl)⟩ dX9_takesHead_43 rfl rfl rfl ?_
    obtain ⟨rfl, rfl⟩ := o2_i h
    rw [hQ]
    exact q_nret cx rfl dX9_takesHead_46
  replace h := ine c4_1 h
  refine q_lookup cx (off := 58) (tgt := 62) dX9_takesHead_4 (by decide) ((lv_osw c4_0 (a := 109) rfl).trans ((lv_osw c4_1 (a := 115) rfl).trans rfl)) (by decide) ?_
  refine q_aload_n cx (pc' := 63) 0 rfl dX9_takesHead_62 rfl ?_
  obtain ⟨ht63, r63, ex63, h⟩ := gR_i h
  refine q_gR cx (pc' := 66) 9 14 fl_X9_53 rfl ht63 ex63 dX9_takesHead_63 rfl ?_
  refine q_iload_n cx (pc' := 67) 1 rfl dX9_takesHead_66 rfl ?_
  refine q_aload_n cx (pc' := 68) 0 rfl dX9_takesHead_67 rfl ?_
  obtain ⟨ht68, x68, ex68, h⟩ := gI_i h
  refine q_gI cx (pc' := 71) 9 10 fl_X9_41 rfl ht68 ex68 dX9_takesHead_68 rfl ?_
  refine q_iconst cx (pc' := 72) ki_3 dX9_takesHead_71 rfl ?_
  refine q_iadd cx (pc' := 73) dX9_takesHead_72 rfl ?_
  refine q_aload_n cx (pc' := 74) 0 rfl dX9_takesHead_73 rfl ?_
  obtain ⟨ht74, x74, ex74, h⟩ := gI_i h
  refine q_gI cx (pc' := 77) 9 9 fl_X9_38 rfl ht74 ex74 dX9_takesHead_74 rfl ?_
  refine q_icmp_ge cx (pc' := 80) (tgt := 100) dX9_takesHead_77 (by decide) rfl (fun c77 => ?_) (fun c77 => ?_)
  · replace h := ip c77 h
    refine q_sub cx [0, 1] rfl ?_
    exact hj100 _ _ _ h
  · replace h := ine c77 h
    refine q_aload_n cx (pc' := 81) 0 rfl dX9_takesHead_80 rfl ?_
    obtain ⟨ht81, r81, ex81, h⟩ := gR_i h
    refine q_gR cx (pc' := 84) 9 12 fl_X9_47 rfl ht81 ex81 dX9_takesHead_81 rfl ?_
    refine q_aload_n cx (pc' := 85) 0 rfl dX9_takesHead_84 rfl ?_
    obtain ⟨ht85, x85, ex85, h⟩ := gI_i h
    refine q_gI cx (pc' := 88) 9 10 fl_X9_41 rfl ht85 ex85 dX9_takesHead_85 rfl ?_
    refine q_iconst cx (pc' := 89) ki_3 dX9_takesHead_88 rfl ?_
    refine q_iadd cx (pc' := 90) dX9_takesHead_89 rfl ?_
    obtain ⟨ht90, hi90, x90, ex90, h⟩ := aI_i h
    refine q_iald cx (pc' := 91) ht90 hi90 ex90 dX9_takesHead_90 rfl ?_
    refine q_bipush cx (pc' := 93) kb_110 dX9_takesHead_91 rfl ?_
    refine q_icmp_ne cx (pc' := 96) (tgt := 100) dX9_takesHead_93 (by decide) rfl (fun c93 => ?_) (fun c93 => ?_)
    · replace h := ine c93 h
      refine q_sub cx [0, 1] rfl ?_
      exact hj100 _ _ _ h
    · replace h := ip c93 h
      refine q_iconst cx (pc' := 97) ki_1 dX9_takesHead_96 rfl ?_
      refine q_goto cx dX9_takesHead_97 (tgt := 101) (by decide) ?_
      refine q_sub cx [0, 1] rfl ?_
      exact hj101 _ _ _ _ h

abbrev rm_X9_takesClause : Room := { frames := 6, cells := 0, slots := 0, locals := 149 }
def fn_X9_takesClause (M : QM) (ths : Nat) (p1 : Int32) : Option (Int32 × QM) :=
  bnd (fn_X9_takesHead M ths p1) fun y2 =>
  pr2 y2 fun c2 M2 =>
  if c2 = 0 then
    some (0, M2)
  else
    ck M2 ths 9 <|
    bnd (fn_X9_takesNumber M2 ths) fun y9 =>
    pr2 y9 fun c9 M9 =>
    if c9 = 0 then
      some (0, M9)
    else
      gR M9 ths 9 15 fun r18 =>
      gI M9 ths 9 11 fun x23 =>
      wI M9 20 r18 p1 x23 fun M26 =>
      gR M26 ths 9 14 fun r28 =>
      aI M26 20 r28 p1 fun x32 =>
      if 2 ≤ x32 then
        some (1, M26)
      else
        ck M26 ths 9 <|
        bnd (fn_X9_takes M26 ths 32) fun y40 =>
        pr2 y40 fun c40 M40 =>
        if c40 = 0 then
          some (0, M40)
        else
          ck M40 ths 9 <|
          bnd (fn_X9_takesE M40 ths p1) fun y48 =>
          pr2 y48 fun c48 M48 =>
          if c48 = 0 then
            some (0, M48)
          else
            some (1, M48)
set_option maxRecDepth 100000 in
set_option maxHeartbeats 4000000 in
theorem ct_X9_takesClause (Γ : GT) (l : Launch) (M : QM) (ths : Nat) (p1 : Int32) (ht0 : mt M ths = 9) (z : Int32) (M' : QM) (h : fn_X9_takesClause M ths p1 = some (z, M')) : CT Γ l yX9_takesClause cX9_takesClause 2 (some .boolean) rm_X9_takesClause (.ref ths :: [.int p1]) M (some (.int z)) M' := by
  refine ct_intro (own := RX9) (L := [(0, .ref ths), (1, .int p1)]) (by decide +kernel) rfl (Nat.le_of_ble_eq_true rfl) rfl ?_
  intro p e s m args below meth c Q hQ cx hnm
  unfold fn_X9_takesClause at h
  refine q_aload_n cx (pc' := 1) 0 rfl dX9_takesClause_0 rfl ?_
  refine q_iload_n cx (pc' := 2) 1 rfl dX9_takesClause_1 rfl ?_
  obtain ⟨⟨c2, M2⟩, hc2, h⟩ := bnd_i h
  replace h := pr2_i h
  refine q_callV cx (pc' := 5) (S := []) (S1 := [.int c2]) (kc' := 0) (ks' := 0) 9 (ct_X9_takesHead Γ l M ths p1 ht0 _ _ hc2) lki_X9_takesHead lkv_X9_takesHead lkc_X9_287 ht0 (r := (RX9, TX9, 70)) ⟨rfl, by decide, rfl⟩ rfl rfl (Nat.le_of_ble_eq_true rfl) ⟨(Nat.le_of_ble_eq_true rfl), (Nat.le_of_ble_eq_true rfl)⟩ ⟨(Nat.le_of_ble_eq_true rfl), (Nat.le_of_ble_eq_true rfl)⟩ dX9_takesClause_2 rfl rfl rfl ?_
  refine q_if_eq cx (pc' := 8) (tgt := 15) dX9_takesClause_5 (by decide) rfl (fun c5 => ?_) (fun c5 => ?_)
  · replace h := ip c5 h
    refine q_iconst cx (pc' := 16) ki_0 dX9_takesClause_15 rfl ?_
    obtain ⟨rfl, rfl⟩ := o2_i h
    rw [hQ]
    exact q_nret cx rfl dX9_takesClause_16
  · replace h := ine c5 h
    refine q_aload_n cx (pc' := 9) 0 rfl dX9_takesClause_8 rfl ?_
    obtain ⟨hk9, h⟩ := ck_i h
    obtain ⟨⟨c9, M9⟩, hc9, h⟩ := bnd_i h
    replace h := pr2_i h
    refine q_callV cx (pc' := 12) (S := []) (S1 := [.int c9]) (kc' := 0) (ks' := 0) 9 (ct_X9_takesNumber Γ l M2 ths hk9 _ _ hc9) lki_X9_takesNumber lkv_X9_takesNumber lkc_X9_272 hk9 (r := (RX9, TX9, 70)) ⟨rfl, by decide, rfl⟩ rfl rfl (Nat.le_of_ble_eq_true rfl) ⟨(Nat.le_of_ble_eq_true rfl), (Nat.le_of_ble_eq_true rfl)⟩ ⟨(Nat.le_of_ble_eq_true rfl), (Nat.le_of_ble_eq_true rfl)⟩ dX9_takesClause_9 rfl rfl rfl ?_
    refine q_if_ne cx (pc' := 15) (tgt := 17) dX9_takesClause_12 (by decide) rfl (fun c12 => ?_) (fun c12 => ?_)
    · replace h := ine c12 h
      refine q_aload_n cx (pc' := 18) 0 rfl dX9_takesClause_17 rfl ?_
      obtain ⟨ht18, r18, ex18, h⟩ := gR_i h
      refine q_gR cx (pc' := 21) 9 15 fl_X9_56 rfl ht18 ex18 dX9_takesClause_18 rfl ?_
      refine q_iload_n cx (pc' := 22) 1 rfl dX9_takesClause_21 rfl ?_
      refine q_aload_n cx (pc' := 23) 0 rfl dX9_takesClause_22 rfl ?_
      obtain ⟨ht23, x23, ex23, h⟩ := gI_i h
      refine q_gI cx (pc' := 26) 9 11 fl_X9_44 rfl ht23 ex23 dX9_takesClause_23 rfl ?_
      obtain ⟨ht26, hi26, M26, eM26, h⟩ := wI_i h
      refine q_iast cx (pc' := 27) ht26 hi26 eM26 dX9_takesClause_26 rfl ?_
      refine q_aload_n cx (pc' := 28) 0 rfl dX9_takesClause_27 rfl ?_
      obtain ⟨ht28, r28, ex28, h⟩ := gR_i h
      refine q_gR cx (pc' := 31) 9 14 fl_X9_53 rfl ht28 ex28 dX9_takesClause_28 rfl ?_
      refine q_iload_n cx (pc' := 32) 1 rfl dX9_takesClause_31 rfl ?_
      obtain ⟨ht32, hi32, x32, ex32, h⟩ := aI_i h
      refine q_iald cx (pc' := 33) ht32 hi32 ex32 dX9_takesClause_32 rfl ?_
      refine q_iconst cx (pc' := 34) ki_2 dX9_takesClause_33 rfl ?_
      refine q_icmp_ge cx (pc' := 37) (tgt := 54) dX9_takesClause_34 (by decide) rfl (fun c34 => ?_) (fun c34 => ?_)
      · replace h := ip c34 h
        refine q_iconst cx (pc' := 55) ki_1 dX9_takesClause_54 rfl ?_
        refine q_goto cx dX9_takesClause_55 (tgt := 59) (by decide) ?_
        obtain ⟨rfl, rfl⟩ := o2_i h
        rw [hQ]
        exact q_nret cx rfl dX9_takesClause_59
      · replace h := ine c34 h
        refine q_aload_n cx (pc' := 38) 0 rfl dX9_takesClause_37 rfl ?_
        refine q_bipush cx (pc' := 40) kb_32 dX9_takesClause_38 rfl ?_
        obtain ⟨hk40, h⟩ := ck_i h
        obtain ⟨⟨c40, M40⟩, hc40, h⟩ := bnd_i h
        replace h := pr2_i h
        refine q_callV cx (pc' := 43) (S := []) (S1 := [.int c40]) (kc' := 0) (ks' := 0) 9 (ct_X9_takes Γ l M26 ths 32 hk40 _ _ hc40) lki_X9_takes lkv_X9_takes lkc_X9_257 hk40 (r := (RX9, TX9, 70)) ⟨rfl, by decide, rfl⟩ rfl rfl (Nat.le_of_ble_eq_true rfl) ⟨(Nat.le_of_ble_eq_true rfl), (Nat.le_of_ble_eq_true rfl)⟩ ⟨(Nat.le_of_ble_eq_true rfl), (Nat.le_of_ble_eq_true rfl)⟩ dX9_takesClause_40 rfl rfl rfl ?_
        refine q_if_eq cx (pc' := 46) (tgt := 58) dX9_takesClause_43 (by decide) rfl (fun c43 => ?_) (fun c43 => ?_)
        · replace h := ip c43 h
          refine q_iconst cx (pc' := 59) ki_0 dX9_takesClause_58 rfl ?_
          obtain ⟨rfl, rfl⟩ := o2_i h
          rw [hQ]
          exact q_nret cx rfl dX9_takesClause_59
        · replace h := ine c43 h
          refine q_aload_n cx (pc' := 47) 0 rfl dX9_takesClause_46 rfl ?_
          refine q_iload_n cx (pc' := 48) 1 rfl dX9_takesClause_47 rfl ?_
          obtain ⟨hk48, h⟩ := ck_i h
          obtain ⟨⟨c48, M48⟩, hc48, h⟩ := bnd_i h
          replace h := pr2_i h
          refine q_callV cx (pc' := 51) (S := []) (S1 := [.int c48]) (kc' := 0) (ks' := 0) 9 (ct_X9_takesE Γ l M40 ths p1 hk48 _ _ hc48) lki_X9_takesE lkv_X9_takesE lkc_X9_290 hk48 (r := (RX9, TX9, 70)) ⟨rfl, by decide, rfl⟩ rfl rfl (Nat.le_of_ble_eq_true rfl) ⟨(Nat.le_of_ble_eq_true rfl), (Nat.le_of_ble_eq_true rfl)⟩ ⟨(Nat.le_of_ble_eq_true rfl), (Nat.le_of_ble_eq_true rfl)⟩ dX9_takesClause_48 rfl rfl rfl ?_
          refine q_if_eq cx (pc' := 54) (tgt := 58) dX9_takesClause_51 (by decide) rfl (fun c51 => ?_) (fun c51 => ?_)
          · replace h := ip c51 h
            refine q_iconst cx (pc' := 59) ki_0 dX9_takesClause_58 rfl ?_
            obtain ⟨rfl, rfl⟩ := o2_i h
            rw [hQ]
            exact q_nret cx rfl dX9_takesClause_59
          · replace h := ine c51 h
            refine q_iconst cx (pc' := 55) ki_1 dX9_takesClause_54 rfl ?_
            refine q_goto cx dX9_takesClause_55 (tgt := 59) (by decide) ?_
            obtain ⟨rfl, rfl⟩ := o2_i h
            rw [hQ]
            exact q_nret cx rfl dX9_takesClause_59
    · replace h := ip c12 h
      refine q_iconst cx (pc' := 16) ki_0 dX9_takesClause_15 rfl ?_
      obtain ⟨rfl, rfl⟩ := o2_i h
      rw [hQ]
      exact q_nret cx rfl dX9_takesClause_16

abbrev rm_X9_goesText : Room := { frames := 7, cells := 0, slots := 0, locals := 170 }
def lp_X9_goesText_15 (ths : Nat) (p1 : Int32) (w2_15 : Int32) (Mw_15 : QM) : Option ((Int32 × QM) ⊕ (Int32 × QM)) :=
  ck Mw_15 ths 9 <|
  bnd (fn_X9_takesClause Mw_15 ths ((10 * p1) + w2_15)) fun y22 =>
  pr2 y22 fun c22 M22 =>
  if c22 = 0 then
    some (.inr (0, M22))
  else
    nm (w2_15 + 1) fun v2_30 =>
    gR M22 ths 9 13 fun r34 =>
    wI M22 20 r34 p1 v2_30 fun M39 =>
    gI M39 ths 9 10 fun x41 =>
    gI M39 ths 9 9 fun x45 =>
    if x41 = x45 then
      some (.inr (1, M39))
    else
      if v2_30 = 10 then
        some (.inr (0, M39))
      else
        ck M39 ths 9 <|
        bnd (fn_X9_takes M39 ths 59) fun y62 =>
        pr2 y62 fun c62 M62 =>
        if c62 = 0 then
          some (.inr (0, M62))
        else
          some (.inl (v2_30, M62))
def fn_X9_goesText (M : QM) (ths : Nat) (p1 : Int32) : Option (Int32 × QM) :=
  pI M ths 9 10 0 fun M2 =>
  pI M2 ths 9 20 (100 * p1) fun M10 =>
  bnd (itr (fun s15 : Int32 × QM => lp_X9_goesText_15 ths p1 s15.1 s15.2) FU (0, M10)) fun r15 =>
  pr2 r15 fun re_15 Mr_15 =>
  some (re_15, Mr_15)
set_option maxRecDepth 100000 in
set_option maxHeartbeats 4000000 in
theorem ct_X9_goesText (Γ : GT) (l : Launch) (M : QM) (ths : Nat) (p1 : Int32) (ht0 : mt M ths = 9) (z : Int32) (M' : QM) (h : fn_X9_goesText M ths p1 = some (z, M')) : CT Γ l yX9_goesText cX9_goesText 3 (some .boolean) rm_X9_goesText (.ref ths :: [.int p1]) M (some (.int z)) M' := by
  refine ct_intro (own := RX9) (L := [(0, .ref ths), (1, .int p1)]) (by decide +kernel) rfl (Nat.le_of_ble_eq_true rfl) rfl ?_
  intro p e s m args below meth c Q hQ cx hnm
  unfold fn_X9_goesText at h
  refine q_aload_n cx (pc' := 1) 0 rfl dX9_goesText_0 rfl ?_
  refine q_iconst cx (pc' := 2) ki_0 dX9_goesText_1 rfl ?_
  obtain ⟨ht2, M2, eM2, h⟩ := pI_i h
  refine q_pI cx (pc' := 5) 9 10 fl_X9_41 rfl ht2 (ty := .int) ⟨(RX9, TX9, 70), rfl, by decide +kernel, Or.inl rfl⟩ rfl rfl eM2 dX9_goesText_2 rfl ?_
  refine q_aload_n cx (pc' := 6) 0 rfl dX9_goesText_5 rfl ?_
  refine q_bipush cx (pc' := 8) kb_100 dX9_goesText_6 rfl ?_
  refine q_iload_n cx (pc' := 9) 1 rfl dX9_goesText_8 rfl ?_
  refine q_imul cx (pc' := 10) dX9_goesText_9 rfl ?_
  obtain ⟨ht10, M10, eM10, h⟩ := pI_i h
  refine q_pI cx (pc' := 13) 9 20 fl_X9_71 rfl ht10 (ty := .int) ⟨(RX9, TX9, 70), rfl, by decide +kernel, Or.inl rfl⟩ rfl rfl eM10 dX9_goesText_10 rfl ?_
  refine q_iconst cx (pc' := 14) ki_0 dX9_goesText_13 rfl ?_
  refine q_istore_n cx (pc' := 15) rfl rfl (by decide) (L' := [(2, .int 0), (0, .ref ths), (1, .int p1)]) rfl dX9_goesText_14 rfl ?_
  obtain ⟨r15, hL15, h⟩ := bnd_i h
  have hk15_r : ∀ (re_15 : Int32) (Mr_15 : QM), (re_15, Mr_15) = r15 → some (re_15, Mr_15) = some (z, M') := by
    intro re_15 Mr_15 hp
    subst hp
    replace h := pr2_i h
    exact h
  have key15 : ∀ (n : Nat) (w2_15 : Int32) (Mw_15 : QM), itr (fun s15 : Int32 × QM => lp_X9_goesText_15 ths p1 s15.1 s15.2) n (w2_15, Mw_15) = some r15 → EE p l e rm_X9_goesText s m args below meth c Q Γ 3 0 0 15 [(0, .ref ths), (1, .int p1), (2, .int w2_15)] [] Mw_15 := by
    intro n
    induction n with
    | zero => intro _ _ h; exact (itr_0 h).elim
    | succ n ih =>
      intro w2_15 Mw_15 h
      obtain ⟨z15, h, hz15⟩ := itr_i h
      replace h : lp_X9_goesText_15 ths p1 w2_15 Mw_15 = some z15 := h
      unfold lp_X9_goesText_15 at h
      refine q_aload_n cx (pc' := 16) 0 rfl dX9_goesText_15 rfl ?_
      refine q_bipush cx (pc' := 18) kb_10 dX9_goesText_16 rfl ?_
      refine q_iload_n cx (pc' := 19) 1 rfl dX9_goesText_18 rfl ?_
      refine q_imul cx (pc' := 20) dX9_goesText_19 rfl ?_
      refine q_iload_n cx (pc' := 21) 2 rfl dX9_goesText_20 rfl ?_
      refine q_iadd cx (pc' := 22) dX9_goesText_21 rfl ?_
      obtain ⟨hk22, h⟩ := ck_i h
      obtain ⟨⟨c22, M22⟩, hc22, h⟩ := bnd_i h
      replace h := pr2_i h
      refine q_callV cx (pc' := 25) (S := []) (S1 := [.int c22]) (kc' := 0) (ks' := 0) 9 (ct_X9_takesClause Γ l Mw_15 ths ((10 * p1) + w2_15) hk22 _ _ hc22) lki_X9_takesClause lkv_X9_takesClause lkc_X9_293 hk22 (r := (RX9, TX9, 70)) ⟨rfl, by decide, rfl⟩ rfl rfl (Nat.le_of_ble_eq_true rfl) ⟨(Nat.le_of_ble_eq_true rfl), (Nat.le_of_ble_eq_true rfl)⟩ ⟨(Nat.le_of_ble_eq_true rfl), (Nat.le_of_ble_eq_true rfl)⟩ dX9_goesText_22 rfl rfl rfl ?_
      refine q_if_ne cx (pc' := 28) (tgt := 30) dX9_goesText_25 (by decide) rfl (fun c25 => ?_) (fun c25 => ?_)
      · replace h := ine c25 h
        obtain ⟨v2_30, ev2_30, h⟩ := nm_i h
        refine q_iinc cx (pc' := 33) 2 rfl ki_1 ev2_30 (by decide) (L' := [(2, .int v2_30), (0, .ref ths), (1, .int p1)]) rfl dX9_goesText_30 rfl ?_
        refine q_aload_n cx (pc' := 34) 1 rfl dX9_goesText_33 rfl ?_
        obtain ⟨ht34, r34, ex34, h⟩ := gR_i h
        refine q_gR cx (pc' := 37) 9 13 fl_X9_50 rfl ht34 ex34 dX9_goesText_34 rfl ?_
        refine q_iload_n cx (pc' := 38) 2 rfl dX9_goesText_37 rfl ?_
        refine q_iload_n cx (pc' := 39) 0 rfl dX9_goesText_38 rfl ?_
        obtain ⟨ht39, hi39, M39, eM39, h⟩ := wI_i h
        refine q_iast cx (pc' := 40) ht39 hi39 eM39 dX9_goesText_39 rfl ?_
        refine q_aload_n cx (pc' := 41) 1 rfl dX9_goesText_40 rfl ?_
        obtain ⟨ht41, x41, ex41, h⟩ := gI_i h
        refine q_gI cx (pc' := 44) 9 10 fl_X9_41 rfl ht41 ex41 dX9_goesText_41 rfl ?_
        refine q_aload_n cx (pc' := 45) 1 rfl dX9_goesText_44 rfl ?_
        obtain ⟨ht45, x45, ex45, h⟩ := gI_i h
        refine q_gI cx (pc' := 48) 9 9 fl_X9_38 rfl ht45 ex45 dX9_goesText_45 rfl ?_
        refine q_icmp_ne cx (pc' := 51) (tgt := 53) dX9_goesText_48 (by decide) rfl (fun c48 => ?_) (fun c48 => ?_)
        · replace h := ine c48 h
          refine q_iload_n cx (pc' := 54) 0 rfl dX9_goesText_53 rfl ?_
          refine q_bipush cx (pc' := 56) kb_10 dX9_goesText_54 rfl ?_
          refine q_icmp_eq cx (pc' := 59) (tgt := 68) dX9_goesText_56 (by decide) rfl (fun c56 => ?_) (fun c56 => ?_)
          · replace h := ip c56 h
            refine q_iconst cx (pc' := 69) ki_0 dX9_goesText_68 rfl ?_
            replace h := hk15_r _ _ (hz15.2 _ h)
            obtain ⟨rfl, rfl⟩ := o2_i h
            rw [hQ]
            exact q_nret cx rfl dX9_goesText_69
          · replace h := ine c56 h
            refine q_aload_n cx (pc' := 60) 1 rfl dX9_goesText_59 rfl ?_
            refine q_bipush cx (pc' := 62) kb_59 dX9_goesText_60 rfl ?_
            obtain ⟨hk62, h⟩ := ck_i h
            obtain ⟨⟨c62, M62⟩, hc62, h⟩ := bnd_i h
            replace h := pr2_i h
            refine q_callV cx (pc' := 65) (S := []) (S1 := [.int c62]) (kc' := 0) (ks' := 0) 9 (ct_X9_takes Γ l M39 ths 59 hk62 _ _ hc62) lki_X9_takes lkv_X9_takes lkc_X9_257 hk62 (r := (RX9, TX9, 70)) ⟨rfl, by decide, rfl⟩ rfl rfl (Nat.le_of_ble_eq_true rfl) ⟨(Nat.le_of_ble_eq_true rfl), (Nat.le_of_ble_eq_true rfl)⟩ ⟨(Nat.le_of_ble_eq_true rfl), (Nat.le_of_ble_eq_true rfl)⟩ dX9_goesText_62 rfl rfl rfl ?_
            refine q_if_ne cx (pc' := 68) (tgt := 15) dX9_goesText_65 (by decide) rfl (fun c65 => ?_) (fun c65 => ?_)
            · replace h := ine c65 h
              refine q_sub cx [1, 2, 0] rfl ?_
              exact ih _ _ (hz15.1 _ h)
            · replace h := ip c65 h
              refine q_iconst cx (pc' := 69) ki_0 dX9_goesText_68 rfl ?_
              replace h := hk15_r _ _ (hz15.2 _ h)
              obtain ⟨rfl, rfl⟩ := o2_i h
              rw [hQ]
              exact q_nret cx rfl dX9_goesText_69
        · replace h := ip c48 h
          refine q_iconst cx (pc' := 52) ki_1 dX9_goesText_51 rfl ?_
          replace h := hk15_r _ _ (hz15.2 _ h)
          obtain ⟨rfl, rfl⟩ := o2_i h
          rw [hQ]
          exact q_nret cx rfl dX9_goesText_52
      · replace h := ip c25 h
        refine q_iconst cx (pc' := 29) ki_0 dX9_goesText_28 rfl ?_
        replace h := hk15_r _ _ (hz15.2 _ h)
        obtain ⟨rfl, rfl⟩ := o2_i h
        rw [hQ]
        exact q_nret cx rfl dX9_goesText_29
  refine q_sub cx [1, 2, 0] rfl ?_
  exact key15 FU _ _ hL15

abbrev rm_X9_brew : Room := { frames := 8, cells := 0, slots := 0, locals := 192 }
def fn_X9_brew (M : QM) (ths : Nat) : Option (Int32 × QM) :=
  gI M ths 9 7 fun x1 =>
  if x1 = 6 then
    some ((-4), M)
  else
    gI M ths 9 7 fun x14 =>
    bnd (fn_X9_goesText M ths x14) fun y17 =>
    pr2 y17 fun c17 M17 =>
    pI M17 ths 9 9 0 fun M23 =>
    if c17 = 0 then
      gI M23 ths 9 10 fun x33 =>
      some (((-10) - x33), M23)
    else
      gI M23 ths 9 7 fun x40 =>
      pI M23 ths 9 8 x40 fun M43 =>
      gI M43 ths 9 7 fun x48 =>
      pI M43 ths 9 7 (x48 + 1) fun M53 =>
      gI M53 ths 9 8 fun x57 =>
      some (x57, M53)
set_option maxRecDepth 100000 in
set_option maxHeartbeats 4000000 in
theorem ct_X9_brew (Γ : GT) (l : Launch) (M : QM) (ths : Nat) (ht0 : mt M ths = 9) (z : Int32) (M' : QM) (h : fn_X9_brew M ths = some (z, M')) : CT Γ l yX9_brew cX9_brew 2 (some .int) rm_X9_brew (.ref ths :: []) M (some (.int z)) M' := by
  refine ct_intro (own := RX9) (L := [(0, .ref ths)]) (by decide +kernel) rfl (Nat.le_of_ble_eq_true rfl) rfl ?_
  intro p e s m args below meth c Q hQ cx hnm
  unfold fn_X9_brew at h
  refine q_aload_n cx (pc' := 1) 0 rfl dX9_brew_0 rfl ?_
  obtain ⟨ht1, x1, ex1, h⟩ := gI_i h
  refine q_gI cx (pc' := 4) 9 7 fl_X9_32 rfl ht1 ex1 dX9_brew_1 rfl ?_
  refine q_bipush cx (pc' := 6) kb_6 dX9_brew_4 rfl ?_
  refine q_icmp_ne cx (pc' := 9) (tgt := 12) dX9_brew_6 (by decide) rfl (fun c6 => ?_) (fun c6 => ?_)
  · replace h := ine c6 h
    refine q_aload_n cx (pc' := 13) 0 rfl dX9_brew_12 rfl ?_
    refine q_aload_n cx (pc' := 14) 0 rfl dX9_brew_13 rfl ?_
    obtain ⟨ht14, x14, ex14, h⟩ := gI_i h
    refine q_gI cx (pc' := 17) 9 7 fl_X9_32 rfl ht14 ex14 dX9_brew_14 rfl ?_
    obtain ⟨⟨c17, M17⟩, hc17, h⟩ := bnd_i h
    replace h := pr2_i h
    refine q_callV cx (pc' := 20) (S := []) (S1 := [.int c17]) (kc' := 0) (ks' := 0) 9 (ct_X9_goesText Γ l M ths x14 ht0 _ _ hc17) lki_X9_goesText lkv_X9_goesText lkc_X9_296 ht0 (r := (RX9, TX9, 70)) ⟨rfl, by decide, rfl⟩ rfl rfl (Nat.le_of_ble_eq_true rfl) ⟨(Nat.le_of_ble_eq_true rfl), (Nat.le_of_ble_eq_true rfl)⟩ ⟨(Nat.le_of_ble_eq_true rfl), (Nat.le_of_ble_eq_true rfl)⟩ dX9_brew_17 rfl rfl rfl ?_
    refine q_istore_n cx (pc' := 21) rfl rfl (by decide) (L' := [(1, .int c17), (0, .ref ths)]) rfl dX9_brew_20 rfl ?_
    refine q_aload_n cx (pc' := 22) 1 rfl dX9_brew_21 rfl ?_
    refine q_iconst cx (pc' := 23) ki_0 dX9_brew_22 rfl ?_
    obtain ⟨ht23, M23, eM23, h⟩ := pI_i h
    refine q_pI cx (pc' := 26) 9 9 fl_X9_38 rfl ht23 (ty := .int) ⟨(RX9, TX9, 70), rfl, by decide +kernel, Or.inl rfl⟩ rfl rfl eM23 dX9_brew_23 rfl ?_
    refine q_iload_n cx (pc' := 27) 0 rfl dX9_brew_26 rfl ?_
    refine q_if_ne cx (pc' := 30) (tgt := 38) dX9_brew_27 (by decide) rfl (fun c27 => ?_) (fun c27 => ?_)
    · replace h := ine c27 h
      refine q_aload_n cx (pc' := 39) 1 rfl dX9_brew_38 rfl ?_
      refine q_aload_n cx (pc' := 40) 1 rfl dX9_brew_39 rfl ?_
      obtain ⟨ht40, x40, ex40, h⟩ := gI_i h
      refine q_gI cx (pc' := 43) 9 7 fl_X9_32 rfl ht40 ex40 dX9_brew_40 rfl ?_
      obtain ⟨ht43, M43, eM43, h⟩ := pI_i h
      refine q_pI cx (pc' := 46) 9 8 fl_X9_35 rfl ht43 (ty := .int) ⟨(RX9, TX9, 70), rfl, by decide +kernel, Or.inl rfl⟩ rfl rfl eM43 dX9_brew_43 rfl ?_
      refine q_aload_n cx (pc' := 47) 1 rfl dX9_brew_46 rfl ?_
      refine q_dup cx (pc' := 48) rfl dX9_brew_47 rfl ?_
      obtain ⟨ht48, x48, ex48, h⟩ := gI_i h
      refine q_gI cx (pc' := 51) 9 7 fl_X9_32 rfl ht48 ex48 dX9_brew_48 rfl ?_
      refine q_iconst cx (pc' := 52) ki_1 dX9_brew_51 rfl ?_
      refine q_iadd cx (pc' := 53) dX9_brew_52 rfl ?_
      obtain ⟨ht53, M53, eM53, h⟩ := pI_i h
      refine q_pI cx (pc' := 56) 9 7 fl_X9_32 rfl ht53 (ty := .int) ⟨(RX9, TX9, 70), rfl, by decide +kernel, Or.inl rfl⟩ rfl rfl eM53 dX9_brew_53 rfl ?_
      refine q_aload_n cx (pc' := 57) 1 rfl dX9_brew_56 rfl ?_
      obtain ⟨ht57, x57, ex57, h⟩ := gI_i h
      refine q_gI cx (pc' := 60) 9 8 fl_X9_35 rfl ht57 ex57 dX9_brew_57 rfl ?_
      obtain ⟨rfl, rfl⟩ := o2_i h
      rw [hQ]
      exact q_iret cx dX9_brew_60
    · replace h := ip c27 h
      refine q_bipush cx (pc' := 32) kb_m10 dX9_brew_30 rfl ?_
      refine q_aload_n cx (pc' := 33) 1 rfl dX9_brew_32 rfl ?_
      obtain ⟨ht33, x33, ex33, h⟩ := gI_i h
      refine q_gI cx (pc' := 36) 9 10 fl_X9_41 rfl ht33 ex33 dX9_brew_33 rfl ?_
      refine q_isub cx (pc' := 37) dX9_brew_36 rfl ?_
      obtain ⟨rfl, rfl⟩ := o2_i h
      rw [hQ]
      exact q_iret cx dX9_brew_37
  · replace h := ip c6 h
    refine q_bipush cx (pc' := 11) kb_m4 dX9_brew_9 rfl ?_
    obtain ⟨rfl, rfl⟩ := o2_i h
    rw [hQ]
    exact q_iret cx dX9_brew_11

abbrev rm_X9_begin : Room := { frames := 1, cells := 0, slots := 0, locals := 40 }
def fn_X9_begin (M : QM) (ths : Nat) : Option Int32 :=
  gI M ths 9 8 fun x1 =>
  if 0 ≤ x1 then
    gI M ths 9 8 fun x14 =>
    some (10 * x14)
  else
    some 0
set_option maxRecDepth 100000 in
set_option maxHeartbeats 4000000 in
theorem ct_X9_begin (Γ : GT) (l : Launch) (M : QM) (ths : Nat) (ht0 : mt M ths = 9) (z : Int32) (h : fn_X9_begin M ths = some z) : CT Γ l yX9_begin cX9_begin 1 (some .int) rm_X9_begin (.ref ths :: []) M (some (.int z)) M := by
  refine ct_intro (own := RX9) (L := [(0, .ref ths)]) (by decide +kernel) rfl (Nat.le_of_ble_eq_true rfl) rfl ?_
  intro p e s m args below meth c Q hQ cx hnm
  unfold fn_X9_begin at h
  refine q_aload_n cx (pc' := 1) 0 rfl dX9_begin_0 rfl ?_
  obtain ⟨ht1, x1, ex1, h⟩ := gI_i h
  refine q_gI cx (pc' := 4) 9 8 fl_X9_35 rfl ht1 ex1 dX9_begin_1 rfl ?_
  refine q_if_ge cx (pc' := 7) (tgt := 11) dX9_begin_4 (by decide) rfl (fun c4 => ?_) (fun c4 => ?_)
  · replace h := ip c4 h
    refine q_bipush cx (pc' := 13) kb_10 dX9_begin_11 rfl ?_
    refine q_aload_n cx (pc' := 14) 0 rfl dX9_begin_13 rfl ?_
    obtain ⟨ht14, x14, ex14, h⟩ := gI_i h
    refine q_gI cx (pc' := 17) 9 8 fl_X9_35 rfl ht14 ex14 dX9_begin_14 rfl ?_
    refine q_imul cx (pc' := 18) dX9_begin_17 rfl ?_
    obtain rfl := o1_i h
    rw [hQ]
    exact q_iret cx dX9_begin_18
  · replace h := ine c4 h
    refine q_iconst cx (pc' := 8) ki_0 dX9_begin_7 rfl ?_
    refine q_goto cx dX9_begin_8 (tgt := 18) (by decide) ?_
    obtain rfl := o1_i h
    rw [hQ]
    exact q_iret cx dX9_begin_18

abbrev rm_X9_behind : Room := { frames := 1, cells := 0, slots := 0, locals := 40 }
def fn_X9_behind (M : QM) (ths : Nat) : Option Int32 :=
  gI M ths 9 8 fun x1 =>
  if 0 ≤ x1 then
    gI M ths 9 8 fun x14 =>
    gR M ths 9 13 fun r19 =>
    gI M ths 9 8 fun x23 =>
    aI M 20 r19 x23 fun x26 =>
    some ((10 * x14) + x26)
  else
    some 0
set_option maxRecDepth 100000 in
set_option maxHeartbeats 4000000 in
theorem ct_X9_behind (Γ : GT) (l : Launch) (M : QM) (ths : Nat) (ht0 : mt M ths = 9) (z : Int32) (h : fn_X9_behind M ths = some z) : CT Γ l yX9_behind cX9_behind 1 (some .int) rm_X9_behind (.ref ths :: []) M (some (.int z)) M := by
  refine ct_intro (own := RX9) (L := [(0, .ref ths)]) (by decide +kernel) rfl (Nat.le_of_ble_eq_true rfl) rfl ?_
  intro p e s m args below meth c Q hQ cx hnm
  unfold fn_X9_behind at h
  refine q_aload_n cx (pc' := 1) 0 rfl dX9_behind_0 rfl ?_
  obtain ⟨ht1, x1, ex1, h⟩ := gI_i h
  refine q_gI cx (pc' := 4) 9 8 fl_X9_35 rfl ht1 ex1 dX9_behind_1 rfl ?_
  refine q_if_ge cx (pc' := 7) (tgt := 11) dX9_behind_4 (by decide) rfl (fun c4 => ?_) (fun c4 => ?_)
  · replace h := ip c4 h
    refine q_bipush cx (pc' := 13) kb_10 dX9_behind_11 rfl ?_
    refine q_aload_n cx (pc' := 14) 0 rfl dX9_behind_13 rfl ?_
    obtain ⟨ht14, x14, ex14, h⟩ := gI_i h
    refine q_gI cx (pc' := 17) 9 8 fl_X9_35 rfl ht14 ex14 dX9_behind_14 rfl ?_
    refine q_imul cx (pc' := 18) dX9_behind_17 rfl ?_
    refine q_aload_n cx (pc' := 19) 0 rfl dX9_behind_18 rfl ?_
    obtain ⟨ht19, r19, ex19, h⟩ := gR_i h
    refine q_gR cx (pc' := 22) 9 13 fl_X9_50 rfl ht19 ex19 dX9_behind_19 rfl ?_
    refine q_aload_n cx (pc' := 23) 0 rfl dX9_behind_22 rfl ?_
    obtain ⟨ht23, x23, ex23, h⟩ := gI_i h
    refine q_gI cx (pc' := 26) 9 8 fl_X9_35 rfl ht23 ex23 dX9_behind_23 rfl ?_
    obtain ⟨ht26, hi26, x26, ex26, h⟩ := aI_i h
    refine q_iald cx (pc' := 27) ht26 hi26 ex26 dX9_behind_26 rfl ?_
    refine q_iadd cx (pc' := 28) dX9_behind_27 rfl ?_
    obtain rfl := o1_i h
    rw [hQ]
    exact q_iret cx dX9_behind_28
  · replace h := ine c4 h
    refine q_iconst cx (pc' := 8) ki_0 dX9_behind_7 rfl ?_
    refine q_goto cx dX9_behind_8 (tgt := 28) (by decide) ?_
    obtain rfl := o1_i h
    rw [hQ]
    exact q_iret cx dX9_behind_28

abbrev rm_X9_lastOf : Room := { frames := 2, cells := 0, slots := 0, locals := 60 }
def lp_X9_lastOf_8 (M : QM) (ths : Nat) (p1 : Int32) (w3_8 : Int32) (w4_8 : Int32) : Option ((Int32 × Int32) ⊕ (Int32)) :=
  bnd (fn_X9_behind M ths) fun c11 =>
  if c11 ≤ w4_8 then
    some (.inr w3_8)
  else
    gR M ths 9 14 fun r18 =>
    aI M 20 r18 w4_8 fun x23 =>
    if x23 = p1 then
      gR M ths 9 15 fun r29 =>
      aI M 20 r29 w4_8 fun x34 =>
      nm (w4_8 + 1) fun v4_40 =>
      some (.inl (x34, v4_40))
    else
      nm (w4_8 + 1) fun v4_40 =>
      some (.inl (w3_8, v4_40))
def fn_X9_lastOf (M : QM) (ths : Nat) (p1 : Int32) (p2 : Int32) : Option Int32 :=
  bnd (fn_X9_begin M ths) fun c3 =>
  bnd (itr (fun s8 : Int32 × Int32 => lp_X9_lastOf_8 M ths p1 s8.1 s8.2) FU (p2, c3)) fun re_8 =>
  some re_8
set_option maxRecDepth 100000 in
set_option maxHeartbeats 4000000 in
theorem ct_X9_lastOf (Γ : GT) (l : Launch) (M : QM) (ths : Nat) (p1 : Int32) (p2 : Int32) (ht0 : mt M ths = 9) (z : Int32) (h : fn_X9_lastOf M ths p1 p2 = some z) : CT Γ l yX9_lastOf cX9_lastOf 5 (some .int) rm_X9_lastOf (.ref ths :: [.int p1, .int p2]) M (some (.int z)) M := by
  refine ct_intro (own := RX9) (L := [(0, .ref ths), (1, .int p1), (2, .int p2)]) (by decide +kernel) rfl (Nat.le_of_ble_eq_true rfl) rfl ?_
  intro p e s m args below meth c Q hQ cx hnm
  unfold fn_X9_lastOf at h
  refine q_iload_n cx (pc' := 1) 2 rfl dX9_lastOf_0 rfl ?_
  refine q_istore_n cx (pc' := 2) rfl rfl (by decide) (L' := [(3, .int p2), (0, .ref ths), (1, .int p1), (2, .int p2)]) rfl dX9_lastOf_1 rfl ?_
  refine q_aload_n cx (pc' := 3) 1 rfl dX9_lastOf_2 rfl ?_
  obtain ⟨c3, hc3, h⟩ := bnd_i h
  refine q_callV cx (pc' := 6) (S := []) (S1 := [.int c3]) (kc' := 0) (ks' := 0) 9 (ct_X9_begin Γ l M ths ht0 _ hc3) lki_X9_begin lkv_X9_begin lkc_X9_299 ht0 (r := (RX9, TX9, 70)) ⟨rfl, by decide, rfl⟩ rfl rfl (Nat.le_of_ble_eq_true rfl) ⟨(Nat.le_of_ble_eq_true rfl), (Nat.le_of_ble_eq_true rfl)⟩ ⟨(Nat.le_of_ble_eq_true rfl), (Nat.le_of_ble_eq_true rfl)⟩ dX9_lastOf_3 rfl rfl rfl ?_
  refine q_istore cx (pc' := 8) rfl (by decide) (L' := [(4, .int c3), (3, .int p2), (0, .ref ths), (1, .int p1), (2, .int p2)]) rfl dX9_lastOf_6 rfl ?_
  obtain ⟨r8, hL8, h⟩ := bnd_i h
  have hk8_r : ∀ (re_8 : Int32), re_8 = r8 → some re_8 = some z := by
    intro re_8 hp
    subst hp
    exact h
  have key8 : ∀ (n : Nat) (w3_8 : Int32) (w4_8 : Int32), itr (fun s8 : Int32 × Int32 => lp_X9_lastOf_8 M ths p1 s8.1 s8.2) n (w3_8, w4_8) = some r8 → EE p l e rm_X9_lastOf s m args below meth c Q Γ 5 0 0 8 [(0, .ref ths), (1, .int p1), (3, .int w3_8), (4, .int w4_8)] [] M := by
    intro n
    induction n with
    | zero => intro _ _ h; exact (itr_0 h).elim
    | succ n ih =>
      intro w3_8 w4_8 h
      obtain ⟨z8, h, hz8⟩ := itr_i h
      replace h : lp_X9_lastOf_8 M ths p1 w3_8 w4_8 = some z8 := h
      unfold lp_X9_lastOf_8 at h
      refine q_iload cx (pc' := 10) 3 rfl dX9_lastOf_8 rfl ?_
      refine q_aload_n cx (pc' := 11) 0 rfl dX9_lastOf_10 rfl ?_
      obtain ⟨c11, hc11, h⟩ := bnd_i h
      refine q_callV cx (pc' := 14) (S := [.int w4_8]) (S1 := [.int c11, .int w4_8]) (kc' := 0) (ks' := 0) 9 (ct_X9_behind Γ l M ths ht0 _ hc11) lki_X9_behind lkv_X9_behind lkc_X9_302 ht0 (r := (RX9, TX9, 70)) ⟨rfl, by decide, rfl⟩ rfl rfl (Nat.le_of_ble_eq_true rfl) ⟨(Nat.le_of_ble_eq_true rfl), (Nat.le_of_ble_eq_true rfl)⟩ ⟨(Nat.le_of_ble_eq_true rfl), (Nat.le_of_ble_eq_true rfl)⟩ dX9_lastOf_11 rfl rfl rfl ?_
      refine q_icmp_ge cx (pc' := 17) (tgt := 46) dX9_lastOf_14 (by decide) rfl (fun c14 => ?_) (fun c14 => ?_)
      · replace h := ip c14 h
        refine q_iload_n cx (pc' := 47) 2 rfl dX9_lastOf_46 rfl ?_
        replace h := hk8_r _ (hz8.2 _ h)
        obtain rfl := o1_i h
        rw [hQ]
        exact q_iret cx dX9_lastOf_47
      · replace h := ine c14 h
        refine q_aload_n cx (pc' := 18) 0 rfl dX9_lastOf_17 rfl ?_
        obtain ⟨ht18, r18, ex18, h⟩ := gR_i h
        refine q_gR cx (pc' := 21) 9 14 fl_X9_53 rfl ht18 ex18 dX9_lastOf_18 rfl ?_
        refine q_iload cx (pc' := 23) 3 rfl dX9_lastOf_21 rfl ?_
        obtain ⟨ht23, hi23, x23, ex23, h⟩ := aI_i h
        refine q_iald cx (pc' := 24) ht23 hi23 ex23 dX9_lastOf_23 rfl ?_
        refine q_iload_n cx (pc' := 25) 1 rfl dX9_lastOf_24 rfl ?_
        refine q_icmp_ne cx (pc' := 28) (tgt := 38) dX9_lastOf_25 (by decide) rfl (fun c25 => ?_) (fun c25 => ?_)
        · replace h := ine c25 h
          refine q_iload_n cx (pc' := 39) 2 rfl dX9_lastOf_38 rfl ?_
          refine q_istore_n cx (pc' := 40) rfl rfl (by decide) (L' := [(3, .int w3_8), (0, .ref ths), (1, .int p1), (4, .int w4_8)]) rfl dX9_lastOf_39 rfl ?_
          obtain ⟨v4_40, ev4_40, h⟩ := nm_i h
          refine q_iinc cx (pc' := 43) 3 rfl ki_1 ev4_40 (by decide) (L' := [(4, .int v4_40), (3, .int w3_8), (0, .ref ths), (1, .int p1)]) rfl dX9_lastOf_40 rfl ?_
          refine q_goto cx dX9_lastOf_43 (tgt := 8) (by decide) ?_
          refine q_sub cx [2, 3, 1, 0] rfl ?_
          exact ih _ _ (hz8.1 _ h)
        · replace h := ip c25 h
          refine q_aload_n cx (pc' := 29) 0 rfl dX9_lastOf_28 rfl ?_
          obtain ⟨ht29, r29, ex29, h⟩ := gR_i h
          refine q_gR cx (pc' := 32) 9 15 fl_X9_56 rfl ht29 ex29 dX9_lastOf_29 rfl ?_
          refine q_iload cx (pc' := 34) 3 rfl dX9_lastOf_32 rfl ?_
          obtain ⟨ht34, hi34, x34, ex34, h⟩ := aI_i h
          refine q_iald cx (pc' := 35) ht34 hi34 ex34 dX9_lastOf_34 rfl ?_
          refine q_goto cx dX9_lastOf_35 (tgt := 39) (by decide) ?_
          refine q_istore_n cx (pc' := 40) rfl rfl (by decide) (L' := [(3, .int x34), (0, .ref ths), (1, .int p1), (4, .int w4_8)]) rfl dX9_lastOf_39 rfl ?_
          obtain ⟨v4_40, ev4_40, h⟩ := nm_i h
          refine q_iinc cx (pc' := 43) 3 rfl ki_1 ev4_40 (by decide) (L' := [(4, .int v4_40), (3, .int x34), (0, .ref ths), (1, .int p1)]) rfl dX9_lastOf_40 rfl ?_
          refine q_goto cx dX9_lastOf_43 (tgt := 8) (by decide) ?_
          refine q_sub cx [2, 3, 1, 0] rfl ?_
          exact ih _ _ (hz8.1 _ h)
  refine q_sub cx [2, 3, 1, 0] rfl ?_
  exact key8 FU _ _ hL8

abbrev rm_X9_spoon : Room := { frames := 3, cells := 0, slots := 0, locals := 84 }
def fn_X9_spoon (M : QM) (ths : Nat) : Option Int32 :=
  bnd (fn_X9_lastOf M ths 2 99) fun c4 =>
  if 16 ≤ c4 then
    some (-5)
  else
    some c4
set_option maxRecDepth 100000 in
set_option maxHeartbeats 4000000 in
theorem ct_X9_spoon (Γ : GT) (l : Launch) (M : QM) (ths : Nat) (ht0 : mt M ths = 9) (z : Int32) (h : fn_X9_spoon M ths = some z) : CT Γ l yX9_spoon cX9_spoon 2 (some .int) rm_X9_spoon (.ref ths :: []) M (some (.int z)) M := by
  refine ct_intro (own := RX9) (L := [(0, .ref ths)]) (by decide +kernel) rfl (Nat.le_of_ble_eq_true rfl) rfl ?_
  intro p e s m args below meth c Q hQ cx hnm
  unfold fn_X9_spoon at h
  refine q_aload_n cx (pc' := 1) 0 rfl dX9_spoon_0 rfl ?_
  refine q_iconst cx (pc' := 2) ki_2 dX9_spoon_1 rfl ?_
  refine q_bipush cx (pc' := 4) kb_99 dX9_spoon_2 rfl ?_
  obtain ⟨c4, hc4, h⟩ := bnd_i h
  refine q_callV cx (pc' := 7) (S := []) (S1 := [.int c4]) (kc' := 0) (ks' := 0) 9 (ct_X9_lastOf Γ l M ths 2 99 ht0 _ hc4) lki_X9_lastOf lkv_X9_lastOf lkc_X9_305 ht0 (r := (RX9, TX9, 70)) ⟨rfl, by decide, rfl⟩ rfl rfl (Nat.le_of_ble_eq_true rfl) ⟨(Nat.le_of_ble_eq_true rfl), (Nat.le_of_ble_eq_true rfl)⟩ ⟨(Nat.le_of_ble_eq_true rfl), (Nat.le_of_ble_eq_true rfl)⟩ dX9_spoon_4 rfl rfl rfl ?_
  refine q_istore_n cx (pc' := 8) rfl rfl (by decide) (L' := [(1, .int c4), (0, .ref ths)]) rfl dX9_spoon_7 rfl ?_
  refine q_iload_n cx (pc' := 9) 0 rfl dX9_spoon_8 rfl ?_
  refine q_bipush cx (pc' := 11) kb_16 dX9_spoon_9 rfl ?_
  refine q_icmp_ge cx (pc' := 14) (tgt := 18) dX9_spoon_11 (by decide) rfl (fun c11 => ?_) (fun c11 => ?_)
  · replace h := ip c11 h
    refine q_bipush cx (pc' := 20) kb_m5 dX9_spoon_18 rfl ?_
    obtain rfl := o1_i h
    rw [hQ]
    exact q_iret cx dX9_spoon_20
  · replace h := ine c11 h
    refine q_iload_n cx (pc' := 15) 0 rfl dX9_spoon_14 rfl ?_
    refine q_goto cx dX9_spoon_15 (tgt := 20) (by decide) ?_
    obtain rfl := o1_i h
    rw [hQ]
    exact q_iret cx dX9_spoon_20

abbrev rm_X9_milkOf : Room := { frames := 3, cells := 0, slots := 0, locals := 84 }
def fn_X9_milkOf (M : QM) (ths : Nat) (p1 : Int32) : Option Int32 :=
  gR M ths 9 2 fun r2 =>
  aI M 20 r2 p1 fun x6 =>
  bnd (fn_X9_lastOf M ths 3 10) fun c11 =>
  some (fn_X9_least0 (x6 - c11))
set_option maxRecDepth 100000 in
set_option maxHeartbeats 4000000 in
theorem ct_X9_milkOf (Γ : GT) (l : Launch) (M : QM) (ths : Nat) (p1 : Int32) (ht0 : mt M ths = 9) (z : Int32) (h : fn_X9_milkOf M ths p1 = some z) : CT Γ l yX9_milkOf cX9_milkOf 2 (some .int) rm_X9_milkOf (.ref ths :: [.int p1]) M (some (.int z)) M := by
  refine ct_intro (own := RX9) (L := [(0, .ref ths), (1, .int p1)]) (by decide +kernel) rfl (Nat.le_of_ble_eq_true rfl) rfl ?_
  intro p e s m args below meth c Q hQ cx hnm
  unfold fn_X9_milkOf at h
  refine q_aload_n cx (pc' := 1) 0 rfl dX9_milkOf_0 rfl ?_
  refine q_aload_n cx (pc' := 2) 0 rfl dX9_milkOf_1 rfl ?_
  obtain ⟨ht2, r2, ex2, h⟩ := gR_i h
  refine q_gR cx (pc' := 5) 9 2 fl_X9_16 rfl ht2 ex2 dX9_milkOf_2 rfl ?_
  refine q_iload_n cx (pc' := 6) 1 rfl dX9_milkOf_5 rfl ?_
  obtain ⟨ht6, hi6, x6, ex6, h⟩ := aI_i h
  refine q_iald cx (pc' := 7) ht6 hi6 ex6 dX9_milkOf_6 rfl ?_
  refine q_aload_n cx (pc' := 8) 0 rfl dX9_milkOf_7 rfl ?_
  refine q_iconst cx (pc' := 9) ki_3 dX9_milkOf_8 rfl ?_
  refine q_bipush cx (pc' := 11) kb_10 dX9_milkOf_9 rfl ?_
  obtain ⟨c11, hc11, h⟩ := bnd_i h
  refine q_callV cx (pc' := 14) (S := [.int x6, .ref ths]) (S1 := [.int c11, .int x6, .ref ths]) (kc' := 0) (ks' := 0) 9 (ct_X9_lastOf Γ l M ths 3 10 ht0 _ hc11) lki_X9_lastOf lkv_X9_lastOf lkc_X9_305 ht0 (r := (RX9, TX9, 70)) ⟨rfl, by decide, rfl⟩ rfl rfl (Nat.le_of_ble_eq_true rfl) ⟨(Nat.le_of_ble_eq_true rfl), (Nat.le_of_ble_eq_true rfl)⟩ ⟨(Nat.le_of_ble_eq_true rfl), (Nat.le_of_ble_eq_true rfl)⟩ dX9_milkOf_11 rfl rfl rfl ?_
  refine q_isub cx (pc' := 15) dX9_milkOf_14 rfl ?_
  refine q_callV cx (pc' := 18) (S := []) (S1 := [.int (fn_X9_least0 (x6 - c11))]) (kc' := 0) (ks' := 0) 9 (ct_X9_least0 Γ l M ths (x6 - c11) ht0) lki_X9_least0 lkv_X9_least0 lkc_X9_308 ht0 (r := (RX9, TX9, 70)) ⟨rfl, by decide, rfl⟩ rfl rfl (Nat.le_of_ble_eq_true rfl) ⟨(Nat.le_of_ble_eq_true rfl), (Nat.le_of_ble_eq_true rfl)⟩ ⟨(Nat.le_of_ble_eq_true rfl), (Nat.le_of_ble_eq_true rfl)⟩ dX9_milkOf_15 rfl rfl rfl ?_
  obtain rfl := o1_i h
  rw [hQ]
  exact q_iret cx dX9_milkOf_18

abbrev rm_X9_factOf : Room := { frames := 1, cells := 0, slots := 0, locals := 40 }
def fn_X9_factOf (M : QM) (ths : Nat) (p1 : Int32) (p2 : Int32) : Option Int32 :=
  if p1 = 0 then
    some p2
  else if p1 = 1 then
    some (p2 / 4)
  else if p1 = 2 then
    some (p2 - p2 / 4 * 4)
  else if p1 = 3 then
    gR M ths 9 2 fun r47 =>
    aI M 20 r47 p2 fun x51 =>
    some (x51 / 10)
  else if p1 = 4 then
    if ((p2 / 4) - (p2 / 4) / 3 * 3) = 0 then
      some 1
    else
      if ((p2 - p2 / 4 * 4) - (p2 - p2 / 4 * 4) / 3 * 3) = 0 then
        some 1
      else
        some 0
  else 
    gI M ths 9 1 fun x79 =>
    some (x79 - x79 / 10 * 10)
set_option maxRecDepth 100000 in
set_option maxHeartbeats 4000000 in
theorem ct_X9_factOf (Γ : GT) (l : Launch) (M : QM) (ths : Nat) (p1 : Int32) (p2 : Int32) (ht0 : mt M ths = 9) (z : Int32) (h : fn_X9_factOf M ths p1 p2 = some z) : CT Γ l yX9_factOf cX9_factOf 3 (some .int) rm_X9_factOf (.ref ths :: [.int p1, .int p2]) M (some (.int z)) M := by
  refine ct_intro (own := RX9) (L := [(0, .ref ths), (1, .int p1), (2, .int p2)]) (by decide +kernel) rfl (Nat.le_of_ble_eq_true rfl) rfl ?_
  intro p e s m args below meth c Q hQ cx hnm
  unfold fn_X9_factOf at h
  refine q_iload_n cx (pc' := 1) 1 rfl dX9_factOf_0 rfl ?_
  rcases Decidable.em (p1 = 0) with c1_0 | c1_0
  · replace h := ip c1_0 h
    refine q_tabIn cx (off := 35) (tgt := 36) c1_0 dX9_factOf_1 (by decide) (by decide) ?_
    refine q_iload_n cx (pc' := 37) 2 rfl dX9_factOf_36 rfl ?_
    obtain rfl := o1_i h
    rw [hQ]
    exact q_iret cx dX9_factOf_37
  replace h := ine c1_0 h
  rcases Decidable.em (p1 = 1) with c1_1 | c1_1
  · replace h := ip c1_1 h
    refine q_tabIn cx (off := 37) (tgt := 38) c1_1 dX9_factOf_1 (by decide) (by decide) ?_
    refine q_iload_n cx (pc' := 39) 2 rfl dX9_factOf_38 rfl ?_
    refine q_iconst cx (pc' := 40) ki_4 dX9_factOf_39 rfl ?_
    refine q_idiv cx (pc' := 41) (by decide) dX9_factOf_40 rfl ?_
    obtain rfl := o1_i h
    rw [hQ]
    exact q_iret cx dX9_factOf_41
  replace h := ine c1_1 h
  rcases Decidable.em (p1 = 2) with c1_2 | c1_2
  · replace h := ip c1_2 h
    refine q_tabIn cx (off := 41) (tgt := 42) c1_2 dX9_factOf_1 (by decide) (by decide) ?_
    refine q_iload_n cx (pc' := 43) 2 rfl dX9_factOf_42 rfl ?_
    refine q_iconst cx (pc' := 44) ki_4 dX9_factOf_43 rfl ?_
    refine q_irem cx (pc' := 45) (by decide) dX9_factOf_44 rfl ?_
    obtain rfl := o1_i h
    rw [hQ]
    exact q_iret cx dX9_factOf_45
  replace h := ine c1_2 h
  rcases Decidable.em (p1 = 3) with c1_3 | c1_3
  · replace h := ip c1_3 h
    refine q_tabIn cx (off := 45) (tgt := 46) c1_3 dX9_factOf_1 (by decide) (by decide) ?_
    refine q_aload_n cx (pc' := 47) 0 rfl dX9_factOf_46 rfl ?_
    obtain ⟨ht47, r47, ex47, h⟩ := gR_i h
    refine q_gR cx (pc' := 50) 9 2 fl_X9_16 rfl ht47 ex47 dX9_factOf_47 rfl ?_
    refine q_iload_n cx (pc' := 51) 2 rfl dX9_factOf_50 rfl ?_
    obtain ⟨ht51, hi51, x51, ex51, h⟩ := aI_i h
    refine q_iald cx (pc' := 52) ht51 hi51 ex51 dX9_factOf_51 rfl ?_
    refine q_bipush cx (pc' := 54) kb_10 dX9_factOf_52 rfl ?_
    refine q_idiv cx (pc' := 55) (by decide) dX9_factOf_54 rfl ?_
    obtain rfl := o1_i h
    rw [hQ]
    exact q_iret cx dX9_factOf_55
  replace h := ine c1_3 h
  rcases Decidable.em (p1 = 4) with c1_4 | c1_4
  · replace h := ip c1_4 h
    refine q_tabIn cx (off := 55) (tgt := 56) c1_4 dX9_factOf_1 (by decide) (by decide) ?_
    refine q_iload_n cx (pc' := 57) 2 rfl dX9_factOf_56 rfl ?_
    refine q_iconst cx (pc' := 58) ki_4 dX9_factOf_57 rfl ?_
    refine q_idiv cx (pc' := 59) (by decide) dX9_factOf_58 rfl ?_
    refine q_iconst cx (pc' := 60) ki_3 dX9_factOf_59 rfl ?_
    refine q_irem cx (pc' := 61) (by decide) dX9_factOf_60 rfl ?_
    refine q_if_eq cx (pc' := 64) (tgt := 72) dX9_factOf_61 (by decide) rfl (fun c61 => ?_) (fun c61 => ?_)
    · replace h := ip c61 h
      refine q_iconst cx (pc' := 73) ki_1 dX9_factOf_72 rfl ?_
      refine q_goto cx dX9_factOf_73 (tgt := 77) (by decide) ?_
      obtain rfl := o1_i h
      rw [hQ]
      exact q_iret cx dX9_factOf_77
    · replace h := ine c61 h
      refine q_iload_n cx (pc' := 65) 2 rfl dX9_factOf_64 rfl ?_
      refine q_iconst cx (pc' := 66) ki_4 dX9_factOf_65 rfl ?_
      refine q_irem cx (pc' := 67) (by decide) dX9_factOf_66 rfl ?_
      refine q_iconst cx (pc' := 68) ki_3 dX9_factOf_67 rfl ?_
      refine q_irem cx (pc' := 69) (by decide) dX9_factOf_68 rfl ?_
      refine q_if_ne cx (pc' := 72) (tgt := 76) dX9_factOf_69 (by decide) rfl (fun c69 => ?_) (fun c69 => ?_)
      · replace h := ine c69 h
        refine q_iconst cx (pc' := 77) ki_0 dX9_factOf_76 rfl ?_
        obtain rfl := o1_i h
        rw [hQ]
        exact q_iret cx dX9_factOf_77
      · replace h := ip c69 h
        refine q_iconst cx (pc' := 73) ki_1 dX9_factOf_72 rfl ?_
        refine q_goto cx dX9_factOf_73 (tgt := 77) (by decide) ?_
        obtain rfl := o1_i h
        rw [hQ]
        exact q_iret cx dX9_factOf_77
  replace h := ine c1_4 h
  have nt1_0 := lv_neT c1_0 (a := 0) rfl
  have nt1_1 := lv_neT c1_1 (a := 1) rfl
  have nt1_2 := lv_neT c1_2 (a := 2) rfl
  have nt1_3 := lv_neT c1_3 (a := 3) rfl
  have nt1_4 := lv_neT c1_4 (a := 4) rfl
  refine q_tabOut cx (tgt := 78) dX9_factOf_1 (by omega) (by decide) ?_
  refine q_aload_n cx (pc' := 79) 0 rfl dX9_factOf_78 rfl ?_
  obtain ⟨ht79, x79, ex79, h⟩ := gI_i h
  refine q_gI cx (pc' := 82) 9 1 fl_X9_13 rfl ht79 ex79 dX9_factOf_79 rfl ?_
  refine q_bipush cx (pc' := 84) kb_10 dX9_factOf_82 rfl ?_
  refine q_irem cx (pc' := 85) (by decide) dX9_factOf_84 rfl ?_
  obtain rfl := o1_i h
  rw [hQ]
  exact q_iret cx dX9_factOf_85

abbrev rm_X9_holds : Room := { frames := 2, cells := 0, slots := 0, locals := 62 }
def jn_X9_holds_134_10 (j3_134 : Int32) (j4_134 : Int32) (js0_134 : Int32) (js1_134 : Nat) (Mj_134 : QM) : Option ((Int32 × Int32 × QM) ⊕ (QM)) :=
  wI Mj_134 21 js1_134 js0_134 (zb 1) fun M139 =>
  nm (j4_134 + 1) fun v4_237 =>
  some (.inl (j3_134, v4_237, M139))
def jn_X9_holds_110_10 (j3_110 : Int32) (j4_110 : Int32) (js0_110 : Int32) (js1_110 : Nat) (Mj_110 : QM) : Option ((Int32 × Int32 × QM) ⊕ (QM)) :=
  wI Mj_110 21 js1_110 js0_110 (zb 0) fun M139 =>
  nm (j4_110 + 1) fun v4_237 =>
  some (.inl (j3_110, v4_237, M139))
def lp_X9_holds_10 (ths : Nat) (p1 : Int32) (p2 : Int32) (w3_10 : Int32) (w4_10 : Int32) (Mw_10 : QM) : Option ((Int32 × Int32 × QM) ⊕ (QM)) :=
  gR Mw_10 ths 9 17 fun r13 =>
  aI Mw_10 20 r13 p1 fun x17 =>
  if x17 ≤ w4_10 then
    some (.inr Mw_10)
  else
    gR Mw_10 ths 9 18 fun r22 =>
    aI Mw_10 20 r22 w4_10 fun x27 =>
    if x27 = (-33) then
      gR Mw_10 ths 9 24 fun r38 =>
      gR Mw_10 ths 9 24 fun r45 =>
      aI Mw_10 21 r45 (w3_10 - 1) fun x51 =>
      if x51 = 0 then
        wI Mw_10 21 r38 (w3_10 - 1) (zb 1) fun M60 =>
        nm (w4_10 + 1) fun v4_237 =>
        some (.inl (w3_10, v4_237, M60))
      else
        wI Mw_10 21 r38 (w3_10 - 1) (zb 0) fun M60 =>
        nm (w4_10 + 1) fun v4_237 =>
        some (.inl (w3_10, v4_237, M60))
    else
      if 0 ≤ x27 then
        ck Mw_10 ths 9 <|
        bnd (fn_X9_factOf Mw_10 ths (x27 / 1000) p2) fun c151 =>
        nm ((x27 / 100) - (x27 / 100) / 10 * 10) fun v7_164 =>
        gR Mw_10 ths 9 24 fun r167 =>
        if v7_164 = 0 then
          if (x27 - x27 / 100 * 100) ≤ c151 then
            wI Mw_10 21 r167 w3_10 (zb 0) fun M233 =>
            nm (w3_10 + 1) fun v3_234 =>
            nm (w4_10 + 1) fun v4_237 =>
            some (.inl (v3_234, v4_237, M233))
          else
            wI Mw_10 21 r167 w3_10 (zb 1) fun M233 =>
            nm (w3_10 + 1) fun v3_234 =>
            nm (w4_10 + 1) fun v4_237 =>
            some (.inl (v3_234, v4_237, M233))
        else
          if v7_164 = 1 then
            if c151 = (x27 - x27 / 100 * 100) then
              wI Mw_10 21 r167 w3_10 (zb 1) fun M233 =>
              nm (w3_10 + 1) fun v3_234 =>
              nm (w4_10 + 1) fun v4_237 =>
              some (.inl (v3_234, v4_237, M233))
            else
              wI Mw_10 21 r167 w3_10 (zb 0) fun M233 =>
              nm (w3_10 + 1) fun v3_234 =>
              nm (w4_10 + 1) fun v4_237 =>
              some (.inl (v3_234, v4_237, M233))
          else
            if c151 ≤ (x27 - x27 / 100 * 100) then
              wI Mw_10 21 r167 w3_10 (zb 0) fun M233 =>
              nm (w3_10 + 1) fun v3_234 =>
              nm (w4_10 + 1) fun v4_237 =>
              some (.inl (v3_234, v4_237, M233))
            else
              wI Mw_10 21 r167 w3_10 (zb 1) fun M233 =>
              nm (w3_10 + 1) fun v3_234 =>
              nm (w4_10 + 1) fun v4_237 =>
              some (.inl (v3_234, v4_237, M233))
      else
        nm (w3_10 + (-1)) fun v3_69 =>
        gR Mw_10 ths 9 24 fun r73 =>
        if x27 = (-38) then
          gR Mw_10 ths 9 24 fun r87 =>
          aI Mw_10 21 r87 (v3_69 - 1) fun x93 =>
          if x93 = 0 then
            jn_X9_holds_110_10 v3_69 w4_10 (v3_69 - 1) r73 Mw_10
          else
            gR Mw_10 ths 9 24 fun r98 =>
            aI Mw_10 21 r98 v3_69 fun x102 =>
            if x102 = 0 then
              jn_X9_holds_110_10 v3_69 w4_10 (v3_69 - 1) r73 Mw_10
            else
              wI Mw_10 21 r73 (v3_69 - 1) (zb 1) fun M139 =>
              nm (w4_10 + 1) fun v4_237 =>
              some (.inl (v3_69, v4_237, M139))
        else
          gR Mw_10 ths 9 24 fun r115 =>
          aI Mw_10 21 r115 (v3_69 - 1) fun x121 =>
          if x121 = 0 then
            gR Mw_10 ths 9 24 fun r126 =>
            aI Mw_10 21 r126 v3_69 fun x130 =>
            if x130 = 0 then
              wI Mw_10 21 r73 (v3_69 - 1) (zb 0) fun M139 =>
              nm (w4_10 + 1) fun v4_237 =>
              some (.inl (v3_69, v4_237, M139))
            else
              jn_X9_holds_134_10 v3_69 w4_10 (v3_69 - 1) r73 Mw_10
          else
            jn_X9_holds_134_10 v3_69 w4_10 (v3_69 - 1) r73 Mw_10
def fn_X9_holds (M : QM) (ths : Nat) (p1 : Int32) (p2 : Int32) : Option (Int32 × QM) :=
  gR M ths 9 16 fun r3 =>
  aI M 20 r3 p1 fun x7 =>
  bnd (itr (fun s10 : Int32 × Int32 × QM => lp_X9_holds_10 ths p1 p2 s10.1 s10.2.1 s10.2.2) FU (0, x7, M)) fun Me_10 =>
  gR Me_10 ths 9 24 fun r244 =>
  aI Me_10 21 r244 0 fun x248 =>
  some (zb x248, Me_10)
set_option maxRecDepth 100000 in
set_option maxHeartbeats 4000000 in
theorem ct_X9_holds (Γ : GT) (l : Launch) (M : QM) (ths : Nat) (p1 : Int32) (p2 : Int32) (ht0 : mt M ths = 9) (z : Int32) (M' : QM) (h : fn_X9_holds M ths p1 p2 = some (z, M')) : CT Γ l yX9_holds cX9_holds 8 (some .boolean) rm_X9_holds (.ref ths :: [.int p1, .int p2]) M (some (.int z)) M' := by
  refine ct_intro (own := RX9) (L := [(0, .ref ths), (1, .int p1), (2, .int p2)]) (by decide +kernel) rfl (Nat.le_of_ble_eq_true rfl) rfl ?_
  intro p e s m args below meth c Q hQ cx hnm
  unfold fn_X9_holds at h
  refine q_iconst cx (pc' := 1) ki_0 dX9_holds_0 rfl ?_
  refine q_istore_n cx (pc' := 2) rfl rfl (by decide) (L' := [(3, .int 0), (0, .ref ths), (1, .int p1), (2, .int p2)]) rfl dX9_holds_1 rfl ?_
  refine q_aload_n cx (pc' := 3) 1 rfl dX9_holds_2 rfl ?_
  obtain ⟨ht3, r3, ex3, h⟩ := gR_i h
  refine q_gR cx (pc' := 6) 9 16 fl_X9_59 rfl ht3 ex3 dX9_holds_3 rfl ?_
  refine q_iload_n cx (pc' := 7) 2 rfl dX9_holds_6 rfl ?_
  obtain ⟨ht7, hi7, x7, ex7, h⟩ := aI_i h
  refine q_iald cx (pc' := 8) ht7 hi7 ex7 dX9_holds_7 rfl ?_
  refine q_istore cx (pc' := 10) rfl (by decide) (L' := [(4, .int x7), (3, .int 0), (0, .ref ths), (1, .int p1), (2, .int p2)]) rfl dX9_holds_8 rfl ?_
  obtain ⟨r10, hL10, h⟩ := bnd_i h
  have hk10_0 : ∀ (Me_10 : QM), Me_10 = r10 → EE p l e rm_X9_holds s m args below meth c Q Γ 8 0 0 243 [(0, .ref ths)] [] Me_10 := by
    intro Me_10 hp
    subst hp
    refine q_aload_n cx (pc' := 244) 0 rfl dX9_holds_243 rfl ?_
    obtain ⟨ht244, r244, ex244, h⟩ := gR_i h
    refine q_gR cx (pc' := 247) 9 24 fl_X9_83 rfl ht244 ex244 dX9_holds_244 rfl ?_
    refine q_iconst cx (pc' := 248) ki_0 dX9_holds_247 rfl ?_
    obtain ⟨ht248, hi248, x248, ex248, h⟩ := aI_i h
    refine q_zald cx (pc' := 249) ht248 hi248 ex248 dX9_holds_248 rfl ?_
    obtain ⟨rfl, rfl⟩ := o2_i h
    rw [hQ]
    exact q_nret cx rfl dX9_holds_249
  have key10 : ∀ (n : Nat) (w3_10 : Int32) (w4_10 : Int32) (Mw_10 : QM), itr (fun s10 : Int32 × Int32 × QM => lp_X9_holds_10 ths p1 p2 s10.1 s10.2.1 s10.2.2) n (w3_10, w4_10, Mw_10) = some r10 → EE p l e rm_X9_holds s m args below meth c Q Γ 8 0 0 10 [(0, .ref ths), (1, .int p1), (2, .int p2), (3, .int w3_10), (4, .int w4_10)] [] Mw_10 := by
    intro n
    induction n with
    | zero => intro _ _ _ h; exact (itr_0 h).elim
    | succ n ih =>
      intro w3_10 w4_10 Mw_10 h
      obtain ⟨z10, h, hz10⟩ := itr_i h
      replace h : lp_X9_holds_10 ths p1 p2 w3_10 w4_10 Mw_10 = some z10 := h
      unfold lp_X9_holds_10 at h
      have hj134 : ∀ (j3_134 : Int32) (j4_134 : Int32) (js0_134 : Int32) (js1_134 : Nat) (Mj_134 : QM), jn_X9_holds_134_10 j3_134 j4_134 js0_134 js1_134 Mj_134 = some z10 → EE p l e rm_X9_holds s m args below meth c Q Γ 8 0 0 134 [(0, .ref ths), (1, .int p1), (2, .int p2), (3, .int j3_134), (4, .int j4_134)] [.int js0_134, .ref js1_134] Mj_134 := by
        intro j3_134 j4_134 js0_134 js1_134 Mj_134 h
        unfold jn_X9_holds_134_10 at h
        refine q_iconst cx (pc' := 135) ki_1 dX9_holds_134 rfl ?_
        refine q_goto cx dX9_holds_135 (tgt := 139) (by decide) ?_
        obtain ⟨ht139, hi139, M139, eM139, h⟩ := wI_i h
        refine q_zast cx (pc' := 140) ht139 hi139 eM139 dX9_holds_139 rfl ?_
        refine q_goto cx dX9_holds_140 (tgt := 237) (by decide) ?_
        obtain ⟨v4_237, ev4_237, h⟩ := nm_i h
        refine q_iinc cx (pc' := 240) 4 rfl ki_1 ev4_237 (by decide) (L' := [(4, .int v4_237), (0, .ref ths), (1, .int p1), (2, .int p2), (3, .int j3_134)]) rfl dX9_holds_237 rfl ?_
        refine q_goto cx dX9_holds_240 (tgt := 10) (by decide) ?_
        refine q_sub cx [1, 2, 3, 4, 0] rfl ?_
        exact ih _ _ _ (hz10.1 _ h)
      have hj110 : ∀ (j3_110 : Int32) (j4_110 : Int32) (js0_110 : Int32) (js1_110 : Nat) (Mj_110 : QM), jn_X9_holds_110_10 j3_110 j4_110 js0_110 js1_110 Mj_110 = some z10 → EE p l e rm_X9_holds s m args below meth c Q Γ 8 0 0 110 [(0, .ref ths), (1, .int p1), (2, .int p2), (3, .int j3_110), (4, .int j4_110)] [.int js0_110, .ref js1_110] Mj_110 := by
        intro j3_110 j4_110 js0_110 js1_110 Mj_110 h
        unfold jn_X9_holds_110_10 at h
        refine q_iconst cx (pc' := 111) ki_0 dX9_holds_110 rfl ?_
        refine q_goto cx dX9_holds_111 (tgt := 139) (by decide) ?_
        obtain ⟨ht139, hi139, M139, eM139, h⟩ := wI_i h
        refine q_zast cx (pc' := 140) ht139 hi139 eM139 dX9_holds_139 rfl ?_
        refine q_goto cx dX9_holds_140 (tgt := 237) (by decide) ?_
        obtain ⟨v4_237, ev4_237, h⟩ := nm_i h
        refine q_iinc cx (pc' := 240) 4 rfl ki_1 ev4_237 (by decide) (L' := [(4, .int v4_237), (0, .ref ths), (1, .int p1), (2, .int p2), (3, .int j3_110)]) rfl dX9_holds_237 rfl ?_
        refine q_goto cx dX9_holds_240 (tgt := 10) (by decide) ?_
        refine q_sub cx [1, 2, 3, 4, 0] rfl ?_
        exact ih _ _ _ (hz10.1 _ h)
      refine q_iload cx (pc' := 12) 4 rfl dX9_holds_10 rfl ?_
      refine q_aload_n cx (pc' := 13) 0 rfl dX9_holds_12 rfl ?_
      obtain ⟨ht13, r13, ex13, h⟩ := gR_i h
      refine q_gR cx (pc' := 16) 9 17 fl_X9_62 rfl ht13 ex13 dX9_holds_13 rfl ?_
      refine q_iload_n cx (pc' := 17) 1 rfl dX9_holds_16 rfl ?_
      obtain ⟨ht17, hi17, x17, ex17, h⟩ := aI_i h
      refine q_iald cx (pc' := 18) ht17 hi17 ex17 dX9_holds_17 rfl ?_
      refine q_icmp_ge cx (pc' := 21) (tgt := 243) dX9_holds_18 (by decide) rfl (fun c18 => ?_) (fun c18 => ?_)
      · replace h := ip c18 h
        refine q_sub cx [0] rfl ?_
        exact hk10_0 _ (hz10.2 _ h)
      · replace h := ine c18 h
        refine q_aload_n cx (pc' := 22) 0 rfl dX9_holds_21 rfl ?_
        obtain ⟨ht22, r22, ex22, h⟩ := gR_i h
        refine q_gR cx (pc' := 25) 9 18 fl_X9_65 rfl ht22 ex22 dX9_holds_22 rfl ?_
        refine q_iload cx (pc' := 27) 4 rfl dX9_holds_25 rfl ?_
        obtain ⟨ht27, hi27, x27, ex27, h⟩ := aI_i h
        refine q_iald cx (pc' := 28) ht27 hi27 ex27 dX9_holds_27 rfl ?_
        refine q_istore cx (pc' := 30) rfl (by decide) (L' := [(5, .int x27), (0, .ref ths), (1, .int p1), (2, .int p2), (3, .int w3_10), (4, .int w4_10)]) rfl dX9_holds_28 rfl ?_
        refine q_iload cx (pc' := 32) 0 rfl dX9_holds_30 rfl ?_
        refine q_bipush cx (pc' := 34) kb_m33 dX9_holds_32 rfl ?_
        refine q_icmp_ne cx (pc' := 37) (tgt := 64) dX9_holds_34 (by decide) rfl (fun c34 => ?_) (fun c34 => ?_)
        · replace h := ine c34 h
          refine q_iload cx (pc' := 66) 0 rfl dX9_holds_64 rfl ?_
          refine q_if_ge cx (pc' := 69) (tgt := 143) dX9_holds_66 (by decide) rfl (fun c66 => ?_) (fun c66 => ?_)
          · replace h := ip c66 h
            refine q_aload_n cx (pc' := 144) 1 rfl dX9_holds_143 rfl ?_
            refine q_iload cx (pc' := 146) 0 rfl dX9_holds_144 rfl ?_
            refine q_sipush cx (pc' := 149) ks_1000 dX9_holds_146 rfl ?_
            refine q_idiv cx (pc' := 150) (by decide) dX9_holds_149 rfl ?_
            refine q_iload_n cx (pc' := 151) 3 rfl dX9_holds_150 rfl ?_
            obtain ⟨hk151, h⟩ := ck_i h
            obtain ⟨c151, hc151, h⟩ := bnd_i h
            refine q_callV cx (pc' := 154) (S := []) (S1 := [.int c151]) (kc' := 0) (ks' := 0) 9 (ct_X9_factOf Γ l Mw_10 ths (x27 / 1000) p2 hk151 _ hc151) lki_X9_factOf lkv_X9_factOf lkc_X9_311 hk151 (r := (RX9, TX9, 70)) ⟨rfl, by decide, rfl⟩ rfl rfl (Nat.le_of_ble_eq_true rfl) ⟨(Nat.le_of_ble_eq_true rfl), (Nat.le_of_ble_eq_true rfl)⟩ ⟨(Nat.le_of_ble_eq_true rfl), (Nat.le_of_ble_eq_true rfl)⟩ dX9_holds_151 rfl rfl rfl ?_
            refine q_istore cx (pc' := 156) rfl (by decide) (L' := [(6, .int c151), (5, .int x27), (0, .ref ths), (1, .int p1), (2, .int p2), (3, .int w3_10), (4, .int w4_10)]) rfl dX9_holds_154 rfl ?_
            refine q_iload cx (pc' := 158) 1 rfl dX9_holds_156 rfl ?_
            refine q_bipush cx (pc' := 160) kb_100 dX9_holds_158 rfl ?_
            refine q_idiv cx (pc' := 161) (by decide) dX9_holds_160 rfl ?_
            refine q_bipush cx (pc' := 163) kb_10 dX9_holds_161 rfl ?_
            refine q_irem cx (pc' := 164) (by decide) dX9_holds_163 rfl ?_
            obtain ⟨v7_164, ev7_164, h⟩ := nm_i h
            refine q_istore cx (pc' := 166) ev7_164 (by decide) (L' := [(7, .int v7_164), (6, .int c151), (5, .int x27), (0, .ref ths), (1, .int p1), (2, .int p2), (3, .int w3_10), (4, .int w4_10)]) rfl dX9_holds_164 rfl ?_
            refine q_aload_n cx (pc' := 167) 3 rfl dX9_holds_166 rfl ?_
            obtain ⟨ht167, r167, ex167, h⟩ := gR_i h
            refine q_gR cx (pc' := 170) 9 24 fl_X9_83 rfl ht167 ex167 dX9_holds_167 rfl ?_
            refine q_iload_n cx (pc' := 171) 6 rfl dX9_holds_170 rfl ?_
            refine q_iload cx (pc' := 173) 0 rfl dX9_holds_171 rfl ?_
            refine q_if_ne cx (pc' := 176) (tgt := 194) dX9_holds_173 (by decide) rfl (fun c173 => ?_) (fun c173 => ?_)
            · replace h := ine c173 h
              refine q_iload cx (pc' := 196) 0 rfl dX9_holds_194 rfl ?_
              refine q_iconst cx (pc' := 197) ki_1 dX9_holds_196 rfl ?_
              refine q_icmp_ne cx (pc' := 200) (tgt := 218) dX9_holds_197 (by decide) rfl (fun c197 => ?_) (fun c197 => ?_)
              · replace h := ine c197 h
                refine q_iload cx (pc' := 220) 1 rfl dX9_holds_218 rfl ?_
                refine q_iload cx (pc' := 222) 2 rfl dX9_holds_220 rfl ?_
                refine q_bipush cx (pc' := 224) kb_100 dX9_holds_222 rfl ?_
                refine q_irem cx (pc' := 225) (by decide) dX9_holds_224 rfl ?_
                refine q_icmp_le cx (pc' := 228) (tgt := 232) dX9_holds_225 (by decide) rfl (fun c225 => ?_) (fun c225 => ?_)
                · replace h := ip c225 h
                  refine q_iconst cx (pc' := 233) ki_0 dX9_holds_232 rfl ?_
                  obtain ⟨ht233, hi233, M233, eM233, h⟩ := wI_i h
                  refine q_zast cx (pc' := 234) ht233 hi233 eM233 dX9_holds_233 rfl ?_
                  obtain ⟨v3_234, ev3_234, h⟩ := nm_i h
                  refine q_iinc cx (pc' := 237) 6 rfl ki_1 ev3_234 (by decide) (L' := [(3, .int v3_234), (7, .int v7_164), (6, .int c151), (5, .int x27), (0, .ref ths), (1, .int p1), (2, .int p2), (4, .int w4_10)]) rfl dX9_holds_234 rfl ?_
                  obtain ⟨v4_237, ev4_237, h⟩ := nm_i h
                  refine q_iinc cx (pc' := 240) 7 rfl ki_1 ev4_237 (by decide) (L' := [(4, .int v4_237), (3, .int v3_234), (7, .int v7_164), (6, .int c151), (5, .int x27), (0, .ref ths), (1, .int p1), (2, .int p2)]) rfl dX9_holds_237 rfl ?_
                  refine q_goto cx dX9_holds_240 (tgt := 10) (by decide) ?_
                  refine q_sub cx [5, 6, 7, 1, 0] rfl ?_
                  exact ih _ _ _ (hz10.1 _ h)
                · replace h := ine c225 h
                  refine q_iconst cx (pc' := 229) ki_1 dX9_holds_228 rfl ?_
                  refine q_goto cx dX9_holds_229 (tgt := 233) (by decide) ?_
                  obtain ⟨ht233, hi233, M233, eM233, h⟩ := wI_i h
                  refine q_zast cx (pc' := 234) ht233 hi233 eM233 dX9_holds_233 rfl ?_
                  obtain ⟨v3_234, ev3_234, h⟩ := nm_i h
                  refine q_iinc cx (pc' := 237) 6 rfl ki_1 ev3_234 (by decide) (L' := [(3, .int v3_234), (7, .int v7_164), (6, .int c151), (5, .int x27), (0, .ref ths), (1, .int p1), (2, .int p2), (4, .int w4_10)]) rfl dX9_holds_234 rfl ?_
                  obtain ⟨v4_237, ev4_237, h⟩ := nm_i h
                  refine q_iinc cx (pc' := 240) 7 rfl ki_1 ev4_237 (by decide) (L' := [(4, .int v4_237), (3, .int v3_234), (7, .int v7_164), (6, .int c151), (5, .int x27), (0, .ref ths), (1, .int p1), (2, .int p2)]) rfl dX9_holds_237 rfl ?_
                  refine q_goto cx dX9_holds_240 (tgt := 10) (by decide) ?_
                  refine q_sub cx [5, 6, 7, 1, 0] rfl ?_
                  exact ih _ _ _ (hz10.1 _ h)
              · replace h := ip c197 h
                refine q_iload cx (pc' := 202) 1 rfl dX9_holds_200 rfl ?_
                refine q_iload cx (pc' := 204) 2 rfl dX9_holds_202 rfl ?_
                refine q_bipush cx (pc' := 206) kb_100 dX9_holds_204 rfl ?_
                refine q_irem cx (pc' := 207) (by decide) dX9_holds_206 rfl ?_
                refine q_icmp_ne cx (pc' := 210) (tgt := 214) dX9_holds_207 (by decide) rfl (fun c207 => ?_) (fun c207 => ?_)
                · replace h := ine c207 h
                  refine q_iconst cx (pc' := 215) ki_0 dX9_holds_214 rfl ?_
                  refine q_goto cx dX9_holds_215 (tgt := 233) (by decide) ?_
                  obtain ⟨ht233, hi233, M233, eM233, h⟩ := wI_i h
                  refine q_zast cx (pc' := 234) ht233 hi233 eM233 dX9_holds_233 rfl ?_
                  obtain ⟨v3_234, ev3_234, h⟩ := nm_i h
                  refine q_iinc cx (pc' := 237) 6 rfl ki_1 ev3_234 (by decide) (L' := [(3, .int v3_234), (7, .int v7_164), (6, .int c151), (5, .int x27), (0, .ref ths), (1, .int p1), (2, .int p2), (4, .int w4_10)]) rfl dX9_holds_234 rfl ?_
                  obtain ⟨v4_237, ev4_237, h⟩ := nm_i h
                  refine q_iinc cx (pc' := 240) 7 rfl ki_1 ev4_237 (by decide) (L' := [(4, .int v4_237), (3, .int v3_234), (7, .int v7_164), (6, .int c151), (5, .int x27), (0, .ref ths), (1, .int p1), (2, .int p2)]) rfl dX9_holds_237 rfl ?_
                  refine q_goto cx dX9_holds_240 (tgt := 10) (by decide) ?_
                  refine q_sub cx [5, 6, 7, 1, 0] rfl ?_
                  exact ih _ _ _ (hz10.1 _ h)
                · replace h := ip c207 h
                  refine q_iconst cx (pc' := 211) ki_1 dX9_holds_210 rfl ?_
                  refine q_goto cx dX9_holds_211 (tgt := 233) (by decide) ?_
                  obtain ⟨ht233, hi233, M233, eM233, h⟩ := wI_i h
                  refine q_zast cx (pc' := 234) ht233 hi233 eM233 dX9_holds_233 rfl ?_
                  obtain ⟨v3_234, ev3_234, h⟩ := nm_i h
                  refine q_iinc cx (pc' := 237) 6 rfl ki_1 ev3_234 (by decide) (L' := [(3, .int v3_234), (7, .int v7_164), (6, .int c151), (5, .int x27), (0, .ref ths), (1, .int p1), (2, .int p2), (4, .int w4_10)]) rfl dX9_holds_234 rfl ?_
                  obtain ⟨v4_237, ev4_237, h⟩ := nm_i h
                  refine q_iinc cx (pc' := 240) 7 rfl ki_1 ev4_237 (by decide) (L' := [(4, .int v4_237), (3, .int v3_234), (7, .int v7_164), (6, .int c151), (5, .int x27), (0, .ref ths), (1, .int p1), (2, .int p2)]) rfl dX9_holds_237 rfl ?_
                  refine q_goto cx dX9_holds_240 (tgt := 10) (by decide) ?_
                  refine q_sub cx [5, 6, 7, 1, 0] rfl ?_
                  exact ih _ _ _ (hz10.1 _ h)
            · replace h := ip c173 h
              refine q_iload cx (pc' := 178) 1 rfl dX9_holds_176 rfl ?_
              refine q_iload cx (pc' := 180) 2 rfl dX9_holds_178 rfl ?_
              refine q_bipush cx (pc' := 182) kb_100 dX9_holds_180 rfl ?_
              refine q_irem cx (pc' := 183) (by decide) dX9_holds_182 rfl ?_
              refine q_icmp_ge cx (pc' := 186) (tgt := 190) dX9_holds_183 (by decide) rfl (fun c183 => ?_) (fun c183 => ?_)
              · replace h := ip c183 h
                refine q_iconst cx (pc' := 191) ki_0 dX9_holds_190 rfl ?_
                refine q_goto cx dX9_holds_191 (tgt := 233) (by decide) ?_
                obtain ⟨ht233, hi233, M233, eM233, h⟩ := wI_i h
                refine q_zast cx (pc' := 234) ht233 hi233 eM233 dX9_holds_233 rfl ?_
                obtain ⟨v3_234, ev3_234, h⟩ := nm_i h
                refine q_iinc cx (pc' := 237) 6 rfl ki_1 ev3_234 (by decide) (L' := [(3, .int v3_234), (7, .int v7_164), (6, .int c151), (5, .int x27), (0, .ref ths), (1, .int p1), (2, .int p2), (4, .int w4_10)]) rfl dX9_holds_234 rfl ?_
                obtain ⟨v4_237, ev4_237, h⟩ := nm_i h
                refine q_iinc cx (pc' := 240) 7 rfl ki_1 ev4_237 (by decide) (L' := [(4, .int v4_237), (3, .int v3_234), (7, .int v7_164), (6, .int c151), (5, .int x27), (0, .ref ths), (1, .int p1), (2, .int p2)]) rfl dX9_holds_237 rfl ?_
                refine q_goto cx dX9_holds_240 (tgt := 10) (by decide) ?_
                refine q_sub cx [5, 6, 7, 1, 0] rfl ?_
                exact ih _ _ _ (hz10.1 _ h)
              · replace h := ine c183 h
                refine q_iconst cx (pc' := 187) ki_1 dX9_holds_186 rfl ?_
                refine q_goto cx dX9_holds_187 (tgt := 233) (by decide) ?_
                obtain ⟨ht233, hi233, M233, eM233, h⟩ := wI_i h
                refine q_zast cx (pc' := 234) ht233 hi233 eM233 dX9_holds_233 rfl ?_
                obtain ⟨v3_234, ev3_234, h⟩ := nm_i h
                refine q_iinc cx (pc' := 237) 6 rfl ki_1 ev3_234 (by decide) (L' := [(3, .int v3_234), (7, .int v7_164), (6, .int c151), (5, .int x27), (0, .ref ths), (1, .int p1), (2, .int p2), (4, .int w4_10)]) rfl dX9_holds_234 rfl ?_
                obtain ⟨v4_237, ev4_237, h⟩ := nm_i h
                refine q_iinc cx (pc' := 240) 7 rfl ki_1 ev4_237 (by decide) (L' := [(4, .int v4_237), (3, .int v3_234), (7, .int v7_164), (6, .int c151), (5, .int x27), (0, .ref ths), (1, .int p1), (2, .int p2)]) rfl dX9_holds_237 rfl ?_
                refine q_goto cx dX9_holds_240 (tgt := 10) (by decide) ?_
                refine q_sub cx [5, 6, 7, 1, 0] rfl ?_
                exact ih _ _ _ (hz10.1 _ h)
          · replace h := ine c66 h
            obtain ⟨v3_69, ev3_69, h⟩ := nm_i h
            refine q_iinc cx (pc' := 72) 4 rfl ki_m1 ev3_69 (by decide) (L' := [(3, .int v3_69), (5, .int x27), (0, .ref ths), (1, .int p1), (2, .int p2), (4, .int w4_10)]) rfl dX9_holds_69 rfl ?_
            refine q_aload_n cx (pc' := 73) 2 rfl dX9_holds_72 rfl ?_
            obtain ⟨ht73, r73, ex73, h⟩ := gR_i h
            refine q_gR cx (pc' := 76) 9 24 fl_X9_83 rfl ht73 ex73 dX9_holds_73 rfl ?_
            refine q_iload_n cx (pc' := 77) 0 rfl dX9_holds_76 rfl ?_
            refine q_iconst cx (pc' := 78) ki_1 dX9_holds_77 rfl ?_
            refine q_isub cx (pc' := 79) dX9_holds_78 rfl ?_
            refine q_iload cx (pc' := 81) 1 rfl dX9_holds_79 rfl ?_
            refine q_bipush cx (pc' := 83) kb_m38 dX9_holds_81 rfl ?_
            refine q_icmp_ne cx (pc' := 86) (tgt := 114) dX9_holds_83 (by decide) rfl (fun c83 => ?_) (fun c83 => ?_)
            · replace h := ine c83 h
              refine q_aload_n cx (pc' := 115) 2 rfl dX9_holds_114 rfl ?_
              obtain ⟨ht115, r115, ex115, h⟩ := gR_i h
              refine q_gR cx (pc' := 118) 9 24 fl_X9_83 rfl ht115 ex115 dX9_holds_115 rfl ?_
              refine q_iload_n cx (pc' := 119) 0 rfl dX9_holds_118 rfl ?_
              refine q_iconst cx (pc' := 120) ki_1 dX9_holds_119 rfl ?_
              refine q_isub cx (pc' := 121) dX9_holds_120 rfl ?_
              obtain ⟨ht121, hi121, x121, ex121, h⟩ := aI_i h
              refine q_zald cx (pc' := 122) ht121 hi121 ex121 dX9_holds_121 rfl ?_
              refine q_if_ne cx (pc' := 125) (tgt := 134) dX9_holds_122 (by decide) rfl (fun c122 => ?_) (fun c122 => ?_)
              · replace h := ine c122 h
                refine q_sub cx [2, 3, 4, 0, 5] rfl ?_
                exact hj134 _ _ _ _ _ h
              · replace h := ip c122 h
                refine q_aload_n cx (pc' := 126) 2 rfl dX9_holds_125 rfl ?_
                obtain ⟨ht126, r126, ex126, h⟩ := gR_i h
                refine q_gR cx (pc' := 129) 9 24 fl_X9_83 rfl ht126 ex126 dX9_holds_126 rfl ?_
                refine q_iload_n cx (pc' := 130) 0 rfl dX9_holds_129 rfl ?_
                obtain ⟨ht130, hi130, x130, ex130, h⟩ := aI_i h
                refine q_zald cx (pc' := 131) ht130 hi130 ex130 dX9_holds_130 rfl ?_
                refine q_if_eq cx (pc' := 134) (tgt := 138) dX9_holds_131 (by decide) rfl (fun c131 => ?_) (fun c131 => ?_)
                · replace h := ip c131 h
                  refine q_iconst cx (pc' := 139) ki_0 dX9_holds_138 rfl ?_
                  obtain ⟨ht139, hi139, M139, eM139, h⟩ := wI_i h
                  refine q_zast cx (pc' := 140) ht139 hi139 eM139 dX9_holds_139 rfl ?_
                  refine q_goto cx dX9_holds_140 (tgt := 237) (by decide) ?_
                  obtain ⟨v4_237, ev4_237, h⟩ := nm_i h
                  refine q_iinc cx (pc' := 240) 5 rfl ki_1 ev4_237 (by decide) (L' := [(4, .int v4_237), (3, .int v3_69), (5, .int x27), (0, .ref ths), (1, .int p1), (2, .int p2)]) rfl dX9_holds_237 rfl ?_
                  refine q_goto cx dX9_holds_240 (tgt := 10) (by decide) ?_
                  refine q_sub cx [3, 4, 5, 1, 0] rfl ?_
                  exact ih _ _ _ (hz10.1 _ h)
                · replace h := ine c131 h
                  refine q_sub cx [2, 3, 4, 0, 5] rfl ?_
                  exact hj134 _ _ _ _ _ h
            · replace h := ip c83 h
              refine q_aload_n cx (pc' := 87) 2 rfl dX9_holds_86 rfl ?_
              obtain ⟨ht87, r87, ex87, h⟩ := gR_i h
              refine q_gR cx (pc' := 90) 9 24 fl_X9_83 rfl ht87 ex87 dX9_holds_87 rfl ?_
              refine q_iload_n cx (pc' := 91) 0 rfl dX9_holds_90 rfl ?_
              refine q_iconst cx (pc' := 92) ki_1 dX9_holds_91 rfl ?_
              refine q_isub cx (pc' := 93) dX9_holds_92 rfl ?_
              obtain ⟨ht93, hi93, x93, ex93, h⟩ := aI_i h
              refine q_zald cx (pc' := 94) ht93 hi93 ex93 dX9_holds_93 rfl ?_
              refine q_if_eq cx (pc' := 97) (tgt := 110) dX9_holds_94 (by decide) rfl (fun c94 => ?_) (fun c94 => ?_)
              · replace h := ip c94 h
                refine q_sub cx [2, 3, 4, 0, 5] rfl ?_
                exact hj110 _ _ _ _ _ h
              · replace h := ine c94 h
                refine q_aload_n cx (pc' := 98) 2 rfl dX9_holds_97 rfl ?_
                obtain ⟨ht98, r98, ex98, h⟩ := gR_i h
                refine q_gR cx (pc' := 101) 9 24 fl_X9_83 rfl ht98 ex98 dX9_holds_98 rfl ?_
                refine q_iload_n cx (pc' := 102) 0 rfl dX9_holds_101 rfl ?_
                obtain ⟨ht102, hi102, x102, ex102, h⟩ := aI_i h
                refine q_zald cx (pc' := 103) ht102 hi102 ex102 dX9_holds_102 rfl ?_
                refine q_if_eq cx (pc' := 106) (tgt := 110) dX9_holds_103 (by decide) rfl (fun c103 => ?_) (fun c103 => ?_)
                · replace h := ip c103 h
                  refine q_sub cx [2, 3, 4, 0, 5] rfl ?_
                  exact hj110 _ _ _ _ _ h
                · replace h := ine c103 h
                  refine q_iconst cx (pc' := 107) ki_1 dX9_holds_106 rfl ?_
                  refine q_goto cx dX9_holds_107 (tgt := 139) (by decide) ?_
                  obtain ⟨ht139, hi139, M139, eM139, h⟩ := wI_i h
                  refine q_zast cx (pc' := 140) ht139 hi139 eM139 dX9_holds_139 rfl ?_
                  refine q_goto cx dX9_holds_140 (tgt := 237) (by decide) ?_
                  obtain ⟨v4_237, ev4_237, h⟩ := nm_i h
                  refine q_iinc cx (pc' := 240) 5 rfl ki_1 ev4_237 (by decide) (L' := [(4, .int v4_237), (3, .int v3_69), (5, .int x27), (0, .ref ths), (1, .int p1), (2, .int p2)]) rfl dX9_holds_237 rfl ?_
                  refine q_goto cx dX9_holds_240 (tgt := 10) (by decide) ?_
                  refine q_sub cx [3, 4, 5, 1, 0] rfl ?_
                  exact ih _ _ _ (hz10.1 _ h)
        · replace h := ip c34 h
          refine q_aload_n cx (pc' := 38) 1 rfl dX9_holds_37 rfl ?_
          obtain ⟨ht38, r38, ex38, h⟩ := gR_i h
          refine q_gR cx (pc' := 41) 9 24 fl_X9_83 rfl ht38 ex38 dX9_holds_38 rfl ?_
          refine q_iload_n cx (pc' := 42) 4 rfl dX9_holds_41 rfl ?_
          refine q_iconst cx (pc' := 43) ki_1 dX9_holds_42 rfl ?_
          refine q_isub cx (pc' := 44) dX9_holds_43 rfl ?_
          refine q_aload_n cx (pc' := 45) 1 rfl dX9_holds_44 rfl ?_
          obtain ⟨ht45, r45, ex45, h⟩ := gR_i h
          refine q_gR cx (pc' := 48) 9 24 fl_X9_83 rfl ht45 ex45 dX9_holds_45 rfl ?_
          refine q_iload_n cx (pc' := 49) 4 rfl dX9_holds_48 rfl ?_
          refine q_iconst cx (pc' := 50) ki_1 dX9_holds_49 rfl ?_
          refine q_isub cx (pc' := 51) dX9_holds_50 rfl ?_
          obtain ⟨ht51, hi51, x51, ex51, h⟩ := aI_i h
          refine q_zald cx (pc' := 52) ht51 hi51 ex51 dX9_holds_51 rfl ?_
          refine q_if_ne cx (pc' := 55) (tgt := 59) dX9_holds_52 (by decide) rfl (fun c52 => ?_) (fun c52 => ?_)
          · replace h := ine c52 h
            refine q_iconst cx (pc' := 60) ki_0 dX9_holds_59 rfl ?_
            obtain ⟨ht60, hi60, M60, eM60, h⟩ := wI_i h
            refine q_zast cx (pc' := 61) ht60 hi60 eM60 dX9_holds_60 rfl ?_
            refine q_goto cx dX9_holds_61 (tgt := 237) (by decide) ?_
            obtain ⟨v4_237, ev4_237, h⟩ := nm_i h
            refine q_iinc cx (pc' := 240) 5 rfl ki_1 ev4_237 (by decide) (L' := [(4, .int v4_237), (5, .int x27), (0, .ref ths), (1, .int p1), (2, .int p2), (3, .int w3_10)]) rfl dX9_holds_237 rfl ?_
            refine q_goto cx dX9_holds_240 (tgt := 10) (by decide) ?_
            refine q_sub cx [2, 3, 4, 5, 0] rfl ?_
            exact ih _ _ _ (hz10.1 _ h)
          · replace h := ip c52 h
            refine q_iconst cx (pc' := 56) ki_1 dX9_holds_55 rfl ?_
            refine q_goto cx dX9_holds_56 (tgt := 60) (by decide) ?_
            obtain ⟨ht60, hi60, M60, eM60, h⟩ := wI_i h
            refine q_zast cx (pc' := 61) ht60 hi60 eM60 dX9_holds_60 rfl ?_
            refine q_goto cx dX9_holds_61 (tgt := 237) (by decide) ?_
            obtain ⟨v4_237, ev4_237, h⟩ := nm_i h
            refine q_iinc cx (pc' := 240) 5 rfl ki_1 ev4_237 (by decide) (L' := [(4, .int v4_237), (5, .int x27), (0, .ref ths), (1, .int p1), (2, .int p2), (3, .int w3_10)]) rfl dX9_holds_237 rfl ?_
            refine q_goto cx dX9_holds_240 (tgt := 10) (by decide) ?_
            refine q_sub cx [2, 3, 4, 5, 0] rfl ?_
            exact ih _ _ _ (hz10.1 _ h)
  refine q_sub cx [2, 3, 4, 1, 0] rfl ?_
  exact key10 FU _ _ _ hL10

abbrev rm_X9_grows : Room := { frames := 3, cells := 0, slots := 0, locals := 89 }
def lp_X9_grows_7 (ths : Nat) (p1 : Int32) (w2_7 : Int32) (w3_7 : Int32) (Mw_7 : QM) : Option ((Int32 × Int32 × QM) ⊕ (Int32 × QM)) :=
  ck Mw_7 ths 9 <|
  bnd (fn_X9_behind Mw_7 ths) fun c9 =>
  if c9 ≤ w3_7 then
    some (.inr (w2_7, Mw_7))
  else
    gR Mw_7 ths 9 14 fun r16 =>
    aI Mw_7 20 r16 w3_7 fun x20 =>
    if 1 < x20 then
      nm (w3_7 + 1) fun v3_65 =>
      some (.inl (w2_7, v3_65, Mw_7))
    else
      ck Mw_7 ths 9 <|
      bnd (fn_X9_holds Mw_7 ths w3_7 p1) fun y28 =>
      pr2 y28 fun c28 M28 =>
      if c28 = 0 then
        nm (w3_7 + 1) fun v3_65 =>
        some (.inl (w2_7, v3_65, M28))
      else
        gR M28 ths 9 14 fun r39 =>
        aI M28 20 r39 w3_7 fun x43 =>
        if x43 = 0 then
          gR M28 ths 9 15 fun r48 =>
          aI M28 20 r48 w3_7 fun x52 =>
          nm (w2_7 + x52) fun v2_64 =>
          nm (w3_7 + 1) fun v3_65 =>
          some (.inl (v2_64, v3_65, M28))
        else
          gR M28 ths 9 15 fun r57 =>
          aI M28 20 r57 w3_7 fun x61 =>
          nm (w2_7 + (-x61)) fun v2_64 =>
          nm (w3_7 + 1) fun v3_65 =>
          some (.inl (v2_64, v3_65, M28))
def fn_X9_grows (M : QM) (ths : Nat) (p1 : Int32) : Option (Int32 × QM) :=
  bnd (fn_X9_begin M ths) fun c3 =>
  bnd (itr (fun s7 : Int32 × Int32 × QM => lp_X9_grows_7 ths p1 s7.1 s7.2.1 s7.2.2) FU (2, c3, M)) fun r7 =>
  pr2 r7 fun re_7 Mr_7 =>
  some (re_7, Mr_7)
set_option maxRecDepth 100000 in
set_option maxHeartbeats 4000000 in
theorem ct_X9_grows (Γ : GT) (l : Launch) (M : QM) (ths : Nat) (p1 : Int32) (ht0 : mt M ths = 9) (z : Int32) (M' : QM) (h : fn_X9_grows M ths p1 = some (z, M')) : CT Γ l yX9_grows cX9_grows 4 (some .int) rm_X9_grows (.ref ths :: [.int p1]) M (some (.int z)) M' := by
  refine ct_intro (own := RX9) (L := [(0, .ref ths), (1, .int p1)]) (by decide +kernel) rfl (Nat.le_of_ble_eq_true rfl) rfl ?_
  intro p e s m args below meth c Q hQ cx hnm
  unfold fn_X9_grows at h
  refine q_iconst cx (pc' := 1) ki_2 dX9_grows_0 rfl ?_
  refine q_istore_n cx (pc' := 2) rfl rfl (by decide) (L' := [(2, .int 2), (0, .ref ths), (1, .int p1)]) rfl dX9_grows_1 rfl ?_
  refine q_aload_n cx (pc' := 3) 1 rfl dX9_grows_2 rfl ?_
  obtain ⟨c3, hc3, h⟩ := bnd_i h
  refine q_callV cx (pc' := 6) (S := []) (S1 := [.int c3]) (kc' := 0) (ks' := 0) 9 (ct_X9_begin Γ l M ths ht0 _ hc3) lki_X9_begin lkv_X9_begin lkc_X9_299 ht0 (r := (RX9, TX9, 70)) ⟨rfl, by decide, rfl⟩ rfl rfl (Nat.le_of_ble_eq_true rfl) ⟨(Nat.le_of_ble_eq_true rfl), (Nat.le_of_ble_eq_true rfl)⟩ ⟨(Nat.le_of_ble_eq_true rfl), (Nat.le_of_ble_eq_true rfl)⟩ dX9_grows_3 rfl rfl rfl ?_
  refine q_istore_n cx (pc' := 7) rfl rfl (by decide) (L' := [(3, .int c3), (2, .int 2), (0, .ref ths), (1, .int p1)]) rfl dX9_grows_6 rfl ?_
  obtain ⟨r7, hL7, h⟩ := bnd_i h
  have hk7_r : ∀ (re_7 : Int32) (Mr_7 : QM), (re_7, Mr_7) = r7 → some (re_7, Mr_7) = some (z, M') := by
    intro re_7 Mr_7 hp
    subst hp
    replace h := pr2_i h
    exact h
  have key7 : ∀ (n : Nat) (w2_7 : Int32) (w3_7 : Int32) (Mw_7 : QM), itr (fun s7 : Int32 × Int32 × QM => lp_X9_grows_7 ths p1 s7.1 s7.2.1 s7.2.2) n (w2_7, w3_7, Mw_7) = some r7 → EE p l e rm_X9_grows s m args below meth c Q Γ 4 0 0 7 [(0, .ref ths), (1, .int p1), (2, .int w2_7), (3, .int w3_7)] [] Mw_7 := by
    intro n
    induction n with
    | zero => intro _ _ _ h; exact (itr_0 h).elim
    | succ n ih =>
      intro w2_7 w3_7 Mw_7 h
      obtain ⟨z7, h, hz7⟩ := itr_i h
      replace h : lp_X9_grows_7 ths p1 w2_7 w3_7 Mw_7 = some z7 := h
      unfold lp_X9_grows_7 at h
      refine q_iload_n cx (pc' := 8) 3 rfl dX9_grows_7 rfl ?_
      refine q_aload_n cx (pc' := 9) 0 rfl dX9_grows_8 rfl ?_
      obtain ⟨hk9, h⟩ := ck_i h
      obtain ⟨c9, hc9, h⟩ := bnd_i h
      refine q_callV cx (pc' := 12) (S := [.int w3_7]) (S1 := [.int c9, .int w3_7]) (kc' := 0) (ks' := 0) 9 (ct_X9_behind Γ l Mw_7 ths hk9 _ hc9) lki_X9_behind lkv_X9_behind lkc_X9_302 hk9 (r := (RX9, TX9, 70)) ⟨rfl, by decide, rfl⟩ rfl rfl (Nat.le_of_ble_eq_true rfl) ⟨(Nat.le_of_ble_eq_true rfl), (Nat.le_of_ble_eq_true rfl)⟩ ⟨(Nat.le_of_ble_eq_true rfl), (Nat.le_of_ble_eq_true rfl)⟩ dX9_grows_9 rfl rfl rfl ?_
      refine q_icmp_ge cx (pc' := 15) (tgt := 71) dX9_grows_12 (by decide) rfl (fun c12 => ?_) (fun c12 => ?_)
      · replace h := ip c12 h
        refine q_iload_n cx (pc' := 72) 2 rfl dX9_grows_71 rfl ?_
        replace h := hk7_r _ _ (hz7.2 _ h)
        obtain ⟨rfl, rfl⟩ := o2_i h
        rw [hQ]
        exact q_iret cx dX9_grows_72
      · replace h := ine c12 h
        refine q_aload_n cx (pc' := 16) 0 rfl dX9_grows_15 rfl ?_
        obtain ⟨ht16, r16, ex16, h⟩ := gR_i h
        refine q_gR cx (pc' := 19) 9 14 fl_X9_53 rfl ht16 ex16 dX9_grows_16 rfl ?_
        refine q_iload_n cx (pc' := 20) 3 rfl dX9_grows_19 rfl ?_
        obtain ⟨ht20, hi20, x20, ex20, h⟩ := aI_i h
        refine q_iald cx (pc' := 21) ht20 hi20 ex20 dX9_grows_20 rfl ?_
        refine q_iconst cx (pc' := 22) ki_1 dX9_grows_21 rfl ?_
        refine q_icmp_gt cx (pc' := 25) (tgt := 65) dX9_grows_22 (by decide) rfl (fun c22 => ?_) (fun c22 => ?_)
        · replace h := ip c22 h
          obtain ⟨v3_65, ev3_65, h⟩ := nm_i h
          refine q_iinc cx (pc' := 68) 3 rfl ki_1 ev3_65 (by decide) (L' := [(3, .int v3_65), (0, .ref ths), (1, .int p1), (2, .int w2_7)]) rfl dX9_grows_65 rfl ?_
          refine q_goto cx dX9_grows_68 (tgt := 7) (by decide) ?_
          refine q_sub cx [1, 2, 3, 0] rfl ?_
          exact ih _ _ _ (hz7.1 _ h)
        · replace h := ine c22 h
          refine q_aload_n cx (pc' := 26) 0 rfl dX9_grows_25 rfl ?_
          refine q_iload_n cx (pc' := 27) 3 rfl dX9_grows_26 rfl ?_
          refine q_iload_n cx (pc' := 28) 1 rfl dX9_grows_27 rfl ?_
          obtain ⟨hk28, h⟩ := ck_i h
          obtain ⟨⟨c28, M28⟩, hc28, h⟩ := bnd_i h
          replace h := pr2_i h
          refine q_callV cx (pc' := 31) (S := []) (S1 := [.int c28]) (kc' := 0) (ks' := 0) 9 (ct_X9_holds Γ l Mw_7 ths w3_7 p1 hk28 _ _ hc28) lki_X9_holds lkv_X9_holds lkc_X9_314 hk28 (r := (RX9, TX9, 70)) ⟨rfl, by decide, rfl⟩ rfl rfl (Nat.le_of_ble_eq_true rfl) ⟨(Nat.le_of_ble_eq_true rfl), (Nat.le_of_ble_eq_true rfl)⟩ ⟨(Nat.le_of_ble_eq_true rfl), (Nat.le_of_ble_eq_true rfl)⟩ dX9_grows_28 rfl rfl rfl ?_
          refine q_if_ne cx (pc' := 34) (tgt := 37) dX9_grows_31 (by decide) rfl (fun c31 => ?_) (fun c31 => ?_)
          · replace h := ine c31 h
            refine q_iload_n cx (pc' := 38) 2 rfl dX9_grows_37 rfl ?_
            refine q_aload_n cx (pc' := 39) 0 rfl dX9_grows_38 rfl ?_
            obtain ⟨ht39, r39, ex39, h⟩ := gR_i h
            refine q_gR cx (pc' := 42) 9 14 fl_X9_53 rfl ht39 ex39 dX9_grows_39 rfl ?_
            refine q_iload_n cx (pc' := 43) 3 rfl dX9_grows_42 rfl ?_
            obtain ⟨ht43, hi43, x43, ex43, h⟩ := aI_i h
            refine q_iald cx (pc' := 44) ht43 hi43 ex43 dX9_grows_43 rfl ?_
            refine q_if_ne cx (pc' := 47) (tgt := 56) dX9_grows_44 (by decide) rfl (fun c44 => ?_) (fun c44 => ?_)
            · replace h := ine c44 h
              refine q_aload_n cx (pc' := 57) 0 rfl dX9_grows_56 rfl ?_
              obtain ⟨ht57, r57, ex57, h⟩ := gR_i h
              refine q_gR cx (pc' := 60) 9 15 fl_X9_56 rfl ht57 ex57 dX9_grows_57 rfl ?_
              refine q_iload_n cx (pc' := 61) 3 rfl dX9_grows_60 rfl ?_
              obtain ⟨ht61, hi61, x61, ex61, h⟩ := aI_i h
              refine q_iald cx (pc' := 62) ht61 hi61 ex61 dX9_grows_61 rfl ?_
              refine q_ineg cx (pc' := 63) dX9_grows_62 rfl ?_
              refine q_iadd cx (pc' := 64) dX9_grows_63 rfl ?_
              obtain ⟨v2_64, ev2_64, h⟩ := nm_i h
              refine q_istore_n cx (pc' := 65) rfl ev2_64 (by decide) (L' := [(2, .int v2_64), (0, .ref ths), (1, .int p1), (3, .int w3_7)]) rfl dX9_grows_64 rfl ?_
              obtain ⟨v3_65, ev3_65, h⟩ := nm_i h
              refine q_iinc cx (pc' := 68) 3 rfl ki_1 ev3_65 (by decide) (L' := [(3, .int v3_65), (2, .int v2_64), (0, .ref ths), (1, .int p1)]) rfl dX9_grows_65 rfl ?_
              refine q_goto cx dX9_grows_68 (tgt := 7) (by decide) ?_
              refine q_sub cx [2, 3, 1, 0] rfl ?_
              exact ih _ _ _ (hz7.1 _ h)
            · replace h := ip c44 h
              refine q_aload_n cx (pc' := 48) 0 rfl dX9_grows_47 rfl ?_
              obtain ⟨ht48, r48, ex48, h⟩ := gR_i h
              refine q_gR cx (pc' := 51) 9 15 fl_X9_56 rfl ht48 ex48 dX9_grows_48 rfl ?_
              refine q_iload_n cx (pc' := 52) 3 rfl dX9_grows_51 rfl ?_
              obtain ⟨ht52, hi52, x52, ex52, h⟩ := aI_i h
              refine q_iald cx (pc' := 53) ht52 hi52 ex52 dX9_grows_52 rfl ?_
              refine q_goto cx dX9_grows_53 (tgt := 63) (by decide) ?_
              refine q_iadd cx (pc' := 64) dX9_grows_63 rfl ?_
              obtain ⟨v2_64, ev2_64, h⟩ := nm_i h
              refine q_istore_n cx (pc' := 65) rfl ev2_64 (by decide) (L' := [(2, .int v2_64), (0, .ref ths), (1, .int p1), (3, .int w3_7)]) rfl dX9_grows_64 rfl ?_
              obtain ⟨v3_65, ev3_65, h⟩ := nm_i h
              refine q_iinc cx (pc' := 68) 3 rfl ki_1 ev3_65 (by decide) (L' := [(3, .int v3_65), (2, .int v2_64), (0, .ref ths), (1, .int p1)]) rfl dX9_grows_65 rfl ?_
              refine q_goto cx dX9_grows_68 (tgt := 7) (by decide) ?_
              refine q_sub cx [2, 3, 1, 0] rfl ?_
              exact ih _ _ _ (hz7.1 _ h)
          · replace h := ip c31 h
            refine q_goto cx dX9_grows_34 (tgt := 65) (by decide) ?_
            obtain ⟨v3_65, ev3_65, h⟩ := nm_i h
            refine q_iinc cx (pc' := 68) 3 rfl ki_1 ev3_65 (by decide) (L' := [(3, .int v3_65), (0, .ref ths), (1, .int p1), (2, .int w2_7)]) rfl dX9_grows_65 rfl ?_
            refine q_goto cx dX9_grows_68 (tgt := 7) (by decide) ?_
            refine q_sub cx [1, 2, 3, 0] rfl ?_
            exact ih _ _ _ (hz7.1 _ h)
  refine q_sub cx [2, 3, 1, 0] rfl ?_
  exact key7 FU _ _ _ hL7

abbrev rm_X9_needs : Room := { frames := 2, cells := 0, slots := 0, locals := 61 }
def fn_X9_needs (M : QM) (ths : Nat) (p1 : Int32) (p2 : Int32) : Option Int32 :=
  gR M ths 9 5 fun r1 =>
  aI M 20 r1 p1 fun x5 =>
  gR M ths 9 3 fun r8 =>
  aI M 20 r8 p1 fun x12 =>
  if x12 = 2 then
    if 4 ≤ p2 then
      some x5
    else
      some (x5 / 2)
  else if x12 = 3 then
    gR M ths 9 4 fun r63 =>
    aI M 20 r63 p1 fun x67 =>
    some (x5 + x67)
  else if x12 = 4 then
    gR M ths 9 4 fun r73 =>
    aI M 20 r73 p1 fun x77 =>
    some (fn_X9_least0 (x5 - x77))
  else if x12 = 5 then
    if 4 ≤ p2 then
      some (2 * x5)
    else
      some ((x5 / 2) * 2)
  else if x12 = 6 then
    gR M ths 9 4 fun r102 =>
    aI M 20 r102 p1 fun x106 =>
    gR M ths 9 6 fun r109 =>
    aI M 20 r109 ((4 * p1) + (p2 / 4)) fun x119 =>
    some ((x5 + x106) + x119)
  else 
    some x5
set_option maxRecDepth 100000 in
set_option maxHeartbeats 4000000 in
theorem ct_X9_needs (Γ : GT) (l : Launch) (M : QM) (ths : Nat) (p1 : Int32) (p2 : Int32) (ht0 : mt M ths = 9) (z : Int32) (h : fn_X9_needs M ths p1 p2 = some z) : CT Γ l yX9_needs cX9_needs 4 (some .int) rm_X9_needs (.ref ths :: [.int p1, .int p2]) M (some (.int z)) M := by
  refine ct_intro (own := RX9) (L := [(0, .ref ths), (1, .int p1), (2, .int p2)]) (by decide +kernel) rfl (Nat.le_of_ble_eq_true rfl) rfl ?_
  intro p e s m args below meth c Q hQ cx hnm
  unfold fn_X9_needs at h
  refine q_aload_n cx (pc' := 1) 0 rfl dX9_needs_0 rfl ?_
  obtain ⟨ht1, r1, ex1, h⟩ := gR_i h
  refine q_gR cx (pc' := 4) 9 5 fl_X9_26 rfl ht1 ex1 dX9_needs_1 rfl ?_
  refine q_iload_n cx (pc' := 5) 1 rfl dX9_needs_4 rfl ?_
  obtain ⟨ht5, hi5, x5, ex5, h⟩ := aI_i h
  refine q_iald cx (pc' := 6) ht5 hi5 ex5 dX9_needs_5 rfl ?_
  refine q_istore_n cx (pc' := 7) rfl rfl (by decide) (L' := [(3, .int x5), (0, .ref ths), (1, .int p1), (2, .int p2)]) rfl dX9_needs_6 rfl ?_
  refine q_aload_n cx (pc' := 8) 1 rfl dX9_needs_7 rfl ?_
  obtain ⟨ht8, r8, ex8, h⟩ := gR_i h
  refine q_gR cx (pc' := 11) 9 3 fl_X9_20 rfl ht8 ex8 dX9_needs_8 rfl ?_
  refine q_iload_n cx (pc' := 12) 2 rfl dX9_needs_11 rfl ?_
  obtain ⟨ht12, hi12, x12, ex12, h⟩ := aI_i h
  refine q_iald cx (pc' := 13) ht12 hi12 ex12 dX9_needs_12 rfl ?_
  rcases Decidable.em (x12 = 2) with c13_0 | c13_0
  · replace h := ip c13_0 h
    refine q_tabIn cx (off := 35) (tgt := 48) c13_0 dX9_needs_13 (by decide) (by decide) ?_
    refine q_iload_n cx (pc' := 49) 3 rfl dX9_needs_48 rfl ?_
    refine q_iconst cx (pc' := 50) ki_4 dX9_needs_49 rfl ?_
    refine q_icmp_ge cx (pc' := 53) (tgt := 59) dX9_needs_50 (by decide) rfl (fun c50 => ?_) (fun c50 => ?_)
    · replace h := ip c50 h
      refine q_iload_n cx (pc' := 60) 0 rfl dX9_needs_59 rfl ?_
      obtain rfl := o1_i h
      rw [hQ]
      exact q_iret cx dX9_needs_60
    · replace h := ine c50 h
      refine q_iload_n cx (pc' := 54) 0 rfl dX9_needs_53 rfl ?_
      refine q_iconst cx (pc' := 55) ki_2 dX9_needs_54 rfl ?_
      refine q_idiv cx (pc' := 56) (by decide) dX9_needs_55 rfl ?_
      refine q_goto cx dX9_needs_56 (tgt := 60) (by decide) ?_
      obtain rfl := o1_i h
      rw [hQ]
      exact q_iret cx dX9_needs_60
  replace h := ine c13_0 h
  rcases Decidable.em (x12 = 3) with c13_1 | c13_1
  · replace h := ip c13_1 h
    refine q_tabIn cx (off := 48) (tgt := 61) c13_1 dX9_needs_13 (by decide) (by decide) ?_
    refine q_iload_n cx (pc' := 62) 0 rfl dX9_needs_61 rfl ?_
    refine q_aload_n cx (pc' := 63) 1 rfl dX9_needs_62 rfl ?_
    obtain ⟨ht63, r63, ex63, h⟩ := gR_i h
    refine q_gR cx (pc' := 66) 9 4 fl_X9_23 rfl ht63 ex63 dX9_needs_63 rfl ?_
    refine q_iload_n cx (pc' := 67) 2 rfl dX9_needs_66 rfl ?_
    obtain ⟨ht67, hi67, x67, ex67, h⟩ := aI_i h
    refine q_iald cx (pc' := 68) ht67 hi67 ex67 dX9_needs_67 rfl ?_
    refine q_iadd cx (pc' := 69) dX9_needs_68 rfl ?_
    obtain rfl := o1_i h
    rw [hQ]
    exact q_iret cx dX9_needs_69
  replace h := ine c13_1 h
  rcases Decidable.em (x12 = 4) with c13_2 | c13_2
  · replace h := ip c13_2 h
    refine q_tabIn cx (off := 57) (tgt := 70) c13_2 dX9_needs_13 (by decide) (by decide) ?_
    refine q_aload_n cx (pc' := 71) 1 rfl dX9_needs_70 rfl ?_
    refine q_iload_n cx (pc' := 72) 0 rfl dX9_needs_71 rfl ?_
    refine q_aload_n cx (pc' := 73) 1 rfl dX9_needs_72 rfl ?_
    obtain ⟨ht73, r73, ex73, h⟩ := gR_i h
    refine q_gR cx (pc' := 76) 9 4 fl_X9_23 rfl ht73 ex73 dX9_needs_73 rfl ?_
    refine q_iload_n cx (pc' := 77) 2 rfl dX9_needs_76 rfl ?_
    obtain ⟨ht77, hi77, x77, ex77, h⟩ := aI_i h
    refine q_iald cx (pc' := 78) ht77 hi77 ex77 dX9_needs_77 rfl ?_
    refine q_isub cx (pc' := 79) dX9_needs_78 rfl ?_
    refine q_callV cx (pc' := 82) (S := []) (S1 := [.int (fn_X9_least0 (x5 - x77))]) (kc' := 0) (ks' := 0) 9 (ct_X9_least0 Γ l M ths (x5 - x77) ht0) lki_X9_least0 lkv_X9_least0 lkc_X9_308 ht0 (r := (RX9, TX9, 70)) ⟨rfl, by decide, rfl⟩ rfl rfl (Nat.le_of_ble_eq_true rfl) ⟨(Nat.le_of_ble_eq_true rfl), (Nat.le_of_ble_eq_true rfl)⟩ ⟨(Nat.le_of_ble_eq_true rfl), (Nat.le_of_ble_eq_true rfl)⟩ dX9_needs_79 rfl rfl rfl ?_
    obtain rfl := o1_i h
    rw [hQ]
    exact q_iret cx dX9_needs_82
  replace h := ine c13_2 h
  rcases Decidable.em (x12 = 5) with c13_3 | c13_3
  · replace h := ip c13_3 h
    refine q_tabIn cx (off := 70) (tgt := 83) c13_3 dX9_needs_13 (by decide) (by decide) ?_
    refine q_iload_n cx (pc' := 84) 3 rfl dX9_needs_83 rfl ?_
    refine q_iconst cx (pc' := 85) ki_4 dX9_needs_84 rfl ?_
    refine q_icmp_ge cx (pc' := 88) (tgt := 96) dX9_needs_85 (by decide) rfl (fun c85 => ?_) (fun c85 => ?_)
    · replace h := ip c85 h
      refine q_iconst cx (pc' := 97) ki_2 dX9_needs_96 rfl ?_
      refine q_iload_n cx (pc' := 98) 0 rfl dX9_needs_97 rfl ?_
      refine q_imul cx (pc' := 99) dX9_needs_98 rfl ?_
      obtain rfl := o1_i h
      rw [hQ]
      exact q_iret cx dX9_needs_99
    · replace h := ine c85 h
      refine q_iload_n cx (pc' := 89) 0 rfl dX9_needs_88 rfl ?_
      refine q_iconst cx (pc' := 90) ki_2 dX9_needs_89 rfl ?_
      refine q_idiv cx (pc' := 91) (by decide) dX9_needs_90 rfl ?_
      refine q_iconst cx (pc' := 92) ki_2 dX9_needs_91 rfl ?_
      refine q_imul cx (pc' := 93) dX9_needs_92 rfl ?_
      refine q_goto cx dX9_needs_93 (tgt := 99) (by decide) ?_
      obtain rfl := o1_i h
      rw [hQ]
      exact q_iret cx dX9_needs_99
  replace h := ine c13_3 h
  rcases Decidable.em (x12 = 6) with c13_4 | c13_4
  · replace h := ip c13_4 h
    refine q_tabIn cx (off := 87) (tgt := 100) c13_4 dX9_needs_13 (by decide) (by decide) ?_
    refine q_iload_n cx (pc' := 101) 0 rfl dX9_needs_100 rfl ?_
    refine q_aload_n cx (pc' := 102) 1 rfl dX9_needs_101 rfl ?_
    obtain ⟨ht102, r102, ex102, h⟩ := gR_i h
    refine q_gR cx (pc' := 105) 9 4 fl_X9_23 rfl ht102 ex102 dX9_needs_102 rfl ?_
    refine q_iload_n cx (pc' := 106) 2 rfl dX9_needs_105 rfl ?_
    obtain ⟨ht106, hi106, x106, ex106, h⟩ := aI_i h
    refine q_iald cx (pc' := 107) ht106 hi106 ex106 dX9_needs_106 rfl ?_
    refine q_iadd cx (pc' := 108) dX9_needs_107 rfl ?_
    refine q_aload_n cx (pc' := 109) 1 rfl dX9_needs_108 rfl ?_
    obtain ⟨ht109, r109, ex109, h⟩ := gR_i h
    refine q_gR cx (pc' := 112) 9 6 fl_X9_29 rfl ht109 ex109 dX9_needs_109 rfl ?_
    refine q_iconst cx (pc' := 113) ki_4 dX9_needs_112 rfl ?_
    refine q_iload_n cx (pc' := 114) 2 rfl dX9_needs_113 rfl ?_
    refine q_imul cx (pc' := 115) dX9_needs_114 rfl ?_
    refine q_iload_n cx (pc' := 116) 3 rfl dX9_needs_115 rfl ?_
    refine q_iconst cx (pc' := 117) ki_4 dX9_needs_116 rfl ?_
    refine q_idiv cx (pc' := 118) (by decide) dX9_needs_117 rfl ?_
    refine q_iadd cx (pc' := 119) dX9_needs_118 rfl ?_
    obtain ⟨ht119, hi119, x119, ex119, h⟩ := aI_i h
    refine q_iald cx (pc' := 120) ht119 hi119 ex119 dX9_needs_119 rfl ?_
    refine q_iadd cx (pc' := 121) dX9_needs_120 rfl ?_
    obtain rfl := o1_i h
    rw [hQ]
    exact q_iret cx dX9_needs_121
  replace h := ine c13_4 h
  have nt13_0 := lv_neT c13_0 (a := 2) rfl
  have nt13_1 := lv_neT c13_1 (a := 3) rfl
  have nt13_2 := lv_neT c13_2 (a := 4) rfl
  have nt13_3 := lv_neT c13_3 (a := 5) rfl
  have nt13_4 := lv_neT c13_4 (a := 6) rfl
  refine q_tabOut cx (tgt := 122) dX9_needs_13 (by omega) (by decide) ?_
  refine q_iload_n cx (pc' := 123) 0 rfl dX9_needs_122 rfl ?_
  obtain rfl := o1_i h
  rw [hQ]
  exact q_iret cx dX9_needs_123

abbrev rm_X9_bears : Room := { frames := 4, cells := 0, slots := 0, locals := 105 }
def fn_X9_bears (M : QM) (ths : Nat) (p1 : Int32) (p2 : Int32) : Option Int32 :=
  bnd (fn_X9_spoon M ths) fun c2 =>
  if p1 = c2 then
    some 0
  else
    gI M ths 9 25 fun x10 =>
    if (fn_X9_has x10 p1) = 0 then
      gR M ths 9 2 fun r21 =>
      aI M 20 r21 p1 fun x25 =>
      bnd (fn_X9_needs M ths p2 p1) fun c29 =>
      if x25 < c29 then
        some 0
      else
        some 1
    else
      some 0
set_option maxRecDepth 100000 in
set_option maxHeartbeats 4000000 in
theorem ct_X9_bears (Γ : GT) (l : Launch) (M : QM) (ths : Nat) (p1 : Int32) (p2 : Int32) (ht0 : mt M ths = 9) (z : Int32) (h : fn_X9_bears M ths p1 p2 = some z) : CT Γ l yX9_bears cX9_bears 3 (some .boolean) rm_X9_bears (.ref ths :: [.int p1, .int p2]) M (some (.int z)) M := by
  refine ct_intro (own := RX9) (L := [(0, .ref ths), (1, .int p1), (2, .int p2)]) (by decide +kernel) rfl (Nat.le_of_ble_eq_true rfl) rfl ?_
  intro p e s m args below meth c Q hQ cx hnm
  unfold fn_X9_bears at h
  refine q_iload_n cx (pc' := 1) 1 rfl dX9_bears_0 rfl ?_
  refine q_aload_n cx (pc' := 2) 0 rfl dX9_bears_1 rfl ?_
  obtain ⟨c2, hc2, h⟩ := bnd_i h
  refine q_callV cx (pc' := 5) (S := [.int p1]) (S1 := [.int c2, .int p1]) (kc' := 0) (ks' := 0) 9 (ct_X9_spoon Γ l M ths ht0 _ hc2) lki_X9_spoon lkv_X9_spoon lkc_X9_317 ht0 (r := (RX9, TX9, 70)) ⟨rfl, by decide, rfl⟩ rfl rfl (Nat.le_of_ble_eq_true rfl) ⟨(Nat.le_of_ble_eq_true rfl), (Nat.le_of_ble_eq_true rfl)⟩ ⟨(Nat.le_of_ble_eq_true rfl), (Nat.le_of_ble_eq_true rfl)⟩ dX9_bears_2 rfl rfl rfl ?_
  refine q_icmp_eq cx (pc' := 8) (tgt := 39) dX9_bears_5 (by decide) rfl (fun c5 => ?_) (fun c5 => ?_)
  · replace h := ip c5 h
    refine q_iconst cx (pc' := 40) ki_0 dX9_bears_39 rfl ?_
    obtain rfl := o1_i h
    rw [hQ]
    exact q_nret cx rfl dX9_bears_40
  · replace h := ine c5 h
    refine q_aload_n cx (pc' := 9) 0 rfl dX9_bears_8 rfl ?_
    refine q_aload_n cx (pc' := 10) 0 rfl dX9_bears_9 rfl ?_
    obtain ⟨ht10, x10, ex10, h⟩ := gI_i h
    refine q_gI cx (pc' := 13) 9 25 fl_X9_87 rfl ht10 ex10 dX9_bears_10 rfl ?_
    refine q_iload_n cx (pc' := 14) 1 rfl dX9_bears_13 rfl ?_
    refine q_callV cx (pc' := 17) (S := []) (S1 := [.int (fn_X9_has x10 p1)]) (kc' := 0) (ks' := 0) 9 (ct_X9_has Γ l M ths x10 p1 ht0) lki_X9_has lkv_X9_has lkc_X9_320 ht0 (r := (RX9, TX9, 70)) ⟨rfl, by decide, rfl⟩ rfl rfl (Nat.le_of_ble_eq_true rfl) ⟨(Nat.le_of_ble_eq_true rfl), (Nat.le_of_ble_eq_true rfl)⟩ ⟨(Nat.le_of_ble_eq_true rfl), (Nat.le_of_ble_eq_true rfl)⟩ dX9_bears_14 rfl rfl rfl ?_
    refine q_if_ne cx (pc' := 20) (tgt := 39) dX9_bears_17 (by decide) rfl (fun c17 => ?_) (fun c17 => ?_)
    · replace h := ine c17 h
      refine q_iconst cx (pc' := 40) ki_0 dX9_bears_39 rfl ?_
      obtain rfl := o1_i h
      rw [hQ]
      exact q_nret cx rfl dX9_bears_40
    · replace h := ip c17 h
      refine q_aload_n cx (pc' := 21) 0 rfl dX9_bears_20 rfl ?_
      obtain ⟨ht21, r21, ex21, h⟩ := gR_i h
      refine q_gR cx (pc' := 24) 9 2 fl_X9_16 rfl ht21 ex21 dX9_bears_21 rfl ?_
      refine q_iload_n cx (pc' := 25) 1 rfl dX9_bears_24 rfl ?_
      obtain ⟨ht25, hi25, x25, ex25, h⟩ := aI_i h
      refine q_iald cx (pc' := 26) ht25 hi25 ex25 dX9_bears_25 rfl ?_
      refine q_aload_n cx (pc' := 27) 0 rfl dX9_bears_26 rfl ?_
      refine q_iload_n cx (pc' := 28) 2 rfl dX9_bears_27 rfl ?_
      refine q_iload_n cx (pc' := 29) 1 rfl dX9_bears_28 rfl ?_
      obtain ⟨c29, hc29, h⟩ := bnd_i h
      refine q_callV cx (pc' := 32) (S := [.int x25]) (S1 := [.int c29, .int x25]) (kc' := 0) (ks' := 0) 9 (ct_X9_needs Γ l M ths p2 p1 ht0 _ hc29) lki_X9_needs lkv_X9_needs lkc_X9_323 ht0 (r := (RX9, TX9, 70)) ⟨rfl, by decide, rfl⟩ rfl rfl (Nat.le_of_ble_eq_true rfl) ⟨(Nat.le_of_ble_eq_true rfl), (Nat.le_of_ble_eq_true rfl)⟩ ⟨(Nat.le_of_ble_eq_true rfl), (Nat.le_of_ble_eq_true rfl)⟩ dX9_bears_29 rfl rfl rfl ?_
      refine q_icmp_lt cx (pc' := 35) (tgt := 39) dX9_bears_32 (by decide) rfl (fun c32 => ?_) (fun c32 => ?_)
      · replace h := ip c32 h
        refine q_iconst cx (pc' := 40) ki_0 dX9_bears_39 rfl ?_
        obtain rfl := o1_i h
        rw [hQ]
        exact q_nret cx rfl dX9_bears_40
      · replace h := ine c32 h
        refine q_iconst cx (pc' := 36) ki_1 dX9_bears_35 rfl ?_
        refine q_goto cx dX9_bears_36 (tgt := 40) (by decide) ?_
        obtain rfl := o1_i h
        rw [hQ]
        exact q_nret cx rfl dX9_bears_40

abbrev rm_X9_isStep : Room := { frames := 3, cells := 0, slots := 0, locals := 84 }
def fn_X9_isStep (M : QM) (ths : Nat) (p1 : Int32) (p2 : Int32) (p3 : Int32) : Option Int32 :=
  nm (fn_X9_far p2 p3) fun v4_6 =>
  if v4_6 = 1 then
    some 1
  else
    if v4_6 = 2 then
      gR M ths 9 3 fun r21 =>
      aI M 20 r21 p1 fun x25 =>
      if x25 = 1 then
        some 1
      else
        gR M ths 9 3 fun r31 =>
        aI M 20 r31 p1 fun x35 =>
        if x35 = 4 then
          some 1
        else
          some 0
    else
      some 0
set_option maxRecDepth 100000 in
set_option maxHeartbeats 4000000 in
theorem ct_X9_isStep (Γ : GT) (l : Launch) (M : QM) (ths : Nat) (p1 : Int32) (p2 : Int32) (p3 : Int32) (ht0 : mt M ths = 9) (z : Int32) (h : fn_X9_isStep M ths p1 p2 p3 = some z) : CT Γ l yX9_isStep cX9_isStep 5 (some .boolean) rm_X9_isStep (.ref ths :: [.int p1, .int p2, .int p3]) M (some (.int z)) M := by
  refine ct_intro (own := RX9) (L := [(0, .ref ths), (1, .int p1), (2, .int p2), (3, .int p3)]) (by decide +kernel) rfl (Nat.le_of_ble_eq_true rfl) rfl ?_
  intro p e s m args below meth c Q hQ cx hnm
  unfold fn_X9_isStep at h
  refine q_aload_n cx (pc' := 1) 0 rfl dX9_isStep_0 rfl ?_
  refine q_iload_n cx (pc' := 2) 2 rfl dX9_isStep_1 rfl ?_
  refine q_iload_n cx (pc' := 3) 3 rfl dX9_isStep_2 rfl ?_
  refine q_callV cx (pc' := 6) (S := []) (S1 := [.int (fn_X9_far p2 p3)]) (kc' := 0) (ks' := 0) 9 (ct_X9_far Γ l M ths p2 p3 ht0) lki_X9_far lkv_X9_far lkc_X9_242 ht0 (r := (RX9, TX9, 70)) ⟨rfl, by decide, rfl⟩ rfl rfl (Nat.le_of_ble_eq_true rfl) ⟨(Nat.le_of_ble_eq_true rfl), (Nat.le_of_ble_eq_true rfl)⟩ ⟨(Nat.le_of_ble_eq_true rfl), (Nat.le_of_ble_eq_true rfl)⟩ dX9_isStep_3 rfl rfl rfl ?_
  obtain ⟨v4_6, ev4_6, h⟩ := nm_i h
  refine q_istore cx (pc' := 8) ev4_6 (by decide) (L' := [(4, .int v4_6), (0, .ref ths), (1, .int p1), (2, .int p2), (3, .int p3)]) rfl dX9_isStep_6 rfl ?_
  refine q_iload cx (pc' := 10) 0 rfl dX9_isStep_8 rfl ?_
  refine q_iconst cx (pc' := 11) ki_1 dX9_isStep_10 rfl ?_
  refine q_icmp_eq cx (pc' := 14) (tgt := 40) dX9_isStep_11 (by decide) rfl (fun c11 => ?_) (fun c11 => ?_)
  · replace h := ip c11 h
    refine q_iconst cx (pc' := 41) ki_1 dX9_isStep_40 rfl ?_
    refine q_goto cx dX9_isStep_41 (tgt := 45) (by decide) ?_
    obtain rfl := o1_i h
    rw [hQ]
    exact q_nret cx rfl dX9_isStep_45
  · replace h := ine c11 h
    refine q_iload cx (pc' := 16) 0 rfl dX9_isStep_14 rfl ?_
    refine q_iconst cx (pc' := 17) ki_2 dX9_isStep_16 rfl ?_
    refine q_icmp_ne cx (pc' := 20) (tgt := 44) dX9_isStep_17 (by decide) rfl (fun c17 => ?_) (fun c17 => ?_)
    · replace h := ine c17 h
      refine q_iconst cx (pc' := 45) ki_0 dX9_isStep_44 rfl ?_
      obtain rfl := o1_i h
      rw [hQ]
      exact q_nret cx rfl dX9_isStep_45
    · replace h := ip c17 h
      refine q_aload_n cx (pc' := 21) 1 rfl dX9_isStep_20 rfl ?_
      obtain ⟨ht21, r21, ex21, h⟩ := gR_i h
      refine q_gR cx (pc' := 24) 9 3 fl_X9_20 rfl ht21 ex21 dX9_isStep_21 rfl ?_
      refine q_iload_n cx (pc' := 25) 2 rfl dX9_isStep_24 rfl ?_
      obtain ⟨ht25, hi25, x25, ex25, h⟩ := aI_i h
      refine q_iald cx (pc' := 26) ht25 hi25 ex25 dX9_isStep_25 rfl ?_
      refine q_iconst cx (pc' := 27) ki_1 dX9_isStep_26 rfl ?_
      refine q_icmp_eq cx (pc' := 30) (tgt := 40) dX9_isStep_27 (by decide) rfl (fun c27 => ?_) (fun c27 => ?_)
      · replace h := ip c27 h
        refine q_iconst cx (pc' := 41) ki_1 dX9_isStep_40 rfl ?_
        refine q_goto cx dX9_isStep_41 (tgt := 45) (by decide) ?_
        obtain rfl := o1_i h
        rw [hQ]
        exact q_nret cx rfl dX9_isStep_45
      · replace h := ine c27 h
        refine q_aload_n cx (pc' := 31) 1 rfl dX9_isStep_30 rfl ?_
        obtain ⟨ht31, r31, ex31, h⟩ := gR_i h
        refine q_gR cx (pc' := 34) 9 3 fl_X9_20 rfl ht31 ex31 dX9_isStep_31 rfl ?_
        refine q_iload_n cx (pc' := 35) 2 rfl dX9_isStep_34 rfl ?_
        obtain ⟨ht35, hi35, x35, ex35, h⟩ := aI_i h
        refine q_iald cx (pc' := 36) ht35 hi35 ex35 dX9_isStep_35 rfl ?_
        refine q_iconst cx (pc' := 37) ki_4 dX9_isStep_36 rfl ?_
        refine q_icmp_ne cx (pc' := 40) (tgt := 44) dX9_isStep_37 (by decide) rfl (fun c37 => ?_) (fun c37 => ?_)
        · replace h := ine c37 h
          refine q_iconst cx (pc' := 45) ki_0 dX9_isStep_44 rfl ?_
          obtain rfl := o1_i h
          rw [hQ]
          exact q_nret cx rfl dX9_isStep_45
        · replace h := ip c37 h
          refine q_iconst cx (pc' := 41) ki_1 dX9_isStep_40 rfl ?_
          refine q_goto cx dX9_isStep_41 (tgt := 45) (by decide) ?_
          obtain rfl := o1_i h
          rw [hQ]
          exact q_nret cx rfl dX9_isStep_45

abbrev rm_X9_layFar : Room := { frames := 5, cells := 0, slots := 0, locals := 127 }
def lp_X9_layFar_5 (ths : Nat) (p1 : Int32) (p2 : Int32) (w3_5 : Int32) (w4_5 : Int32) (Mw_5 : QM) : Option ((Int32 × Int32 × QM) ⊕ (Int32 × QM)) :=
  if 16 ≤ w4_5 then
    some (.inr (w3_5, Mw_5))
  else
    gR Mw_5 ths 9 28 fun r13 =>
    ck Mw_5 ths 9 <|
    bnd (fn_X9_bears Mw_5 ths w4_5 p1) fun c22 =>
    wI Mw_5 21 r13 w4_5 (zb c22) fun M25 =>
    gR M25 ths 9 26 fun r27 =>
    wI M25 20 r27 w4_5 (-5) fun M34 =>
    ck M34 ths 9 <|
    if (fn_X9_has p2 w4_5) = 0 then
      nm (w4_5 + 1) fun v4_77 =>
      some (.inl (w3_5, v4_77, M34))
    else
      gR M34 ths 9 28 fun r46 =>
      aI M34 21 r46 w4_5 fun x51 =>
      if x51 = 0 then
        nm (w4_5 + 1) fun v4_77 =>
        some (.inl (w3_5, v4_77, M34))
      else
        gR M34 ths 9 26 fun r59 =>
        wI M34 20 r59 w4_5 0 fun M65 =>
        gR M65 ths 9 27 fun r67 =>
        wI M65 20 r67 w3_5 w4_5 fun M73 =>
        nm (w3_5 + 1) fun v3_74 =>
        nm (w4_5 + 1) fun v4_77 =>
        some (.inl (v3_74, v4_77, M73))
def lp_X9_layFar_104 (ths : Nat) (p1 : Int32) (x98 : Int32) (w3_104 : Int32) (w6_104 : Int32) (Mw_104 : QM) : Option ((Int32 × Int32 × QM) ⊕ (Int32 × QM)) :=
  if 16 ≤ w6_104 then
    some (.inr (w3_104, Mw_104))
  else
    gR Mw_104 ths 9 28 fun r112 =>
    aI Mw_104 21 r112 w6_104 fun x117 =>
    if x117 = 0 then
      nm (w6_104 + 1) fun v6_173 =>
      some (.inl (w3_104, v6_173, Mw_104))
    else
      gR Mw_104 ths 9 26 fun r122 =>
      aI Mw_104 20 r122 w6_104 fun x127 =>
      if 0 ≤ x127 then
        nm (w6_104 + 1) fun v6_173 =>
        some (.inl (w3_104, v6_173, Mw_104))
      else
        ck Mw_104 ths 9 <|
        bnd (fn_X9_isStep Mw_104 ths p1 x98 w6_104) fun c137 =>
        if c137 = 0 then
          nm (w6_104 + 1) fun v6_173 =>
          some (.inl (w3_104, v6_173, Mw_104))
        else
          gR Mw_104 ths 9 26 fun r147 =>
          gR Mw_104 ths 9 26 fun r153 =>
          aI Mw_104 20 r153 x98 fun x158 =>
          wI Mw_104 20 r147 w6_104 (x158 + 1) fun M161 =>
          gR M161 ths 9 27 fun r163 =>
          wI M161 20 r163 w3_104 w6_104 fun M169 =>
          nm (w3_104 + 1) fun v3_170 =>
          nm (w6_104 + 1) fun v6_173 =>
          some (.inl (v3_170, v6_173, M169))
def lp_X9_layFar_86 (ths : Nat) (p1 : Int32) (w3_86 : Int32) (w4_86 : Int32) (Mw_86 : QM) : Option ((Int32 × Int32 × QM) ⊕ (QM)) :=
  if w3_86 ≤ w4_86 then
    some (.inr Mw_86)
  else
    gR Mw_86 ths 9 27 fun r93 =>
    aI Mw_86 20 r93 w4_86 fun x98 =>
    bnd (itr (fun s104 : Int32 × Int32 × QM => lp_X9_layFar_104 ths p1 x98 s104.1 s104.2.1 s104.2.2) FU (w3_86, 0, Mw_86)) fun r104 =>
    pr2 r104 fun e3_104 Me_104 =>
    nm (w4_86 + 1) fun v4_179 =>
    some (.inl (e3_104, v4_179, Me_104))
def fn_X9_layFar (M : QM) (ths : Nat) (p1 : Int32) (p2 : Int32) : Option QM :=
  bnd (itr (fun s5 : Int32 × Int32 × QM => lp_X9_layFar_5 ths p1 p2 s5.1 s5.2.1 s5.2.2) FU (0, 0, M)) fun r5 =>
  pr2 r5 fun e3_5 Me_5 =>
  bnd (itr (fun s86 : Int32 × Int32 × QM => lp_X9_layFar_86 ths p1 s86.1 s86.2.1 s86.2.2) FU (e3_5, 0, Me_5)) fun Mr_86 =>
  some Mr_86
set_option maxRecDepth 100000 in
set_option maxHeartbeats 4000000 in
theorem ct_X9_layFar (Γ : GT) (l : Launch) (M : QM) (ths : Nat) (p1 : Int32) (p2 : Int32) (ht0 : mt M ths = 9) (M' : QM) (h : fn_X9_layFar M ths p1 p2 = some M') : CT Γ l yX9_layFar cX9_layFar 7 none rm_X9_layFar (.ref ths :: [.int p1, .int p2]) M none M' := by
  refine ct_intro (own := RX9) (L := [(0, .ref ths), (1, .int p1), (2, .int p2)]) (by decide +kernel) rfl (Nat.le_of_ble_eq_true rfl) rfl ?_
  intro p e s m args below meth c Q hQ cx hnm
  unfold fn_X9_layFar at h
  refine q_iconst cx (pc' := 1) ki_0 dX9_layFar_0 rfl ?_
  refine q_istore_n cx (pc' := 2) rfl rfl (by decide) (L' := [(3, .int 0), (0, .ref ths), (1, .int p1), (2, .int p2)]) rfl dX9_layFar_1 rfl ?_
  refine q_iconst cx (pc' := 3) ki_0 dX9_layFar_2 rfl ?_
  refine q_istore cx (pc' := 5) rfl (by decide) (L' := [(4, .int 0), (3, .int 0), (0, .ref ths), (1, .int p1), (2, .int p2)]) rfl dX9_layFar_3 rfl ?_
  obtain ⟨r5, hL5, h⟩ := bnd_i h
  have hk5_0 : ∀ (e3_5 : Int32) (Me_5 : QM), (e3_5, Me_5) = r5 → EE p l e rm_X9_layFar s m args below meth c Q Γ 7 0 0 83 [(0, .ref ths), (1, .int p1), (3, .int e3_5)] [] Me_5 := by
    intro e3_5 Me_5 hp
    subst hp
    replace h := pr2_i h
    refine q_iconst cx (pc' := 84) ki_0 dX9_layFar_83 rfl ?_
    refine q_istore cx (pc' := 86) rfl (by decide) (L' := [(4, .int 0), (0, .ref ths), (1, .int p1), (3, .int e3_5)]) rfl dX9_layFar_84 rfl ?_
    obtain ⟨r86, hL86, h⟩ := bnd_i h
    have hk86_r : ∀ (Mr_86 : QM), Mr_86 = r86 → some Mr_86 = some M' := by
      intro Mr_86 hp
      subst hp
      exact h
    have key86 : ∀ (n : Nat) (w3_86 : Int32) (w4_86 : Int32) (Mw_86 : QM), itr (fun s86 : Int32 × Int32 × QM => lp_X9_layFar_86 ths p1 s86.1 s86.2.1 s86.2.2) n (w3_86, w4_86, Mw_86) = some r86 → EE p l e rm_X9_layFar s m args below meth c Q Γ 7 0 0 86 [(0, .ref ths), (1, .int p1), (3, .int w3_86), (4, .int w4_86)] [] Mw_86 := by
      intro n
      induction n with
      | zero => intro _ _ _ h; exact (itr_0 h).elim
      | succ n ih =>
        intro w3_86 w4_86 Mw_86 h
        obtain ⟨z86, h, hz86⟩ := itr_i h
        replace h : lp_X9_layFar_86 ths p1 w3_86 w4_86 Mw_86 = some z86 := h
        unfold lp_X9_layFar_86 at h
        refine q_iload cx (pc' := 88) 3 rfl dX9_layFar_86 rfl ?_
        refine q_iload_n cx (pc' := 89) 2 rfl dX9_layFar_88 rfl ?_
        refine q_icmp_ge cx (pc' := 92) (tgt := 185) dX9_layFar_89 (by decide) rfl (fun c89 => ?_) (fun c89 => ?_)
        · replace h := ip c89 h
          replace h := hk86_r _ (hz86.2 _ h)
          obtain rfl := o1_i h
          rw [hQ]
          exact q_vret cx dX9_layFar_185
        · replace h := ine c89 h
          refine q_aload_n cx (pc' := 93) 0 rfl dX9_layFar_92 rfl ?_
          obtain ⟨ht93, r93, ex93, h⟩ := gR_i h
          refine q_gR cx (pc' := 96) 9 27 fl_X9_93 rfl ht93 ex93 dX9_layFar_93 rfl ?_
          refine q_iload cx (pc' := 98) 3 rfl dX9_layFar_96 rfl ?_
          obtain ⟨ht98, hi98, x98, ex98, h⟩ := aI_i h
          refine q_iald cx (pc' := 99) ht98 hi98 ex98 dX9_layFar_98 rfl ?_
          refine q_istore cx (pc' := 101) rfl (by decide) (L' := [(5, .int x98), (0, .ref ths), (1, .int p1), (3, .int w3_86), (4, .int w4_86)]) rfl dX9_layFar_99 rfl ?_
          refine q_iconst cx (pc' := 102) ki_0 dX9_layFar_101 rfl ?_
          refine q_istore cx (pc' := 104) rfl (by decide) (L' := [(6, .int 0), (5, .int x98), (0, .ref ths), (1, .int p1), (3, .int w3_86), (4, .int w4_86)]) rfl dX9_layFar_102 rfl ?_
          obtain ⟨r104, hL104, h⟩ := bnd_i h
          have hk104_0 : ∀ (e3_104 : Int32) (Me_104 : QM), (e3_104, Me_104) = r104 → EE p l e rm_X9_layFar s m args below meth c Q Γ 7 0 0 179 [(0, .ref ths), (1, .int p1), (3, .int e3_104), (4, .int w4_86)] [] Me_104 := by
            intro e3_104 Me_104 hp
            subst hp
            replace h := pr2_i h
            obtain ⟨v4_179, ev4_179, h⟩ := nm_i h
            refine q_iinc cx (pc' := 182) 3 rfl ki_1 ev4_179 (by decide) (L' := [(4, .int v4_179), (0, .ref ths), (1, .int p1), (3, .int e3_104)]) rfl dX9_layFar_179 rfl ?_
            refine q_goto cx dX9_layFar_182 (tgt := 86) (by decide) ?_
            refine q_sub cx [1, 2, 3, 0] rfl ?_
            exact ih _ _ _ (hz86.1 _ h)
          have key104 : ∀ (n : Nat) (w3_104 : Int32) (w6_104 : Int32) (Mw_104 : QM), itr (fun s104 : Int32 × Int32 × QM => lp_X9_layFar_104 ths p1 x98 s104.1 s104.2.1 s104.2.2) n (w3_104, w6_104, Mw_104) = some r104 → EE p l e rm_X9_layFar s m args below meth c Q Γ 7 0 0 104 [(0, .ref ths), (1, .int p1), (3, .int w3_104), (4, .int w4_86), (5, .int x98), (6, .int w6_104)] [] Mw_104 := by
            intro n
            induction n with
            | zero => intro _ _ _ h; exact (itr_0 h).elim
            | succ n ih =>
              intro w3_104 w6_104 Mw_104 h
              obtain ⟨z104, h, hz104⟩ := itr_i h
              replace h : lp_X9_layFar_104 ths p1 x98 w3_104 w6_104 Mw_104 = some z104 := h
              unfold lp_X9_layFar_104 at h
              refine q_iload cx (pc' := 106) 5 rfl dX9_layFar_104 rfl ?_
              refine q_bipush cx (pc' := 108) kb_16 dX9_layFar_106 rfl ?_
              refine q_icmp_ge cx (pc' := 111) (tgt := 179) dX9_layFar_108 (by decide) rfl (fun c108 => ?_) (fun c108 => ?_)
              · replace h := ip c108 h
                refine q_sub cx [0, 1, 2, 3] rfl ?_
                exact hk104_0 _ _ (hz104.2 _ h)
              · replace h := ine c108 h
                refine q_aload_n cx (pc' := 112) 0 rfl dX9_layFar_111 rfl ?_
                obtain ⟨ht112, r112, ex112, h⟩ := gR_i h
                refine q_gR cx (pc' := 115) 9 28 fl_X9_96 rfl ht112 ex112 dX9_layFar_112 rfl ?_
                refine q_iload cx (pc' := 117) 5 rfl dX9_layFar_115 rfl ?_
                obtain ⟨ht117, hi117, x117, ex117, h⟩ := aI_i h
                refine q_zald cx (pc' := 118) ht117 hi117 ex117 dX9_layFar_117 rfl ?_
                refine q_if_eq cx (pc' := 121) (tgt := 173) dX9_layFar_118 (by decide) rfl (fun c118 => ?_) (fun c118 => ?_)
                · replace h := ip c118 h
                  obtain ⟨v6_173, ev6_173, h⟩ := nm_i h
                  refine q_iinc cx (pc' := 176) 5 rfl ki_1 ev6_173 (by decide) (L' := [(6, .int v6_173), (0, .ref ths), (1, .int p1), (3, .int w3_104), (4, .int w4_86), (5, .int x98)]) rfl dX9_layFar_173 rfl ?_
                  refine q_goto cx dX9_layFar_176 (tgt := 104) (by decide) ?_
                  refine q_sub cx [1, 2, 3, 4, 5, 0] rfl ?_
                  exact ih _ _ _ (hz104.1 _ h)
                · replace h := ine c118 h
                  refine q_aload_n cx (pc' := 122) 0 rfl dX9_layFar_121 rfl ?_
                  obtain ⟨ht122, r122, ex122, h⟩ := gR_i h
                  refine q_gR cx (pc' := 125) 9 26 fl_X9_90 rfl ht122 ex122 dX9_layFar_122 rfl ?_
                  refine q_iload cx (pc' := 127) 5 rfl dX9_layFar_125 rfl ?_
                  obtain ⟨ht127, hi127, x127, ex127, h⟩ := aI_i h
                  refine q_iald cx (pc' := 128) ht127 hi127 ex127 dX9_layFar_127 rfl ?_
                  refine q_if_ge cx (pc' := 131) (tgt := 173) dX9_layFar_128 (by decide) rfl (fun c128 => ?_) (fun c128 => ?_)
                  · replace h := ip c128 h
                    obtain ⟨v6_173, ev6_173, h⟩ := nm_i h
                    refine q_iinc cx (pc' := 176) 5 rfl ki_1 ev6_173 (by decide) (L' := [(6, .int v6_173), (0, .ref ths), (1, .int p1), (3, .int w3_104), (4, .int w4_86), (5, .int x98)]) rfl dX9_layFar_173 rfl ?_
                    refine q_goto cx dX9_layFar_176 (tgt := 104) (by decide) ?_
                    refine q_sub cx [1, 2, 3, 4, 5, 0] rfl ?_
                    exact ih _ _ _ (hz104.1 _ h)
                  · replace h := ine c128 h
                    refine q_aload_n cx (pc' := 132) 0 rfl dX9_layFar_131 rfl ?_
                    refine q_iload_n cx (pc' := 133) 1 rfl dX9_layFar_132 rfl ?_
                    refine q_iload cx (pc' := 135) 4 rfl dX9_layFar_133 rfl ?_
                    refine q_iload cx (pc' := 137) 5 rfl dX9_layFar_135 rfl ?_
                    obtain ⟨hk137, h⟩ := ck_i h
                    obtain ⟨c137, hc137, h⟩ := bnd_i h
                    refine q_callV cx (pc' := 140) (S := []) (S1 := [.int c137]) (kc' := 0) (ks' := 0) 9 (ct_X9_isStep Γ l Mw_104 ths p1 x98 w6_104 hk137 _ hc137) lki_X9_isStep lkv_X9_isStep lkc_X9_329 hk137 (r := (RX9, TX9, 70)) ⟨rfl, by decide, rfl⟩ rfl rfl (Nat.le_of_ble_eq_true rfl) ⟨(Nat.le_of_ble_eq_true rfl), (Nat.le_of_ble_eq_true rfl)⟩ ⟨(Nat.le_of_ble_eq_true rfl), (Nat.le_of_ble_eq_true rfl)⟩ dX9_layFar_137 rfl rfl rfl ?_
                    refine q_if_ne cx (pc' := 143) (tgt := 146) dX9_layFar_140 (by decide) rfl (fun c140 => ?_) (fun c140 => ?_)
                    · replace h := ine c140 h
                      refine q_aload_n cx (pc' := 147) 0 rfl dX9_layFar_146 rfl ?_
                      obtain ⟨ht147, r147, ex147, h⟩ := gR_i h
                      refine q_gR cx (pc' := 150) 9 26 fl_X9_90 rfl ht147 ex147 dX9_layFar_147 rfl ?_
                      refine q_iload cx (pc' := 152) 5 rfl dX9_layFar_150 rfl ?_
                      refine q_aload_n cx (pc' := 153) 0 rfl dX9_layFar_152 rfl ?_
                      obtain ⟨ht153, r153, ex153, h⟩ := gR_i h
                      refine q_gR cx (pc' := 156) 9 26 fl_X9_90 rfl ht153 ex153 dX9_layFar_153 rfl ?_
                      refine q_iload cx (pc' := 158) 4 rfl dX9_layFar_156 rfl ?_
                      obtain ⟨ht158, hi158, x158, ex158, h⟩ := aI_i h
                      refine q_iald cx (pc' := 159) ht158 hi158 ex158 dX9_layFar_158 rfl ?_
                      refine q_iconst cx (pc' := 160) ki_1 dX9_layFar_159 rfl ?_
                      refine q_iadd cx (pc' := 161) dX9_layFar_160 rfl ?_
                      obtain ⟨ht161, hi161, M161, eM161, h⟩ := wI_i h
                      refine q_iast cx (pc' := 162) ht161 hi161 eM161 dX9_layFar_161 rfl ?_
                      refine q_aload_n cx (pc' := 163) 0 rfl dX9_layFar_162 rfl ?_
                      obtain ⟨ht163, r163, ex163, h⟩ := gR_i h
                      refine q_gR cx (pc' := 166) 9 27 fl_X9_93 rfl ht163 ex163 dX9_layFar_163 rfl ?_
                      refine q_iload_n cx (pc' := 167) 2 rfl dX9_layFar_166 rfl ?_
                      refine q_iload cx (pc' := 169) 5 rfl dX9_layFar_167 rfl ?_
                      obtain ⟨ht169, hi169, M169, eM169, h⟩ := wI_i h
                      refine q_iast cx (pc' := 170) ht169 hi169 eM169 dX9_layFar_169 rfl ?_
                      obtain ⟨v3_170, ev3_170, h⟩ := nm_i h
                      refine q_iinc cx (pc' := 173) 2 rfl ki_1 ev3_170 (by decide) (L' := [(3, .int v3_170), (0, .ref ths), (1, .int p1), (4, .int w4_86), (5, .int x98), (6, .int w6_104)]) rfl dX9_layFar_170 rfl ?_
                      obtain ⟨v6_173, ev6_173, h⟩ := nm_i h
                      refine q_iinc cx (pc' := 176) 5 rfl ki_1 ev6_173 (by decide) (L' := [(6, .int v6_173), (3, .int v3_170), (0, .ref ths), (1, .int p1), (4, .int w4_86), (5, .int x98)]) rfl dX9_layFar_173 rfl ?_
                      refine q_goto cx dX9_layFar_176 (tgt := 104) (by decide) ?_
                      refine q_sub cx [2, 3, 1, 4, 5, 0] rfl ?_
                      exact ih _ _ _ (hz104.1 _ h)
                    · replace h := ip c140 h
                      refine q_goto cx dX9_layFar_143 (tgt := 173) (by decide) ?_
                      obtain ⟨v6_173, ev6_173, h⟩ := nm_i h
                      refine q_iinc cx (pc' := 176) 5 rfl ki_1 ev6_173 (by decide) (L' := [(6, .int v6_173), (0, .ref ths), (1, .int p1), (3, .int w3_104), (4, .int w4_86), (5, .int x98)]) rfl dX9_layFar_173 rfl ?_
                      refine q_goto cx dX9_layFar_176 (tgt := 104) (by decide) ?_
                      refine q_sub cx [1, 2, 3, 4, 5, 0] rfl ?_
                      exact ih _ _ _ (hz104.1 _ h)
          refine q_sub cx [2, 3, 4, 5, 1, 0] rfl ?_
          exact key104 FU _ _ _ hL104
    refine q_sub cx [1, 2, 3, 0] rfl ?_
    exact key86 FU _ _ _ hL86
  have key5 : ∀ (n : Nat) (w3_5 : Int32) (w4_5 : Int32) (Mw_5 : QM), itr (fun s5 : Int32 × Int32 × QM => lp_X9_layFar_5 ths p1 p2 s5.1 s5.2.1 s5.2.2) n (w3_5, w4_5, Mw_5) = some r5 → EE p l e rm_X9_layFar s m args below meth c Q Γ 7 0 0 5 [(0, .ref ths), (1, .int p1), (2, .int p2), (3, .int w3_5), (4, .int w4_5)] [] Mw_5 := by
    intro n
    induction n with
    | zero => intro _ _ _ h; exact (itr_0 h).elim
    | succ n ih =>
      intro w3_5 w4_5 Mw_5 h
      obtain ⟨z5, h, hz5⟩ := itr_i h
      replace h : lp_X9_layFar_5 ths p1 p2 w3_5 w4_5 Mw_5 = some z5 := h
      unfold lp_X9_layFar_5 at h
      refine q_iload cx (pc' := 7) 4 rfl dX9_layFar_5 rfl ?_
      refine q_bipush cx (pc' := 9) kb_16 dX9_layFar_7 rfl ?_
      refine q_icmp_ge cx (pc' := 12) (tgt := 83) dX9_layFar_9 (by decide) rfl (fun c9 => ?_) (fun c9 => ?_)
      · replace h := ip c9 h
        refine q_sub cx [0, 1, 3] rfl ?_
        exact hk5_0 _ _ (hz5.2 _ h)
      · replace h := ine c9 h
        refine q_aload_n cx (pc' := 13) 0 rfl dX9_layFar_12 rfl ?_
        obtain ⟨ht13, r13, ex13, h⟩ := gR_i h
        refine q_gR cx (pc' := 16) 9 28 fl_X9_96 rfl ht13 ex13 dX9_layFar_13 rfl ?_
        refine q_iload cx (pc' := 18) 4 rfl dX9_layFar_16 rfl ?_
        refine q_aload_n cx (pc' := 19) 0 rfl dX9_layFar_18 rfl ?_
        refine q_iload cx (pc' := 21) 4 rfl dX9_layFar_19 rfl ?_
        refine q_iload_n cx (pc' := 22) 1 rfl dX9_layFar_21 rfl ?_
        obtain ⟨hk22, h⟩ := ck_i h
        obtain ⟨c22, hc22, h⟩ := bnd_i h
        refine q_callV cx (pc' := 25) (S := [.int w4_5, .ref r13]) (S1 := [.int c22, .int w4_5, .ref r13]) (kc' := 0) (ks' := 0) 9 (ct_X9_bears Γ l Mw_5 ths w4_5 p1 hk22 _ hc22) lki_X9_bears lkv_X9_bears lkc_X9_326 hk22 (r := (RX9, TX9, 70)) ⟨rfl, by decide, rfl⟩ rfl rfl (Nat.le_of_ble_eq_true rfl) ⟨(Nat.le_of_ble_eq_true rfl), (Nat.le_of_ble_eq_true rfl)⟩ ⟨(Nat.le_of_ble_eq_true rfl), (Nat.le_of_ble_eq_true rfl)⟩ dX9_layFar_22 rfl rfl rfl ?_
        obtain ⟨ht25, hi25, M25, eM25, h⟩ := wI_i h
        refine q_zast cx (pc' := 26) ht25 hi25 eM25 dX9_layFar_25 rfl ?_
        refine q_aload_n cx (pc' := 27) 0 rfl dX9_layFar_26 rfl ?_
        obtain ⟨ht27, r27, ex27, h⟩ := gR_i h
        refine q_gR cx (pc' := 30) 9 26 fl_X9_90 rfl ht27 ex27 dX9_layFar_27 rfl ?_
        refine q_iload cx (pc' := 32) 4 rfl dX9_layFar_30 rfl ?_
        refine q_bipush cx (pc' := 34) kb_m5 dX9_layFar_32 rfl ?_
        obtain ⟨ht34, hi34, M34, eM34, h⟩ := wI_i h
        refine q_iast cx (pc' := 35) ht34 hi34 eM34 dX9_layFar_34 rfl ?_
        refine q_aload_n cx (pc' := 36) 0 rfl dX9_layFar_35 rfl ?_
        refine q_iload_n cx (pc' := 37) 2 rfl dX9_layFar_36 rfl ?_
        refine q_iload cx (pc' := 39) 4 rfl dX9_layFar_37 rfl ?_
        obtain ⟨hk39, h⟩ := ck_i h
        refine q_callV cx (pc' := 42) (S := []) (S1 := [.int (fn_X9_has p2 w4_5)]) (kc' := 0) (ks' := 0) 9 (ct_X9_has Γ l M34 ths p2 w4_5 hk39) lki_X9_has lkv_X9_has lkc_X9_320 hk39 (r := (RX9, TX9, 70)) ⟨rfl, by decide, rfl⟩ rfl rfl (Nat.le_of_ble_eq_true rfl) ⟨(Nat.le_of_ble_eq_true rfl), (Nat.le_of_ble_eq_true rfl)⟩ ⟨(Nat.le_of_ble_eq_true rfl), (Nat.le_of_ble_eq_true rfl)⟩ dX9_layFar_39 rfl rfl rfl ?_
        refine q_if_eq cx (pc' := 45) (tgt := 77) dX9_layFar_42 (by decide) rfl (fun c42 => ?_) (fun c42 => ?_)
        · replace h := ip c42 h
          obtain ⟨v4_77, ev4_77, h⟩ := nm_i h
          refine q_iinc cx (pc' := 80) 4 rfl ki_1 ev4_77 (by decide) (L' := [(4, .int v4_77), (0, .ref ths), (1, .int p1), (2, .int p2), (3, .int w3_5)]) rfl dX9_layFar_77 rfl ?_
          refine q_goto cx dX9_layFar_80 (tgt := 5) (by decide) ?_
          refine q_sub cx [1, 2, 3, 4, 0] rfl ?_
          exact ih _ _ _ (hz5.1 _ h)
        · replace h := ine c42 h
          refine q_aload_n cx (pc' := 46) 0 rfl dX9_layFar_45 rfl ?_
          obtain ⟨ht46, r46, ex46, h⟩ := gR_i h
          refine q_gR cx (pc' := 49) 9 28 fl_X9_96 rfl ht46 ex46 dX9_layFar_46 rfl ?_
          refine q_iload cx (pc' := 51) 4 rfl dX9_layFar_49 rfl ?_
          obtain ⟨ht51, hi51, x51, ex51, h⟩ := aI_i h
          refine q_zald cx (pc' := 52) ht51 hi51 ex51 dX9_layFar_51 rfl ?_
          refine q_if_ne cx (pc' := 55) (tgt := 58) dX9_layFar_52 (by decide) rfl (fun c52 => ?_) (fun c52 => ?_)
          · replace h := ine c52 h
            refine q_aload_n cx (pc' := 59) 0 rfl dX9_layFar_58 rfl ?_
            obtain ⟨ht59, r59, ex59, h⟩ := gR_i h
            refine q_gR cx (pc' := 62) 9 26 fl_X9_90 rfl ht59 ex59 dX9_layFar_59 rfl ?_
            refine q_iload cx (pc' := 64) 4 rfl dX9_layFar_62 rfl ?_
            refine q_iconst cx (pc' := 65) ki_0 dX9_layFar_64 rfl ?_
            obtain ⟨ht65, hi65, M65, eM65, h⟩ := wI_i h
            refine q_iast cx (pc' := 66) ht65 hi65 eM65 dX9_layFar_65 rfl ?_
            refine q_aload_n cx (pc' := 67) 0 rfl dX9_layFar_66 rfl ?_
            obtain ⟨ht67, r67, ex67, h⟩ := gR_i h
            refine q_gR cx (pc' := 70) 9 27 fl_X9_93 rfl ht67 ex67 dX9_layFar_67 rfl ?_
            refine q_iload_n cx (pc' := 71) 3 rfl dX9_layFar_70 rfl ?_
            refine q_iload cx (pc' := 73) 4 rfl dX9_layFar_71 rfl ?_
            obtain ⟨ht73, hi73, M73, eM73, h⟩ := wI_i h
            refine q_iast cx (pc' := 74) ht73 hi73 eM73 dX9_layFar_73 rfl ?_
            obtain ⟨v3_74, ev3_74, h⟩ := nm_i h
            refine q_iinc cx (pc' := 77) 3 rfl ki_1 ev3_74 (by decide) (L' := [(3, .int v3_74), (0, .ref ths), (1, .int p1), (2, .int p2), (4, .int w4_5)]) rfl dX9_layFar_74 rfl ?_
            obtain ⟨v4_77, ev4_77, h⟩ := nm_i h
            refine q_iinc cx (pc' := 80) 4 rfl ki_1 ev4_77 (by decide) (L' := [(4, .int v4_77), (3, .int v3_74), (0, .ref ths), (1, .int p1), (2, .int p2)]) rfl dX9_layFar_77 rfl ?_
            refine q_goto cx dX9_layFar_80 (tgt := 5) (by decide) ?_
            refine q_sub cx [2, 3, 4, 1, 0] rfl ?_
            exact ih _ _ _ (hz5.1 _ h)
          · replace h := ip c52 h
            refine q_goto cx dX9_layFar_55 (tgt := 77) (by decide) ?_
            obtain ⟨v4_77, ev4_77, h⟩ := nm_i h
            refine q_iinc cx (pc' := 80) 4 rfl ki_1 ev4_77 (by decide) (L' := [(4, .int v4_77), (0, .ref ths), (1, .int p1), (2, .int p2), (3, .int w3_5)]) rfl dX9_layFar_77 rfl ?_
            refine q_goto cx dX9_layFar_80 (tgt := 5) (by decide) ?_
            refine q_sub cx [1, 2, 3, 4, 0] rfl ?_
            exact ih _ _ _ (hz5.1 _ h)
  refine q_sub cx [2, 3, 4, 1, 0] rfl ?_
  exact key5 FU _ _ _ hL5

abbrev rm_X9_nearSide : Room := { frames := 1, cells := 0, slots := 0, locals := 40 }
def fn_X9_nearSide : Int32 :=
  4369
set_option maxRecDepth 100000 in
set_option maxHeartbeats 4000000 in
theorem ct_X9_nearSide (Γ : GT) (l : Launch) (M : QM) (ths : Nat) (ht0 : mt M ths = 9) : CT Γ l yX9_nearSide cX9_nearSide 1 (some .int) rm_X9_nearSide (.ref ths :: []) M (some (.int fn_X9_nearSide)) M := by
  generalize h : fn_X9_nearSide = z
  refine ct_intro (own := RX9) (L := [(0, .ref ths)]) (by decide +kernel) rfl (Nat.le_of_ble_eq_true rfl) rfl ?_
  intro p e s m args below meth c Q hQ cx hnm
  unfold fn_X9_nearSide at h
  refine q_sipush cx (pc' := 3) ks_4369 dX9_nearSide_0 rfl ?_
  subst h
  rw [hQ]
  exact q_iret cx dX9_nearSide_3

abbrev rm_X9_farSide : Room := { frames := 1, cells := 0, slots := 0, locals := 40 }
def fn_X9_farSide : Int32 :=
  34952
set_option maxRecDepth 100000 in
set_option maxHeartbeats 4000000 in
theorem ct_X9_farSide (Γ : GT) (l : Launch) (M : QM) (ths : Nat) (ht0 : mt M ths = 9) : CT Γ l yX9_farSide cX9_farSide 1 (some .int) rm_X9_farSide (.ref ths :: []) M (some (.int fn_X9_farSide)) M := by
  generalize h : fn_X9_farSide = z
  refine ct_intro (own := RX9) (L := [(0, .ref ths)]) (by decide +kernel) rfl (Nat.le_of_ble_eq_true rfl) rfl ?_
  intro p e s m args below meth c Q hQ cx hnm
  unfold fn_X9_farSide at h
  refine q_ldcw cx (pc' := 3) aw_152 dX9_farSide_0 rfl ?_
  subst h
  rw [hQ]
  exact q_iret cx dX9_farSide_3

abbrev rm_X9_cross : Room := { frames := 6, cells := 0, slots := 0, locals := 153 }
def jn_X9_cross_43_14 (ths : Nat) (M6 : QM) (j3_43 : Int32) : Option ((Int32 × Int32) ⊕ (Int32)) :=
  gR M6 ths 9 26 fun r44 =>
  aI M6 20 r44 j3_43 fun x48 =>
  nm (j3_43 + 4) fun v3_50 =>
  some (.inl (x48, v3_50))
def lp_X9_cross_14 (ths : Nat) (M6 : QM) (w2_14 : Int32) (w3_14 : Int32) : Option ((Int32 × Int32) ⊕ (Int32)) :=
  if 16 ≤ w3_14 then
    some (.inr w2_14)
  else
    gR M6 ths 9 26 fun r21 =>
    aI M6 20 r21 w3_14 fun x25 =>
    if x25 < 0 then
      nm (w3_14 + 4) fun v3_50 =>
      some (.inl (w2_14, v3_50))
    else
      if w2_14 < 0 then
        jn_X9_cross_43_14 ths M6 w3_14
      else
        gR M6 ths 9 26 fun r34 =>
        aI M6 20 r34 w3_14 fun x38 =>
        if w2_14 ≤ x38 then
          nm (w3_14 + 4) fun v3_50 =>
          some (.inl (w2_14, v3_50))
        else
          jn_X9_cross_43_14 ths M6 w3_14
def fn_X9_cross (M : QM) (ths : Nat) (p1 : Int32) : Option (Int32 × QM) :=
  bnd (fn_X9_layFar M ths p1 fn_X9_nearSide) fun M6 =>
  bnd (itr (fun s14 : Int32 × Int32 => lp_X9_cross_14 ths M6 s14.1 s14.2) FU ((-5), 3)) fun re_14 =>
  some (re_14, M6)
set_option maxRecDepth 100000 in
set_option maxHeartbeats 4000000 in
theorem ct_X9_cross (Γ : GT) (l : Launch) (M : QM) (ths : Nat) (p1 : Int32) (ht0 : mt M ths = 9) (z : Int32) (M' : QM) (h : fn_X9_cross M ths p1 = some (z, M')) : CT Γ l yX9_cross cX9_cross 4 (some .int) rm_X9_cross (.ref ths :: [.int p1]) M (some (.int z)) M' := by
  refine ct_intro (own := RX9) (L := [(0, .ref ths), (1, .int p1)]) (by decide +kernel) rfl (Nat.le_of_ble_eq_true rfl) rfl ?_
  intro p e s m args below meth c Q hQ cx hnm
  unfold fn_X9_cross at h
  refine q_aload_n cx (pc' := 1) 0 rfl dX9_cross_0 rfl ?_
  refine q_iload_n cx (pc' := 2) 1 rfl dX9_cross_1 rfl ?_
  refine q_aload_n cx (pc' := 3) 0 rfl dX9_cross_2 rfl ?_
  refine q_callV cx (pc' := 6) (S := [.int p1, .ref ths]) (S1 := [.int fn_X9_nearSide, .int p1, .ref ths]) (kc' := 0) (ks' := 0) 9 (ct_X9_nearSide Γ l M ths ht0) lki_X9_nearSide lkv_X9_nearSide lkc_X9_333 ht0 (r := (RX9, TX9, 70)) ⟨rfl, by decide, rfl⟩ rfl rfl (Nat.le_of_ble_eq_true rfl) ⟨(Nat.le_of_ble_eq_true rfl), (Nat.le_of_ble_eq_true rfl)⟩ ⟨(Nat.le_of_ble_eq_true rfl), (Nat.le_of_ble_eq_true rfl)⟩ dX9_cross_3 rfl rfl rfl ?_
  obtain ⟨M6, hc6, h⟩ := bnd_i h
  refine q_callV cx (pc' := 9) (S := []) (S1 := []) (kc' := 0) (ks' := 0) 9 (ct_X9_layFar Γ l M ths p1 fn_X9_nearSide ht0 _ hc6) lki_X9_layFar lkv_X9_layFar lkc_X9_336 ht0 (r := (RX9, TX9, 70)) ⟨rfl, by decide, rfl⟩ rfl rfl (Nat.le_of_ble_eq_true rfl) ⟨(Nat.le_of_ble_eq_true rfl), (Nat.le_of_ble_eq_true rfl)⟩ ⟨(Nat.le_of_ble_eq_true rfl), (Nat.le_of_ble_eq_true rfl)⟩ dX9_cross_6 rfl rfl rfl ?_
  refine q_bipush cx (pc' := 11) kb_m5 dX9_cross_9 rfl ?_
  refine q_istore_n cx (pc' := 12) rfl rfl (by decide) (L' := [(2, .int (-5)), (0, .ref ths), (1, .int p1)]) rfl dX9_cross_11 rfl ?_
  refine q_iconst cx (pc' := 13) ki_3 dX9_cross_12 rfl ?_
  refine q_istore_n cx (pc' := 14) rfl rfl (by decide) (L' := [(3, .int 3), (2, .int (-5)), (0, .ref ths), (1, .int p1)]) rfl dX9_cross_13 rfl ?_
  obtain ⟨r14, hL14, h⟩ := bnd_i h
  have hk14_r : ∀ (re_14 : Int32), re_14 = r14 → some (re_14, M6) = some (z, M') := by
    intro re_14 hp
    subst hp
    exact h
  have key14 : ∀ (n : Nat) (w2_14 : Int32) (w3_14 : Int32), itr (fun s14 : Int32 × Int32 => lp_X9_cross_14 ths M6 s14.1 s14.2) n (w2_14, w3_14) = some r14 → EE p l e rm_X9_cross s m args below meth c Q Γ 4 0 0 14 [(0, .ref ths), (2, .int w2_14), (3, .int w3_14)] [] M6 := by
    intro n
    induction n with
    | zero => intro _ _ h; exact (itr_0 h).elim
    | succ n ih =>
      intro w2_14 w3_14 h
      obtain ⟨z14, h, hz14⟩ := itr_i h
      replace h : lp_X9_cross_14 ths M6 w2_14 w3_14 = some z14 := h
      unfold lp_X9_cross_14 at h
      have hj43 : ∀ (j3_43 : Int32), jn_X9_cross_43_14 ths M6 j3_43 = some z14 → EE p l e rm_X9_cross s m args below meth c Q Γ 4 0 0 43 [(0, .ref ths), (3, .int j3_43)] [] M6 := by
        intro j3_43 h
        unfold jn_X9_cross_43_14 at h
        refine q_aload_n cx (pc' := 44) 0 rfl dX9_cross_43 rfl ?_
        obtain ⟨ht44, r44, ex44, h⟩ := gR_i h
        refine q_gR cx (pc' := 47) 9 26 fl_X9_90 rfl ht44 ex44 dX9_cross_44 rfl ?_
        refine q_iload_n cx (pc' := 48) 1 rfl dX9_cross_47 rfl ?_
        obtain ⟨ht48, hi48, x48, ex48, h⟩ := aI_i h
        refine q_iald cx (pc' := 49) ht48 hi48 ex48 dX9_cross_48 rfl ?_
        refine q_istore_n cx (pc' := 50) rfl rfl (by decide) (L' := [(2, .int x48), (0, .ref ths), (3, .int j3_43)]) rfl dX9_cross_49 rfl ?_
        obtain ⟨v3_50, ev3_50, h⟩ := nm_i h
        refine q_iinc cx (pc' := 53) 2 rfl ki_4 ev3_50 (by decide) (L' := [(3, .int v3_50), (2, .int x48), (0, .ref ths)]) rfl dX9_cross_50 rfl ?_
        refine q_goto cx dX9_cross_53 (tgt := 14) (by decide) ?_
        refine q_sub cx [2, 1, 0] rfl ?_
        exact ih _ _ (hz14.1 _ h)
      refine q_iload_n cx (pc' := 15) 2 rfl dX9_cross_14 rfl ?_
      refine q_bipush cx (pc' := 17) kb_16 dX9_cross_15 rfl ?_
      refine q_icmp_ge cx (pc' := 20) (tgt := 56) dX9_cross_17 (by decide) rfl (fun c17 => ?_) (fun c17 => ?_)
      · replace h := ip c17 h
        refine q_iload_n cx (pc' := 57) 1 rfl dX9_cross_56 rfl ?_
        replace h := hk14_r _ (hz14.2 _ h)
        obtain ⟨rfl, rfl⟩ := o2_i h
        rw [hQ]
        exact q_iret cx dX9_cross_57
      · replace h := ine c17 h
        refine q_aload_n cx (pc' := 21) 0 rfl dX9_cross_20 rfl ?_
        obtain ⟨ht21, r21, ex21, h⟩ := gR_i h
        refine q_gR cx (pc' := 24) 9 26 fl_X9_90 rfl ht21 ex21 dX9_cross_21 rfl ?_
        refine q_iload_n cx (pc' := 25) 2 rfl dX9_cross_24 rfl ?_
        obtain ⟨ht25, hi25, x25, ex25, h⟩ := aI_i h
        refine q_iald cx (pc' := 26) ht25 hi25 ex25 dX9_cross_25 rfl ?_
        refine q_if_lt cx (pc' := 29) (tgt := 50) dX9_cross_26 (by decide) rfl (fun c26 => ?_) (fun c26 => ?_)
        · replace h := ip c26 h
          obtain ⟨v3_50, ev3_50, h⟩ := nm_i h
          refine q_iinc cx (pc' := 53) 2 rfl ki_4 ev3_50 (by decide) (L' := [(3, .int v3_50), (0, .ref ths), (2, .int w2_14)]) rfl dX9_cross_50 rfl ?_
          refine q_goto cx dX9_cross_53 (tgt := 14) (by decide) ?_
          refine q_sub cx [1, 2, 0] rfl ?_
          exact ih _ _ (hz14.1 _ h)
        · replace h := ine c26 h
          refine q_iload_n cx (pc' := 30) 1 rfl dX9_cross_29 rfl ?_
          refine q_if_lt cx (pc' := 33) (tgt := 43) dX9_cross_30 (by decide) rfl (fun c30 => ?_) (fun c30 => ?_)
          · replace h := ip c30 h
            refine q_sub cx [0, 2] rfl ?_
            exact hj43 _ h
          · replace h := ine c30 h
            refine q_aload_n cx (pc' := 34) 0 rfl dX9_cross_33 rfl ?_
            obtain ⟨ht34, r34, ex34, h⟩ := gR_i h
            refine q_gR cx (pc' := 37) 9 26 fl_X9_90 rfl ht34 ex34 dX9_cross_34 rfl ?_
            refine q_iload_n cx (pc' := 38) 2 rfl dX9_cross_37 rfl ?_
            obtain ⟨ht38, hi38, x38, ex38, h⟩ := aI_i h
            refine q_iald cx (pc' := 39) ht38 hi38 ex38 dX9_cross_38 rfl ?_
            refine q_iload_n cx (pc' := 40) 1 rfl dX9_cross_39 rfl ?_
            refine q_icmp_ge cx (pc' := 43) (tgt := 50) dX9_cross_40 (by decide) rfl (fun c40 => ?_) (fun c40 => ?_)
            · replace h := ip c40 h
              obtain ⟨v3_50, ev3_50, h⟩ := nm_i h
              refine q_iinc cx (pc' := 53) 2 rfl ki_4 ev3_50 (by decide) (L' := [(3, .int v3_50), (0, .ref ths), (2, .int w2_14)]) rfl dX9_cross_50 rfl ?_
              refine q_goto cx dX9_cross_53 (tgt := 14) (by decide) ?_
              refine q_sub cx [1, 2, 0] rfl ?_
              exact ih _ _ (hz14.1 _ h)
            · replace h := ine c40 h
              refine q_sub cx [0, 2] rfl ?_
              exact hj43 _ h
  refine q_sub cx [2, 1, 0] rfl ?_
  exact key14 FU _ _ hL14

abbrev rm_X9_canCross : Room := { frames := 7, cells := 0, slots := 0, locals := 176 }
def fn_X9_canCross (M : QM) (ths : Nat) (p1 : Int32) : Option (Int32 × QM) :=
  bnd (fn_X9_cross M ths p1) fun y2 =>
  pr2 y2 fun c2 M2 =>
  if c2 < 0 then
    some (0, M2)
  else
    some (1, M2)
set_option maxRecDepth 100000 in
set_option maxHeartbeats 4000000 in
theorem ct_X9_canCross (Γ : GT) (l : Launch) (M : QM) (ths : Nat) (p1 : Int32) (ht0 : mt M ths = 9) (z : Int32) (M' : QM) (h : fn_X9_canCross M ths p1 = some (z, M')) : CT Γ l yX9_canCross cX9_canCross 2 (some .boolean) rm_X9_canCross (.ref ths :: [.int p1]) M (some (.int z)) M' := by
  refine ct_intro (own := RX9) (L := [(0, .ref ths), (1, .int p1)]) (by decide +kernel) rfl (Nat.le_of_ble_eq_true rfl) rfl ?_
  intro p e s m args below meth c Q hQ cx hnm
  unfold fn_X9_canCross at h
  refine q_aload_n cx (pc' := 1) 0 rfl dX9_canCross_0 rfl ?_
  refine q_iload_n cx (pc' := 2) 1 rfl dX9_canCross_1 rfl ?_
  obtain ⟨⟨c2, M2⟩, hc2, h⟩ := bnd_i h
  replace h := pr2_i h
  refine q_callV cx (pc' := 5) (S := []) (S1 := [.int c2]) (kc' := 0) (ks' := 0) 9 (ct_X9_cross Γ l M ths p1 ht0 _ _ hc2) lki_X9_cross lkv_X9_cross lkc_X9_339 ht0 (r := (RX9, TX9, 70)) ⟨rfl, by decide, rfl⟩ rfl rfl (Nat.le_of_ble_eq_true rfl) ⟨(Nat.le_of_ble_eq_true rfl), (Nat.le_of_ble_eq_true rfl)⟩ ⟨(Nat.le_of_ble_eq_true rfl), (Nat.le_of_ble_eq_true rfl)⟩ dX9_canCross_2 rfl rfl rfl ?_
  refine q_if_lt cx (pc' := 8) (tgt := 12) dX9_canCross_5 (by decide) rfl (fun c5 => ?_) (fun c5 => ?_)
  · replace h := ip c5 h
    refine q_iconst cx (pc' := 13) ki_0 dX9_canCross_12 rfl ?_
    obtain ⟨rfl, rfl⟩ := o2_i h
    rw [hQ]
    exact q_nret cx rfl dX9_canCross_13
  · replace h := ine c5 h
    refine q_iconst cx (pc' := 9) ki_1 dX9_canCross_8 rfl ?_
    refine q_goto cx dX9_canCross_9 (tgt := 13) (by decide) ?_
    obtain ⟨rfl, rfl⟩ := o2_i h
    rw [hQ]
    exact q_nret cx rfl dX9_canCross_13

abbrev rm_X9_crossers : Room := { frames := 8, cells := 0, slots := 0, locals := 197 }
def lp_X9_crossers_4 (ths : Nat) (w1_4 : Int32) (w2_4 : Int32) (Mw_4 : QM) : Option ((Int32 × Int32 × QM) ⊕ (Int32 × QM)) :=
  gI Mw_4 ths 9 0 fun x6 =>
  if x6 ≤ w2_4 then
    some (.inr (w1_4, Mw_4))
  else
    ck Mw_4 ths 9 <|
    bnd (fn_X9_canCross Mw_4 ths w2_4) fun y15 =>
    pr2 y15 fun c15 M15 =>
    if c15 = 0 then
      nm (w1_4 ||| 0) fun v1_29 =>
      nm (w2_4 + 1) fun v2_30 =>
      some (.inl (v1_29, v2_30, M15))
    else
      nm (w1_4 ||| (1 <<< (w2_4 &&& 31))) fun v1_29 =>
      nm (w2_4 + 1) fun v2_30 =>
      some (.inl (v1_29, v2_30, M15))
def fn_X9_crossers (M : QM) (ths : Nat) : Option (Int32 × QM) :=
  bnd (itr (fun s4 : Int32 × Int32 × QM => lp_X9_crossers_4 ths s4.1 s4.2.1 s4.2.2) FU (0, 0, M)) fun r4 =>
  pr2 r4 fun re_4 Mr_4 =>
  some (re_4, Mr_4)
set_option maxRecDepth 100000 in
set_option maxHeartbeats 4000000 in
theorem ct_X9_crossers (Γ : GT) (l : Launch) (M : QM) (ths : Nat) (ht0 : mt M ths = 9) (z : Int32) (M' : QM) (h : fn_X9_crossers M ths = some (z, M')) : CT Γ l yX9_crossers cX9_crossers 3 (some .int) rm_X9_crossers (.ref ths :: []) M (some (.int z)) M' := by
  refine ct_intro (own := RX9) (L := [(0, .ref ths)]) (by decide +kernel) rfl (Nat.le_of_ble_eq_true rfl) rfl ?_
  intro p e s m args below meth c Q hQ cx hnm
  unfold fn_X9_crossers at h
  refine q_iconst cx (pc' := 1) ki_0 dX9_crossers_0 rfl ?_
  refine q_istore_n cx (pc' := 2) rfl rfl (by decide) (L' := [(1, .int 0), (0, .ref ths)]) rfl dX9_crossers_1 rfl ?_
  refine q_iconst cx (pc' := 3) ki_0 dX9_crossers_2 rfl ?_
  refine q_istore_n cx (pc' := 4) rfl rfl (by decide) (L' := [(2, .int 0), (1, .int 0), (0, .ref ths)]) rfl dX9_crossers_3 rfl ?_
  obtain ⟨r4, hL4, h⟩ := bnd_i h
  have hk4_r : ∀ (re_4 : Int32) (Mr_4 : QM), (re_4, Mr_4) = r4 → some (re_4, Mr_4) = some (z, M') := by
    intro re_4 Mr_4 hp
    subst hp
    replace h := pr2_i h
    exact h
  have key4 : ∀ (n : Nat) (w1_4 : Int32) (w2_4 : Int32) (Mw_4 : QM), itr (fun s4 : Int32 × Int32 × QM => lp_X9_crossers_4 ths s4.1 s4.2.1 s4.2.2) n (w1_4, w2_4, Mw_4) = some r4 → EE p l e rm_X9_crossers s m args below meth c Q Γ 3 0 0 4 [(0, .ref ths), (1, .int w1_4), (2, .int w2_4)] [] Mw_4 := by
    intro n
    induction n with
    | zero => intro _ _ _ h; exact (itr_0 h).elim
    | succ n ih =>
      intro w1_4 w2_4 Mw_4 h
      obtain ⟨z4, h, hz4⟩ := itr_i h
      replace h : lp_X9_crossers_4 ths w1_4 w2_4 Mw_4 = some z4 := h
      unfold lp_X9_crossers_4 at h
      refine q_iload_n cx (pc' := 5) 2 rfl dX9_crossers_4 rfl ?_
      refine q_aload_n cx (pc' := 6) 0 rfl dX9_crossers_5 rfl ?_
      obtain ⟨ht6, x6, ex6, h⟩ := gI_i h
      refine q_gI cx (pc' := 9) 9 0 fl_X9_7 rfl ht6 ex6 dX9_crossers_6 rfl ?_
      refine q_icmp_ge cx (pc' := 12) (tgt := 36) dX9_crossers_9 (by decide) rfl (fun c9 => ?_) (fun c9 => ?_)
      · replace h := ip c9 h
        refine q_iload_n cx (pc' := 37) 1 rfl dX9_crossers_36 rfl ?_
        replace h := hk4_r _ _ (hz4.2 _ h)
        obtain ⟨rfl, rfl⟩ := o2_i h
        rw [hQ]
        exact q_iret cx dX9_crossers_37
      · replace h := ine c9 h
        refine q_iload_n cx (pc' := 13) 1 rfl dX9_crossers_12 rfl ?_
        refine q_aload_n cx (pc' := 14) 0 rfl dX9_crossers_13 rfl ?_
        refine q_iload_n cx (pc' := 15) 2 rfl dX9_crossers_14 rfl ?_
        obtain ⟨hk15, h⟩ := ck_i h
        obtain ⟨⟨c15, M15⟩, hc15, h⟩ := bnd_i h
        replace h := pr2_i h
        refine q_callV cx (pc' := 18) (S := [.int w1_4]) (S1 := [.int c15, .int w1_4]) (kc' := 0) (ks' := 0) 9 (ct_X9_canCross Γ l Mw_4 ths w2_4 hk15 _ _ hc15) lki_X9_canCross lkv_X9_canCross lkc_X9_342 hk15 (r := (RX9, TX9, 70)) ⟨rfl, by decide, rfl⟩ rfl rfl (Nat.le_of_ble_eq_true rfl) ⟨(Nat.le_of_ble_eq_true rfl), (Nat.le_of_ble_eq_true rfl)⟩ ⟨(Nat.le_of_ble_eq_true rfl), (Nat.le_of_ble_eq_true rfl)⟩ dX9_crossers_15 rfl rfl rfl ?_
        refine q_if_eq cx (pc' := 21) (tgt := 27) dX9_crossers_18 (by decide) rfl (fun c18 => ?_) (fun c18 => ?_)
        · replace h := ip c18 h
          refine q_iconst cx (pc' := 28) ki_0 dX9_crossers_27 rfl ?_
          refine q_ior cx (pc' := 29) dX9_crossers_28 rfl ?_
          obtain ⟨v1_29, ev1_29, h⟩ := nm_i h
          refine q_istore_n cx (pc' := 30) rfl ev1_29 (by decide) (L' := [(1, .int v1_29), (0, .ref ths), (2, .int w2_4)]) rfl dX9_crossers_29 rfl ?_
          obtain ⟨v2_30, ev2_30, h⟩ := nm_i h
          refine q_iinc cx (pc' := 33) 2 rfl ki_1 ev2_30 (by decide) (L' := [(2, .int v2_30), (1, .int v1_29), (0, .ref ths)]) rfl dX9_crossers_30 rfl ?_
          refine q_goto cx dX9_crossers_33 (tgt := 4) (by decide) ?_
          refine q_sub cx [2, 1, 0] rfl ?_
          exact ih _ _ _ (hz4.1 _ h)
        · replace h := ine c18 h
          refine q_iconst cx (pc' := 22) ki_1 dX9_crossers_21 rfl ?_
          refine q_iload_n cx (pc' := 23) 2 rfl dX9_crossers_22 rfl ?_
          refine q_ishl cx (pc' := 24) dX9_crossers_23 rfl ?_
          refine q_goto cx dX9_crossers_24 (tgt := 28) (by decide) ?_
          refine q_ior cx (pc' := 29) dX9_crossers_28 rfl ?_
          obtain ⟨v1_29, ev1_29, h⟩ := nm_i h
          refine q_istore_n cx (pc' := 30) rfl ev1_29 (by decide) (L' := [(1, .int v1_29), (0, .ref ths), (2, .int w2_4)]) rfl dX9_crossers_29 rfl ?_
          obtain ⟨v2_30, ev2_30, h⟩ := nm_i h
          refine q_iinc cx (pc' := 33) 2 rfl ki_1 ev2_30 (by decide) (L' := [(2, .int v2_30), (1, .int v1_29), (0, .ref ths)]) rfl dX9_crossers_30 rfl ?_
          refine q_goto cx dX9_crossers_33 (tgt := 4) (by decide) ?_
          refine q_sub cx [2, 1, 0] rfl ?_
          exact ih _ _ _ (hz4.1 _ h)
  refine q_sub cx [2, 1, 0] rfl ?_
  exact key4 FU _ _ _ hL4

abbrev rm_X9_allStrong : Room := { frames := 1, cells := 0, slots := 0, locals := 40 }
def lp_X9_allStrong_4 (M : QM) (ths : Nat) (w1_4 : Int32) (w2_4 : Int32) : Option ((Int32 × Int32) ⊕ (Int32)) :=
  if 16 ≤ w2_4 then
    some (.inr w1_4)
  else
    gR M ths 9 2 fun r12 =>
    aI M 20 r12 w2_4 fun x16 =>
    nm (w1_4 + x16) fun v1_18 =>
    nm (w2_4 + 1) fun v2_19 =>
    some (.inl (v1_18, v2_19))
def fn_X9_allStrong (M : QM) (ths : Nat) : Option Int32 :=
  bnd (itr (fun s4 : Int32 × Int32 => lp_X9_allStrong_4 M ths s4.1 s4.2) FU (0, 0)) fun re_4 =>
  some re_4
set_option maxRecDepth 100000 in
set_option maxHeartbeats 4000000 in
theorem ct_X9_allStrong (Γ : GT) (l : Launch) (M : QM) (ths : Nat) (ht0 : mt M ths = 9) (z : Int32) (h : fn_X9_allStrong M ths = some z) : CT Γ l yX9_allStrong cX9_allStrong 3 (some .int) rm_X9_allStrong (.ref ths :: []) M (some (.int z)) M := by
  refine ct_intro (own := RX9) (L := [(0, .ref ths)]) (by decide +kernel) rfl (Nat.le_of_ble_eq_true rfl) rfl ?_
  intro p e s m args below meth c Q hQ cx hnm
  unfold fn_X9_allStrong at h
  refine q_iconst cx (pc' := 1) ki_0 dX9_allStrong_0 rfl ?_
  refine q_istore_n cx (pc' := 2) rfl rfl (by decide) (L' := [(1, .int 0), (0, .ref ths)]) rfl dX9_allStrong_1 rfl ?_
  refine q_iconst cx (pc' := 3) ki_0 dX9_allStrong_2 rfl ?_
  refine q_istore_n cx (pc' := 4) rfl rfl (by decide) (L' := [(2, .int 0), (1, .int 0), (0, .ref ths)]) rfl dX9_allStrong_3 rfl ?_
  obtain ⟨r4, hL4, h⟩ := bnd_i h
  have hk4_r : ∀ (re_4 : Int32), re_4 = r4 → some re_4 = some z := by
    intro re_4 hp
    subst hp
    exact h
  have key4 : ∀ (n : Nat) (w1_4 : Int32) (w2_4 : Int32), itr (fun s4 : Int32 × Int32 => lp_X9_allStrong_4 M ths s4.1 s4.2) n (w1_4, w2_4) = some r4 → EE p l e rm_X9_allStrong s m args below meth c Q Γ 3 0 0 4 [(0, .ref ths), (1, .int w1_4), (2, .int w2_4)] [] M := by
    intro n
    induction n with
    | zero => intro _ _ h; exact (itr_0 h).elim
    | succ n ih =>
      intro w1_4 w2_4 h
      obtain ⟨z4, h, hz4⟩ := itr_i h
      replace h : lp_X9_allStrong_4 M ths w1_4 w2_4 = some z4 := h
      unfold lp_X9_allStrong_4 at h
      refine q_iload_n cx (pc' := 5) 2 rfl dX9_allStrong_4 rfl ?_
      refine q_bipush cx (pc' := 7) kb_16 dX9_allStrong_5 rfl ?_
      refine q_icmp_ge cx (pc' := 10) (tgt := 25) dX9_allStrong_7 (by decide) rfl (fun c7 => ?_) (fun c7 => ?_)
      · replace h := ip c7 h
        refine q_iload_n cx (pc' := 26) 1 rfl dX9_allStrong_25 rfl ?_
        replace h := hk4_r _ (hz4.2 _ h)
        obtain rfl := o1_i h
        rw [hQ]
        exact q_iret cx dX9_allStrong_26
      · replace h := ine c7 h
        refine q_iload_n cx (pc' := 11) 1 rfl dX9_allStrong_10 rfl ?_
        refine q_aload_n cx (pc' := 12) 0 rfl dX9_allStrong_11 rfl ?_
        obtain ⟨ht12, r12, ex12, h⟩ := gR_i h
        refine q_gR cx (pc' := 15) 9 2 fl_X9_16 rfl ht12 ex12 dX9_allStrong_12 rfl ?_
        refine q_iload_n cx (pc' := 16) 2 rfl dX9_allStrong_15 rfl ?_
        obtain ⟨ht16, hi16, x16, ex16, h⟩ := aI_i h
        refine q_iald cx (pc' := 17) ht16 hi16 ex16 dX9_allStrong_16 rfl ?_
        refine q_iadd cx (pc' := 18) dX9_allStrong_17 rfl ?_
        obtain ⟨v1_18, ev1_18, h⟩ := nm_i h
        refine q_istore_n cx (pc' := 19) rfl ev1_18 (by decide) (L' := [(1, .int v1_18), (0, .ref ths), (2, .int w2_4)]) rfl dX9_allStrong_18 rfl ?_
        obtain ⟨v2_19, ev2_19, h⟩ := nm_i h
        refine q_iinc cx (pc' := 22) 2 rfl ki_1 ev2_19 (by decide) (L' := [(2, .int v2_19), (1, .int v1_18), (0, .ref ths)]) rfl dX9_allStrong_19 rfl ?_
        refine q_goto cx dX9_allStrong_22 (tgt := 4) (by decide) ?_
        refine q_sub cx [2, 1, 0] rfl ?_
        exact ih _ _ (hz4.1 _ h)
  refine q_sub cx [2, 1, 0] rfl ?_
  exact key4 FU _ _ hL4

abbrev rm_X9_whose : Room := { frames := 5, cells := 0, slots := 0, locals := 127 }
def lp_X9_whose_17 (M : QM) (ths : Nat) (w2_4 : Int32) (w3_17 : Int32) (w4_17 : Int32) : Option ((Int32 × Int32) ⊕ (Int32)) :=
  if 16 ≤ w4_17 then
    some (.inr w3_17)
  else
    if w3_17 = 0 then
      nm (w4_17 + 1) fun v4_57 =>
      some (.inl (0, v4_57))
    else
      gI M ths 9 29 fun x30 =>
      if (fn_X9_has x30 w4_17) = 0 then
        nm (w4_17 + 1) fun v4_57 =>
        some (.inl (1, v4_57))
      else
        bnd (fn_X9_bears M ths w4_17 w2_4) fun c45 =>
        if c45 = 0 then
          nm (w4_17 + 1) fun v4_57 =>
          some (.inl (0, v4_57))
        else
          nm (w4_17 + 1) fun v4_57 =>
          some (.inl (1, v4_57))
def lp_X9_whose_4 (M : QM) (ths : Nat) (w1_4 : Int32) (w2_4 : Int32) : Option ((Int32 × Int32) ⊕ (Int32)) :=
  gI M ths 9 0 fun x6 =>
  if x6 ≤ w2_4 then
    some (.inr w1_4)
  else
    bnd (itr (fun s17 : Int32 × Int32 => lp_X9_whose_17 M ths w2_4 s17.1 s17.2) FU (1, 0)) fun e3_17 =>
    if e3_17 = 0 then
      nm (w1_4 ||| 0) fun v1_76 =>
      nm (w2_4 + 1) fun v2_77 =>
      some (.inl (v1_76, v2_77))
    else
      nm (w1_4 ||| (1 <<< (w2_4 &&& 31))) fun v1_76 =>
      nm (w2_4 + 1) fun v2_77 =>
      some (.inl (v1_76, v2_77))
def fn_X9_whose (M : QM) (ths : Nat) : Option Int32 :=
  bnd (itr (fun s4 : Int32 × Int32 => lp_X9_whose_4 M ths s4.1 s4.2) FU (0, 0)) fun re_4 =>
  some re_4
set_option maxRecDepth 100000 in
set_option maxHeartbeats 4000000 in
theorem ct_X9_whose (Γ : GT) (l : Launch) (M : QM) (ths : Nat) (ht0 : mt M ths = 9) (z : Int32) (h : fn_X9_whose M ths = some z) : CT Γ l yX9_whose cX9_whose 5 (some .int) rm_X9_whose (.ref ths :: []) M (some (.int z)) M := by
  refine ct_intro (own := RX9) (L := [(0, .ref ths)]) (by decide +kernel) rfl (Nat.le_of_ble_eq_true rfl) rfl ?_
  intro p e s m args below meth c Q hQ cx hnm
  unfold fn_X9_whose at h
  refine q_iconst cx (pc' := 1) ki_0 dX9_whose_0 rfl ?_
  refine q_istore_n cx (pc' := 2) rfl rfl (by decide) (L' := [(1, .int 0), (0, .ref ths)]) rfl dX9_whose_1 rfl ?_
  refine q_iconst cx (pc' := 3) ki_0 dX9_whose_2 rfl ?_
  refine q_istore_n cx (pc' := 4) rfl rfl (by decide) (L' := [(2, .int 0), (1, .int 0), (0, .ref ths)]) rfl dX9_whose_3 rfl ?_
  obtain ⟨r4, hL4, h⟩ := bnd_i h
  have hk4_r : ∀ (re_4 : Int32), re_4 = r4 → some re_4 = some z := by
    intro re_4 hp
    subst hp
    exact h
  have key4 : ∀ (n : Nat) (w1_4 : Int32) (w2_4 : Int32), itr (fun s4 : Int32 × Int32 => lp_X9_whose_4 M ths s4.1 s4.2) n (w1_4, w2_4) = some r4 → EE p l e rm_X9_whose s m args below meth c Q Γ 5 0 0 4 [(0, .ref ths), (1, .int w1_4), (2, .int w2_4)] [] M := by
    intro n
    induction n with
    | zero => intro _ _ h; exact (itr_0 h).elim
    | succ n ih =>
      intro w1_4 w2_4 h
      obtain ⟨z4, h, hz4⟩ := itr_i h
      replace h : lp_X9_whose_4 M ths w1_4 w2_4 = some z4 := h
      unfold lp_X9_whose_4 at h
      refine q_iload_n cx (pc' := 5) 2 rfl dX9_whose_4 rfl ?_
      refine q_aload_n cx (pc' := 6) 0 rfl dX9_whose_5 rfl ?_
      obtain ⟨ht6, x6, ex6, h⟩ := gI_i h
      refine q_gI cx (pc' := 9) 9 0 fl_X9_7 rfl ht6 ex6 dX9_whose_6 rfl ?_
      refine q_icmp_ge cx (pc' := 12) (tgt := 83) dX9_whose_9 (by decide) rfl (fun c9 => ?_) (fun c9 => ?_)
      · replace h := ip c9 h
        refine q_iload_n cx (pc' := 84) 1 rfl dX9_whose_83 rfl ?_
        replace h := hk4_r _ (hz4.2 _ h)
        obtain rfl := o1_i h
        rw [hQ]
        exact q_iret cx dX9_whose_84
      · replace h := ine c9 h
        refine q_iconst cx (pc' := 13) ki_1 dX9_whose_12 rfl ?_
        refine q_istore_n cx (pc' := 14) rfl rfl (by decide) (L' := [(3, .int 1), (0, .ref ths), (1, .int w1_4), (2, .int w2_4)]) rfl dX9_whose_13 rfl ?_
        refine q_iconst cx (pc' := 15) ki_0 dX9_whose_14 rfl ?_
        refine q_istore cx (pc' := 17) rfl (by decide) (L' := [(4, .int 0), (3, .int 1), (0, .ref ths), (1, .int w1_4), (2, .int w2_4)]) rfl dX9_whose_15 rfl ?_
        obtain ⟨r17, hL17, h⟩ := bnd_i h
        have hk17_0 : ∀ (e3_17 : Int32), e3_17 = r17 → EE p l e rm_X9_whose s m args below meth c Q Γ 5 0 0 63 [(0, .ref ths), (1, .int w1_4), (2, .int w2_4), (3, .int e3_17)] [] M := by
          intro e3_17 hp
          subst hp
          refine q_iload_n cx (pc' := 64) 1 rfl dX9_whose_63 rfl ?_
          refine q_iload_n cx (pc' := 65) 3 rfl dX9_whose_64 rfl ?_
          refine q_if_eq cx (pc' := 68) (tgt := 74) dX9_whose_65 (by decide) rfl (fun c65 => ?_) (fun c65 => ?_)
          · replace h := ip c65 h
            refine q_iconst cx (pc' := 75) ki_0 dX9_whose_74 rfl ?_
            refine q_ior cx (pc' := 76) dX9_whose_75 rfl ?_
            obtain ⟨v1_76, ev1_76, h⟩ := nm_i h
            refine q_istore_n cx (pc' := 77) rfl ev1_76 (by decide) (L' := [(1, .int v1_76), (0, .ref ths), (2, .int w2_4), (3, .int e3_17)]) rfl dX9_whose_76 rfl ?_
            obtain ⟨v2_77, ev2_77, h⟩ := nm_i h
            refine q_iinc cx (pc' := 80) 2 rfl ki_1 ev2_77 (by decide) (L' := [(2, .int v2_77), (1, .int v1_76), (0, .ref ths), (3, .int e3_17)]) rfl dX9_whose_77 rfl ?_
            refine q_goto cx dX9_whose_80 (tgt := 4) (by decide) ?_
            refine q_sub cx [2, 1, 0] rfl ?_
            exact ih _ _ (hz4.1 _ h)
          · replace h := ine c65 h
            refine q_iconst cx (pc' := 69) ki_1 dX9_whose_68 rfl ?_
            refine q_iload_n cx (pc' := 70) 2 rfl dX9_whose_69 rfl ?_
            refine q_ishl cx (pc' := 71) dX9_whose_70 rfl ?_
            refine q_goto cx dX9_whose_71 (tgt := 75) (by decide) ?_
            refine q_ior cx (pc' := 76) dX9_whose_75 rfl ?_
            obtain ⟨v1_76, ev1_76, h⟩ := nm_i h
            refine q_istore_n cx (pc' := 77) rfl ev1_76 (by decide) (L' := [(1, .int v1_76), (0, .ref ths), (2, .int w2_4), (3, .int e3_17)]) rfl dX9_whose_76 rfl ?_
            obtain ⟨v2_77, ev2_77, h⟩ := nm_i h
            refine q_iinc cx (pc' := 80) 2 rfl ki_1 ev2_77 (by decide) (L' := [(2, .int v2_77), (1, .int v1_76), (0, .ref ths), (3, .int e3_17)]) rfl dX9_whose_77 rfl ?_
            refine q_goto cx dX9_whose_80 (tgt := 4) (by decide) ?_
            refine q_sub cx [2, 1, 0] rfl ?_
            exact ih _ _ (hz4.1 _ h)
        have key17 : ∀ (n : Nat) (w3_17 : Int32) (w4_17 : Int32), itr (fun s17 : Int32 × Int32 => lp_X9_whose_17 M ths w2_4 s17.1 s17.2) n (w3_17, w4_17) = some r17 → EE p l e rm_X9_whose s m args below meth c Q Γ 5 0 0 17 [(0, .ref ths), (1, .int w1_4), (2, .int w2_4), (3, .int w3_17), (4, .int w4_17)] [] M := by
          intro n
          induction n with
          | zero => intro _ _ h; exact (itr_0 h).elim
          | succ n ih =>
            intro w3_17 w4_17 h
            obtain ⟨z17, h, hz17⟩ := itr_i h
            replace h : lp_X9_whose_17 M ths w2_4 w3_17 w4_17 = some z17 := h
            unfold lp_X9_whose_17 at h
            refine q_iload cx (pc' := 19) 4 rfl dX9_whose_17 rfl ?_
            refine q_bipush cx (pc' := 21) kb_16 dX9_whose_19 rfl ?_
            refine q_icmp_ge cx (pc' := 24) (tgt := 63) dX9_whose_21 (by decide) rfl (fun c21 => ?_) (fun c21 => ?_)
            · replace h := ip c21 h
              refine q_sub cx [0, 1, 2, 3] rfl ?_
              exact hk17_0 _ (hz17.2 _ h)
            · replace h := ine c21 h
              refine q_iload_n cx (pc' := 25) 3 rfl dX9_whose_24 rfl ?_
              refine q_if_eq cx (pc' := 28) (tgt := 55) dX9_whose_25 (by decide) rfl (fun c25 => ?_) (fun c25 => ?_)
              · replace h := ip c25 h
                refine q_iconst cx (pc' := 56) ki_0 dX9_whose_55 rfl ?_
                refine q_istore_n cx (pc' := 57) rfl rfl (by decide) (L' := [(3, .int 0), (0, .ref ths), (1, .int w1_4), (2, .int w2_4), (4, .int w4_17)]) rfl dX9_whose_56 rfl ?_
                obtain ⟨v4_57, ev4_57, h⟩ := nm_i h
                refine q_iinc cx (pc' := 60) 4 rfl ki_1 ev4_57 (by decide) (L' := [(4, .int v4_57), (3, .int 0), (0, .ref ths), (1, .int w1_4), (2, .int w2_4)]) rfl dX9_whose_57 rfl ?_
                refine q_goto cx dX9_whose_60 (tgt := 17) (by decide) ?_
                refine q_sub cx [2, 3, 4, 1, 0] rfl ?_
                exact ih _ _ (hz17.1 _ h)
              · replace h := ine c25 h
                refine q_aload_n cx (pc' := 29) 0 rfl dX9_whose_28 rfl ?_
                refine q_aload_n cx (pc' := 30) 0 rfl dX9_whose_29 rfl ?_
                obtain ⟨ht30, x30, ex30, h⟩ := gI_i h
                refine q_gI cx (pc' := 33) 9 29 fl_X9_99 rfl ht30 ex30 dX9_whose_30 rfl ?_
                refine q_iload cx (pc' := 35) 4 rfl dX9_whose_33 rfl ?_
                refine q_callV cx (pc' := 38) (S := []) (S1 := [.int (fn_X9_has x30 w4_17)]) (kc' := 0) (ks' := 0) 9 (ct_X9_has Γ l M ths x30 w4_17 ht0) lki_X9_has lkv_X9_has lkc_X9_320 ht0 (r := (RX9, TX9, 70)) ⟨rfl, by decide, rfl⟩ rfl rfl (Nat.le_of_ble_eq_true rfl) ⟨(Nat.le_of_ble_eq_true rfl), (Nat.le_of_ble_eq_true rfl)⟩ ⟨(Nat.le_of_ble_eq_true rfl), (Nat.le_of_ble_eq_true rfl)⟩ dX9_whose_35 rfl rfl rfl ?_
                refine q_if_eq cx (pc' := 41) (tgt := 51) dX9_whose_38 (by decide) rfl (fun c38 => ?_) (fun c38 => ?_)
                · replace h := ip c38 h
                  refine q_iconst cx (pc' := 52) ki_1 dX9_whose_51 rfl ?_
                  refine q_goto cx dX9_whose_52 (tgt := 56) (by decide) ?_
                  refine q_istore_n cx (pc' := 57) rfl rfl (by decide) (L' := [(3, .int 1), (0, .ref ths), (1, .int w1_4), (2, .int w2_4), (4, .int w4_17)]) rfl dX9_whose_56 rfl ?_
                  obtain ⟨v4_57, ev4_57, h⟩ := nm_i h
                  refine q_iinc cx (pc' := 60) 4 rfl ki_1 ev4_57 (by decide) (L' := [(4, .int v4_57), (3, .int 1), (0, .ref ths), (1, .int w1_4), (2, .int w2_4)]) rfl dX9_whose_57 rfl ?_
                  refine q_goto cx dX9_whose_60 (tgt := 17) (by decide) ?_
                  refine q_sub cx [2, 3, 4, 1, 0] rfl ?_
                  exact ih _ _ (hz17.1 _ h)
                · replace h := ine c38 h
                  refine q_aload_n cx (pc' := 42) 0 rfl dX9_whose_41 rfl ?_
                  refine q_iload cx (pc' := 44) 4 rfl dX9_whose_42 rfl ?_
                  refine q_iload_n cx (pc' := 45) 2 rfl dX9_whose_44 rfl ?_
                  obtain ⟨c45, hc45, h⟩ := bnd_i h
                  refine q_callV cx (pc' := 48) (S := []) (S1 := [.int c45]) (kc' := 0) (ks' := 0) 9 (ct_X9_bears Γ l M ths w4_17 w2_4 ht0 _ hc45) lki_X9_bears lkv_X9_bears lkc_X9_326 ht0 (r := (RX9, TX9, 70)) ⟨rfl, by decide, rfl⟩ rfl rfl (Nat.le_of_ble_eq_true rfl) ⟨(Nat.le_of_ble_eq_true rfl), (Nat.le_of_ble_eq_true rfl)⟩ ⟨(Nat.le_of_ble_eq_true rfl), (Nat.le_of_ble_eq_true rfl)⟩ dX9_whose_45 rfl rfl rfl ?_
                  refine q_if_eq cx (pc' := 51) (tgt := 55) dX9_whose_48 (by decide) rfl (fun c48 => ?_) (fun c48 => ?_)
                  · replace h := ip c48 h
                    refine q_iconst cx (pc' := 56) ki_0 dX9_whose_55 rfl ?_
                    refine q_istore_n cx (pc' := 57) rfl rfl (by decide) (L' := [(3, .int 0), (0, .ref ths), (1, .int w1_4), (2, .int w2_4), (4, .int w4_17)]) rfl dX9_whose_56 rfl ?_
                    obtain ⟨v4_57, ev4_57, h⟩ := nm_i h
                    refine q_iinc cx (pc' := 60) 4 rfl ki_1 ev4_57 (by decide) (L' := [(4, .int v4_57), (3, .int 0), (0, .ref ths), (1, .int w1_4), (2, .int w2_4)]) rfl dX9_whose_57 rfl ?_
                    refine q_goto cx dX9_whose_60 (tgt := 17) (by decide) ?_
                    refine q_sub cx [2, 3, 4, 1, 0] rfl ?_
                    exact ih _ _ (hz17.1 _ h)
                  · replace h := ine c48 h
                    refine q_iconst cx (pc' := 52) ki_1 dX9_whose_51 rfl ?_
                    refine q_goto cx dX9_whose_52 (tgt := 56) (by decide) ?_
                    refine q_istore_n cx (pc' := 57) rfl rfl (by decide) (L' := [(3, .int 1), (0, .ref ths), (1, .int w1_4), (2, .int w2_4), (4, .int w4_17)]) rfl dX9_whose_56 rfl ?_
                    obtain ⟨v4_57, ev4_57, h⟩ := nm_i h
                    refine q_iinc cx (pc' := 60) 4 rfl ki_1 ev4_57 (by decide) (L' := [(4, .int v4_57), (3, .int 1), (0, .ref ths), (1, .int w1_4), (2, .int w2_4)]) rfl dX9_whose_57 rfl ?_
                    refine q_goto cx dX9_whose_60 (tgt := 17) (by decide) ?_
                    refine q_sub cx [2, 3, 4, 1, 0] rfl ?_
                    exact ih _ _ (hz17.1 _ h)
        refine q_sub cx [2, 3, 4, 1, 0] rfl ?_
        exact key17 FU _ _ hL17
  refine q_sub cx [2, 1, 0] rfl ?_
  exact key4 FU _ _ hL4

abbrev rm_X9_of : Room := { frames := 7, cells := 0, slots := 0, locals := 176 }
def fn_X9_of (M : QM) (ths : Nat) (p1 : Int32) (p2 : Int32) : Option (Int32 × QM) :=
  bnd (fn_X9_isWalker M ths p1) fun c2 =>
  if c2 = 0 then
    some ((-1), M)
  else
    if (fn_X9_in p2 10 25) = 0 then
      if p2 = 0 then
        gR M ths 9 3 fun r65 =>
        aI M 20 r65 p1 fun x69 =>
        some (x69, M)
      else if p2 = 1 then
        gR M ths 9 4 fun r72 =>
        aI M 20 r72 p1 fun x76 =>
        some (x76, M)
      else if p2 = 2 then
        gR M ths 9 5 fun r79 =>
        aI M 20 r79 p1 fun x83 =>
        some (x83, M)
      else if p2 = 3 then
        bnd (fn_X9_cross M ths p1) fun y87 =>
        pr2 y87 fun c87 M87 =>
        some (c87, M87)
      else 
        some ((-1), M)
    else
      bnd (fn_X9_needs M ths p1 (p2 - 10)) fun c28 =>
      some (c28, M)
set_option maxRecDepth 100000 in
set_option maxHeartbeats 4000000 in
theorem ct_X9_of (Γ : GT) (l : Launch) (M : QM) (ths : Nat) (p1 : Int32) (p2 : Int32) (ht0 : mt M ths = 9) (z : Int32) (M' : QM) (h : fn_X9_of M ths p1 p2 = some (z, M')) : CT Γ l yX9_of cX9_of 3 (some .int) rm_X9_of (.ref ths :: [.int p1, .int p2]) M (some (.int z)) M' := by
  refine ct_intro (own := RX9) (L := [(0, .ref ths), (1, .int p1), (2, .int p2)]) (by decide +kernel) rfl (Nat.le_of_ble_eq_true rfl) rfl ?_
  intro p e s m args below meth c Q hQ cx hnm
  unfold fn_X9_of at h
  refine q_aload_n cx (pc' := 1) 0 rfl dX9_of_0 rfl ?_
  refine q_iload_n cx (pc' := 2) 1 rfl dX9_of_1 rfl ?_
  obtain ⟨c2, hc2, h⟩ := bnd_i h
  refine q_callV cx (pc' := 5) (S := []) (S1 := [.int c2]) (kc' := 0) (ks' := 0) 9 (ct_X9_isWalker Γ l M ths p1 ht0 _ hc2) lki_X9_isWalker lkv_X9_isWalker lkc_X9_235 ht0 (r := (RX9, TX9, 70)) ⟨rfl, by decide, rfl⟩ rfl rfl (Nat.le_of_ble_eq_true rfl) ⟨(Nat.le_of_ble_eq_true rfl), (Nat.le_of_ble_eq_true rfl)⟩ ⟨(Nat.le_of_ble_eq_true rfl), (Nat.le_of_ble_eq_true rfl)⟩ dX9_of_2 rfl rfl rfl ?_
  refine q_if_ne cx (pc' := 8) (tgt := 10) dX9_of_5 (by decide) rfl (fun c5 => ?_) (fun c5 => ?_)
  · replace h := ine c5 h
    refine q_aload_n cx (pc' := 11) 0 rfl dX9_of_10 rfl ?_
    refine q_iload_n cx (pc' := 12) 2 rfl dX9_of_11 rfl ?_
    refine q_bipush cx (pc' := 14) kb_10 dX9_of_12 rfl ?_
    refine q_bipush cx (pc' := 16) kb_25 dX9_of_14 rfl ?_
    refine q_callV cx (pc' := 19) (S := []) (S1 := [.int (fn_X9_in p2 10 25)]) (kc' := 0) (ks' := 0) 9 (ct_X9_in Γ l M ths p2 10 25 ht0) lki_X9_in lkv_X9_in lkc_X9_224 ht0 (r := (RX9, TX9, 70)) ⟨rfl, by decide, rfl⟩ rfl rfl (Nat.le_of_ble_eq_true rfl) ⟨(Nat.le_of_ble_eq_true rfl), (Nat.le_of_ble_eq_true rfl)⟩ ⟨(Nat.le_of_ble_eq_true rfl), (Nat.le_of_ble_eq_true rfl)⟩ dX9_of_16 rfl rfl rfl ?_
    refine q_if_eq cx (pc' := 22) (tgt := 32) dX9_of_19 (by decide) rfl (fun c19 => ?_) (fun c19 => ?_)
    · replace h := ip c19 h
      refine q_iload_n cx (pc' := 33) 2 rfl dX9_of_32 rfl ?_
      rcases Decidable.em (p2 = 0) with c33_0 | c33_0
      · replace h := ip c33_0 h
        refine q_tabIn cx (off := 31) (tgt := 64) c33_0 dX9_of_33 (by decide) (by decide) ?_
        refine q_aload_n cx (pc' := 65) 0 rfl dX9_of_64 rfl ?_
        obtain ⟨ht65, r65, ex65, h⟩ := gR_i h
        refine q_gR cx (pc' := 68) 9 3 fl_X9_20 rfl ht65 ex65 dX9_of_65 rfl ?_
        refine q_iload_n cx (pc' := 69) 1 rfl dX9_of_68 rfl ?_
        obtain ⟨ht69, hi69, x69, ex69, h⟩ := aI_i h
        refine q_iald cx (pc' := 70) ht69 hi69 ex69 dX9_of_69 rfl ?_
        obtain ⟨rfl, rfl⟩ := o2_i h
        rw [hQ]
        exact q_iret cx dX9_of_70
      replace h := ine c33_0 h
      rcases Decidable.em (p2 = 1) with c33_1 | c33_1
      · replace h := ip c33_1 h
        refine q_tabIn cx (off := 38) (tgt := 71) c33_1 dX9_of_33 (by decide) (by decide) ?_
        refine q_aload_n cx (pc' := 72) 0 rfl dX9_of_71 rfl ?_
        obtain ⟨ht72, r72, ex72, h⟩ := gR_i h
        refine q_gR cx (pc' := 75) 9 4 fl_X9_23 rfl ht72 ex72 dX9_of_72 rfl ?_
        refine q_iload_n cx (pc' := 76) 1 rfl dX9_of_75 rfl ?_
        obtain ⟨ht76, hi76, x76, ex76, h⟩ := aI_i h
        refine q_iald cx (pc' := 77) ht76 hi76 ex76 dX9_of_76 rfl ?_
        obtain ⟨rfl, rfl⟩ := o2_i h
        rw [hQ]
        exact q_iret cx dX9_of_77
      replace h := ine c33_1 h
      rcases Decidable.em (p2 = 2) with c33_2 | c33_2
      · replace h := ip c33_2 h
        refine q_tabIn cx (off := 45) (tgt := 78) c33_2 dX9_of_33 (by decide) (by decide) ?_
        refine q_aload_n cx (pc' := 79) 0 rfl dX9_of_78 rfl ?_
        obtain ⟨ht79, r79, ex79, h⟩ := gR_i h
        refine q_gR cx (pc' := 82) 9 5 fl_X9_26 rfl ht79 ex79 dX9_of_79 rfl ?_
        refine q_iload_n cx (pc' := 83) 1 rfl dX9_of_82 rfl ?_
        obtain ⟨ht83, hi83, x83, ex83, h⟩ := aI_i h
        refine q_iald cx (pc' := 84) ht83 hi83 ex83 dX9_of_83 rfl ?_
        obtain ⟨rfl, rfl⟩ := o2_i h
        rw [hQ]
        exact q_iret cx dX9_of_84
      replace h := ine c33_2 h
      rcases Decidable.em (p2 = 3) with c33_3 | c33_3
      · replace h := ip c33_3 h
        refine q_tabIn cx (off := 52) (tgt := 85) c33_3 dX9_of_33 (by decide) (by decide) ?_
        refine q_aload_n cx (pc' := 86) 0 rfl dX9_of_85 rfl ?_
        refine q_iload_n cx (pc' := 87) 1 rfl dX9_of_86 rfl ?_
        obtain ⟨⟨c87, M87⟩, hc87, h⟩ := bnd_i h
        replace h := pr2_i h
        refine q_callV cx (pc' := 90) (S := []) (S1 := [.int c87]) (kc' := 0) (ks' := 0) 9 (ct_X9_cross Γ l M ths p1 ht0 _ _ hc87) lki_X9_cross lkv_X9_cross lkc_X9_339 ht0 (r := (RX9, TX9, 70)) ⟨rfl, by decide, rfl⟩ rfl rfl (Nat.le_of_ble_eq_true rfl) ⟨(Nat.le_of_ble_eq_true rfl), (Nat.le_of_ble_eq_true rfl)⟩ ⟨(Nat.le_of_ble_eq_true rfl), (Nat.le_of_ble_eq_true rfl)⟩ dX9_of_87 rfl rfl rfl ?_
        obtain ⟨rfl, rfl⟩ := o2_i h
        rw [hQ]
        exact q_iret cx dX9_of_90
      replace h := ine c33_3 h
      have nt33_0 := lv_neT c33_0 (a := 0) rfl
      have nt33_1 := lv_neT c33_1 (a := 1) rfl
      have nt33_2 := lv_neT c33_2 (a := 2) rfl
      have nt33_3 := lv_neT c33_3 (a := 3) rfl
      refine q_tabOut cx (tgt := 91) dX9_of_33 (by omega) (by decide) ?_
      refine q_iconst cx (pc' := 92) ki_m1 dX9_of_91 rfl ?_
      obtain ⟨rfl, rfl⟩ := o2_i h
      rw [hQ]
      exact q_iret cx dX9_of_92
    · replace h := ine c19 h
      refine q_aload_n cx (pc' := 23) 0 rfl dX9_of_22 rfl ?_
      refine q_iload_n cx (pc' := 24) 1 rfl dX9_of_23 rfl ?_
      refine q_iload_n cx (pc' := 25) 2 rfl dX9_of_24 rfl ?_
      refine q_bipush cx (pc' := 27) kb_10 dX9_of_25 rfl ?_
      refine q_isub cx (pc' := 28) dX9_of_27 rfl ?_
      obtain ⟨c28, hc28, h⟩ := bnd_i h
      refine q_callV cx (pc' := 31) (S := []) (S1 := [.int c28]) (kc' := 0) (ks' := 0) 9 (ct_X9_needs Γ l M ths p1 (p2 - 10) ht0 _ hc28) lki_X9_needs lkv_X9_needs lkc_X9_323 ht0 (r := (RX9, TX9, 70)) ⟨rfl, by decide, rfl⟩ rfl rfl (Nat.le_of_ble_eq_true rfl) ⟨(Nat.le_of_ble_eq_true rfl), (Nat.le_of_ble_eq_true rfl)⟩ ⟨(Nat.le_of_ble_eq_true rfl), (Nat.le_of_ble_eq_true rfl)⟩ dX9_of_28 rfl rfl rfl ?_
      obtain ⟨rfl, rfl⟩ := o2_i h
      rw [hQ]
      exact q_iret cx dX9_of_31
  · replace h := ip c5 h
    refine q_iconst cx (pc' := 9) ki_m1 dX9_of_8 rfl ?_
    obtain ⟨rfl, rfl⟩ := o2_i h
    rw [hQ]
    exact q_iret cx dX9_of_9

abbrev rm_X9_at : Room := { frames := 5, cells := 0, slots := 0, locals := 127 }
def lp_X9_at_48 (M : QM) (ths : Nat) (p1 : Int32) (w3_48 : Int32) (w4_48 : Int32) : Option ((Int32 × Int32) ⊕ (Int32)) :=
  gI M ths 9 0 fun x51 =>
  if x51 ≤ w4_48 then
    some (.inr w3_48)
  else
    bnd (fn_X9_bears M ths p1 w4_48) fun c62 =>
    if c62 = 0 then
      nm (w3_48 ||| 0) fun v3_77 =>
      nm (w4_48 + 1) fun v4_78 =>
      some (.inl (v3_77, v4_78))
    else
      nm (w3_48 ||| (1 <<< (w4_48 &&& 31))) fun v3_77 =>
      nm (w4_48 + 1) fun v4_78 =>
      some (.inl (v3_77, v4_78))
def fn_X9_at (M : QM) (ths : Nat) (p1 : Int32) (p2 : Int32) : Option (Int32 × QM) :=
  if (fn_X9_isCell p1) = 0 then
    some ((-1001), M)
  else
    if p2 = 0 then
      gR M ths 9 2 fun r17 =>
      aI M 20 r17 p1 fun x21 =>
      some (x21, M)
    else
      if p2 = 1 then
        bnd (fn_X9_grows M ths p1) fun y30 =>
        pr2 y30 fun c30 M30 =>
        some (c30, M30)
      else
        if p2 = 2 then
          bnd (itr (fun s48 : Int32 × Int32 => lp_X9_at_48 M ths p1 s48.1 s48.2) FU (0, 0)) fun re_48 =>
          some (re_48, M)
        else
          some ((-1001), M)
set_option maxRecDepth 100000 in
set_option maxHeartbeats 4000000 in
theorem ct_X9_at (Γ : GT) (l : Launch) (M : QM) (ths : Nat) (p1 : Int32) (p2 : Int32) (ht0 : mt M ths = 9) (z : Int32) (M' : QM) (h : fn_X9_at M ths p1 p2 = some (z, M')) : CT Γ l yX9_at cX9_at 5 (some .int) rm_X9_at (.ref ths :: [.int p1, .int p2]) M (some (.int z)) M' := by
  refine ct_intro (own := RX9) (L := [(0, .ref ths), (1, .int p1), (2, .int p2)]) (by decide +kernel) rfl (Nat.le_of_ble_eq_true rfl) rfl ?_
  intro p e s m args below meth c Q hQ cx hnm
  unfold fn_X9_at at h
  refine q_aload_n cx (pc' := 1) 0 rfl dX9_at_0 rfl ?_
  refine q_iload_n cx (pc' := 2) 1 rfl dX9_at_1 rfl ?_
  refine q_callV cx (pc' := 5) (S := []) (S1 := [.int (fn_X9_isCell p1)]) (kc' := 0) (ks' := 0) 9 (ct_X9_isCell Γ l M ths p1 ht0) lki_X9_isCell lkv_X9_isCell lkc_X9_232 ht0 (r := (RX9, TX9, 70)) ⟨rfl, by decide, rfl⟩ rfl rfl (Nat.le_of_ble_eq_true rfl) ⟨(Nat.le_of_ble_eq_true rfl), (Nat.le_of_ble_eq_true rfl)⟩ ⟨(Nat.le_of_ble_eq_true rfl), (Nat.le_of_ble_eq_true rfl)⟩ dX9_at_2 rfl rfl rfl ?_
  refine q_if_ne cx (pc' := 8) (tgt := 12) dX9_at_5 (by decide) rfl (fun c5 => ?_) (fun c5 => ?_)
  · replace h := ine c5 h
    refine q_iload_n cx (pc' := 13) 2 rfl dX9_at_12 rfl ?_
    refine q_if_ne cx (pc' := 16) (tgt := 23) dX9_at_13 (by decide) rfl (fun c13 => ?_) (fun c13 => ?_)
    · replace h := ine c13 h
      refine q_iload_n cx (pc' := 24) 2 rfl dX9_at_23 rfl ?_
      refine q_iconst cx (pc' := 25) ki_1 dX9_at_24 rfl ?_
      refine q_icmp_ne cx (pc' := 28) (tgt := 34) dX9_at_25 (by decide) rfl (fun c25 => ?_) (fun c25 => ?_)
      · replace h := ine c25 h
        refine q_iload_n cx (pc' := 35) 2 rfl dX9_at_34 rfl ?_
        refine q_iconst cx (pc' := 36) ki_2 dX9_at_35 rfl ?_
        refine q_icmp_eq cx (pc' := 39) (tgt := 43) dX9_at_36 (by decide) rfl (fun c36 => ?_) (fun c36 => ?_)
        · replace h := ip c36 h
          refine q_iconst cx (pc' := 44) ki_0 dX9_at_43 rfl ?_
          refine q_istore_n cx (pc' := 45) rfl rfl (by decide) (L' := [(3, .int 0), (0, .ref ths), (1, .int p1), (2, .int p2)]) rfl dX9_at_44 rfl ?_
          refine q_iconst cx (pc' := 46) ki_0 dX9_at_45 rfl ?_
          refine q_istore cx (pc' := 48) rfl (by decide) (L' := [(4, .int 0), (3, .int 0), (0, .ref ths), (1, .int p1), (2, .int p2)]) rfl dX9_at_46 rfl ?_
          obtain ⟨r48, hL48, h⟩ := bnd_i h
          have hk48_r : ∀ (re_48 : Int32), re_48 = r48 → some (re_48, M) = some (z, M') := by
            intro re_48 hp
            subst hp
            exact h
          have key48 : ∀ (n : Nat) (w3_48 : Int32) (w4_48 : Int32), itr (fun s48 : Int32 × Int32 => lp_X9_at_48 M ths p1 s48.1 s48.2) n (w3_48, w4_48) = some r48 → EE p l e rm_X9_at s m args below meth c Q Γ 5 0 0 48 [(0, .ref ths), (1, .int p1), (3, .int w3_48), (4, .int w4_48)] [] M := by
            intro n
            induction n with
            | zero => intro _ _ h; exact (itr_0 h).elim
            | succ n ih =>
              intro w3_48 w4_48 h
              obtain ⟨z48, h, hz48⟩ := itr_i h
              replace h : lp_X9_at_48 M ths p1 w3_48 w4_48 = some z48 := h
              unfold lp_X9_at_48 at h
              refine q_iload cx (pc' := 50) 3 rfl dX9_at_48 rfl ?_
              refine q_aload_n cx (pc' := 51) 0 rfl dX9_at_50 rfl ?_
              obtain ⟨ht51, x51, ex51, h⟩ := gI_i h
              refine q_gI cx (pc' := 54) 9 0 fl_X9_7 rfl ht51 ex51 dX9_at_51 rfl ?_
              refine q_icmp_ge cx (pc' := 57) (tgt := 84) dX9_at_54 (by decide) rfl (fun c54 => ?_) (fun c54 => ?_)
              · replace h := ip c54 h
                refine q_iload_n cx (pc' := 85) 2 rfl dX9_at_84 rfl ?_
                replace h := hk48_r _ (hz48.2 _ h)
                obtain ⟨rfl, rfl⟩ := o2_i h
                rw [hQ]
                exact q_iret cx dX9_at_85
              · replace h := ine c54 h
                refine q_iload_n cx (pc' := 58) 2 rfl dX9_at_57 rfl ?_
                refine q_aload_n cx (pc' := 59) 0 rfl dX9_at_58 rfl ?_
                refine q_iload_n cx (pc' := 60) 1 rfl dX9_at_59 rfl ?_
                refine q_iload cx (pc' := 62) 3 rfl dX9_at_60 rfl ?_
                obtain ⟨c62, hc62, h⟩ := bnd_i h
                refine q_callV cx (pc' := 65) (S := [.int w3_48]) (S1 := [.int c62, .int w3_48]) (kc' := 0) (ks' := 0) 9 (ct_X9_bears Γ l M ths p1 w4_48 ht0 _ hc62) lki_X9_bears lkv_X9_bears lkc_X9_326 ht0 (r := (RX9, TX9, 70)) ⟨rfl, by decide, rfl⟩ rfl rfl (Nat.le_of_ble_eq_true rfl) ⟨(Nat.le_of_ble_eq_true rfl), (Nat.le_of_ble_eq_true rfl)⟩ ⟨(Nat.le_of_ble_eq_true rfl), (Nat.le_of_ble_eq_true rfl)⟩ dX9_at_62 rfl rfl rfl ?_
                refine q_if_eq cx (pc' := 68) (tgt := 75) dX9_at_65 (by decide) rfl (fun c65 => ?_) (fun c65 => ?_)
                · replace h := ip c65 h
                  refine q_iconst cx (pc' := 76) ki_0 dX9_at_75 rfl ?_
                  refine q_ior cx (pc' := 77) dX9_at_76 rfl ?_
                  obtain ⟨v3_77, ev3_77, h⟩ := nm_i h
                  refine q_istore_n cx (pc' := 78) rfl ev3_77 (by decide) (L' := [(3, .int v3_77), (0, .ref ths), (1, .int p1), (4, .int w4_48)]) rfl dX9_at_77 rfl ?_
                  obtain ⟨v4_78, ev4_78, h⟩ := nm_i h
                  refine q_iinc cx (pc' := 81) 3 rfl ki_1 ev4_78 (by decide) (L' := [(4, .int v4_78), (3, .int v3_77), (0, .ref ths), (1, .int p1)]) rfl dX9_at_78 rfl ?_
                  refine q_goto cx dX9_at_81 (tgt := 48) (by decide) ?_
                  refine q_sub cx [2, 3, 1, 0] rfl ?_
                  exact ih _ _ (hz48.1 _ h)
                · replace h := ine c65 h
                  refine q_iconst cx (pc' := 69) ki_1 dX9_at_68 rfl ?_
                  refine q_iload cx (pc' := 71) 3 rfl dX9_at_69 rfl ?_
                  refine q_ishl cx (pc' := 72) dX9_at_71 rfl ?_
                  refine q_goto cx dX9_at_72 (tgt := 76) (by decide) ?_
                  refine q_ior cx (pc' := 77) dX9_at_76 rfl ?_
                  obtain ⟨v3_77, ev3_77, h⟩ := nm_i h
                  refine q_istore_n cx (pc' := 78) rfl ev3_77 (by decide) (L' := [(3, .int v3_77), (0, .ref ths), (1, .int p1), (4, .int w4_48)]) rfl dX9_at_77 rfl ?_
                  obtain ⟨v4_78, ev4_78, h⟩ := nm_i h
                  refine q_iinc cx (pc' := 81) 3 rfl ki_1 ev4_78 (by decide) (L' := [(4, .int v4_78), (3, .int v3_77), (0, .ref ths), (1, .int p1)]) rfl dX9_at_78 rfl ?_
                  refine q_goto cx dX9_at_81 (tgt := 48) (by decide) ?_
                  refine q_sub cx [2, 3, 1, 0] rfl ?_
                  exact ih _ _ (hz48.1 _ h)
          refine q_sub cx [2, 3, 1, 0] rfl ?_
          exact key48 FU _ _ hL48
        · replace h := ine c36 h
          refine q_sipush cx (pc' := 42) ks_m1001 dX9_at_39 rfl ?_
          obtain ⟨rfl, rfl⟩ := o2_i h
          rw [hQ]
          exact q_iret cx dX9_at_42
      · replace h := ip c25 h
        refine q_aload_n cx (pc' := 29) 0 rfl dX9_at_28 rfl ?_
        refine q_iload_n cx (pc' := 30) 1 rfl dX9_at_29 rfl ?_
        obtain ⟨⟨c30, M30⟩, hc30, h⟩ := bnd_i h
        replace h := pr2_i h
        refine q_callV cx (pc' := 33) (S := []) (S1 := [.int c30]) (kc' := 0) (ks' := 0) 9 (ct_X9_grows Γ l M ths p1 ht0 _ _ hc30) lki_X9_grows lkv_X9_grows lkc_X9_345 ht0 (r := (RX9, TX9, 70)) ⟨rfl, by decide, rfl⟩ rfl rfl (Nat.le_of_ble_eq_true rfl) ⟨(Nat.le_of_ble_eq_true rfl), (Nat.le_of_ble_eq_true rfl)⟩ ⟨(Nat.le_of_ble_eq_true rfl), (Nat.le_of_ble_eq_true rfl)⟩ dX9_at_30 rfl rfl rfl ?_
        obtain ⟨rfl, rfl⟩ := o2_i h
        rw [hQ]
        exact q_iret cx dX9_at_33
    · replace h := ip c13 h
      refine q_aload_n cx (pc' := 17) 0 rfl dX9_at_16 rfl ?_
      obtain ⟨ht17, r17, ex17, h⟩ := gR_i h
      refine q_gR cx (pc' := 20) 9 2 fl_X9_16 rfl ht17 ex17 dX9_at_17 rfl ?_
      refine q_iload_n cx (pc' := 21) 1 rfl dX9_at_20 rfl ?_
      obtain ⟨ht21, hi21, x21, ex21, h⟩ := aI_i h
      refine q_iald cx (pc' := 22) ht21 hi21 ex21 dX9_at_21 rfl ?_
      obtain ⟨rfl, rfl⟩ := o2_i h
      rw [hQ]
      exact q_iret cx dX9_at_22
  · replace h := ip c5 h
    refine q_sipush cx (pc' := 11) ks_m1001 dX9_at_8 rfl ?_
    obtain ⟨rfl, rfl⟩ := o2_i h
    rw [hQ]
    exact q_iret cx dX9_at_11

abbrev rm_X9_milk : Room := { frames := 4, cells := 0, slots := 0, locals := 105 }
def fn_X9_milk (M : QM) (ths : Nat) (p1 : Int32) : Option (Int32 × QM) :=
  if (fn_X9_isCell p1) = 0 then
    some ((-1), M)
  else
    gR M ths 9 2 fun r11 =>
    bnd (fn_X9_milkOf M ths p1) fun c17 =>
    wI M 20 r11 p1 c17 fun M20 =>
    gR M20 ths 9 2 fun r22 =>
    aI M20 20 r22 p1 fun x26 =>
    some (x26, M20)
set_option maxRecDepth 100000 in
set_option maxHeartbeats 4000000 in
theorem ct_X9_milk (Γ : GT) (l : Launch) (M : QM) (ths : Nat) (p1 : Int32) (ht0 : mt M ths = 9) (z : Int32) (M' : QM) (h : fn_X9_milk M ths p1 = some (z, M')) : CT Γ l yX9_milk cX9_milk 2 (some .int) rm_X9_milk (.ref ths :: [.int p1]) M (some (.int z)) M' := by
  refine ct_intro (own := RX9) (L := [(0, .ref ths), (1, .int p1)]) (by decide +kernel) rfl (Nat.le_of_ble_eq_true rfl) rfl ?_
  intro p e s m args below meth c Q hQ cx hnm
  unfold fn_X9_milk at h
  refine q_aload_n cx (pc' := 1) 0 rfl dX9_milk_0 rfl ?_
  refine q_iload_n cx (pc' := 2) 1 rfl dX9_milk_1 rfl ?_
  refine q_callV cx (pc' := 5) (S := []) (S1 := [.int (fn_X9_isCell p1)]) (kc' := 0) (ks' := 0) 9 (ct_X9_isCell Γ l M ths p1 ht0) lki_X9_isCell lkv_X9_isCell lkc_X9_232 ht0 (r := (RX9, TX9, 70)) ⟨rfl, by decide, rfl⟩ rfl rfl (Nat.le_of_ble_eq_true rfl) ⟨(Nat.le_of_ble_eq_true rfl), (Nat.le_of_ble_eq_true rfl)⟩ ⟨(Nat.le_of_ble_eq_true rfl), (Nat.le_of_ble_eq_true rfl)⟩ dX9_milk_2 rfl rfl rfl ?_
  refine q_if_ne cx (pc' := 8) (tgt := 10) dX9_milk_5 (by decide) rfl (fun c5 => ?_) (fun c5 => ?_)
  · replace h := ine c5 h
    refine q_aload_n cx (pc' := 11) 0 rfl dX9_milk_10 rfl ?_
    obtain ⟨ht11, r11, ex11, h⟩ := gR_i h
    refine q_gR cx (pc' := 14) 9 2 fl_X9_16 rfl ht11 ex11 dX9_milk_11 rfl ?_
    refine q_iload_n cx (pc' := 15) 1 rfl dX9_milk_14 rfl ?_
    refine q_aload_n cx (pc' := 16) 0 rfl dX9_milk_15 rfl ?_
    refine q_iload_n cx (pc' := 17) 1 rfl dX9_milk_16 rfl ?_
    obtain ⟨c17, hc17, h⟩ := bnd_i h
    refine q_callV cx (pc' := 20) (S := [.int p1, .ref r11]) (S1 := [.int c17, .int p1, .ref r11]) (kc' := 0) (ks' := 0) 9 (ct_X9_milkOf Γ l M ths p1 ht0 _ hc17) lki_X9_milkOf lkv_X9_milkOf lkc_X9_348 ht0 (r := (RX9, TX9, 70)) ⟨rfl, by decide, rfl⟩ rfl rfl (Nat.le_of_ble_eq_true rfl) ⟨(Nat.le_of_ble_eq_true rfl), (Nat.le_of_ble_eq_true rfl)⟩ ⟨(Nat.le_of_ble_eq_true rfl), (Nat.le_of_ble_eq_true rfl)⟩ dX9_milk_17 rfl rfl rfl ?_
    obtain ⟨ht20, hi20, M20, eM20, h⟩ := wI_i h
    refine q_iast cx (pc' := 21) ht20 hi20 eM20 dX9_milk_20 rfl ?_
    refine q_aload_n cx (pc' := 22) 0 rfl dX9_milk_21 rfl ?_
    obtain ⟨ht22, r22, ex22, h⟩ := gR_i h
    refine q_gR cx (pc' := 25) 9 2 fl_X9_16 rfl ht22 ex22 dX9_milk_22 rfl ?_
    refine q_iload_n cx (pc' := 26) 1 rfl dX9_milk_25 rfl ?_
    obtain ⟨ht26, hi26, x26, ex26, h⟩ := aI_i h
    refine q_iald cx (pc' := 27) ht26 hi26 ex26 dX9_milk_26 rfl ?_
    obtain ⟨rfl, rfl⟩ := o2_i h
    rw [hQ]
    exact q_iret cx dX9_milk_27
  · replace h := ip c5 h
    refine q_iconst cx (pc' := 9) ki_m1 dX9_milk_8 rfl ?_
    obtain ⟨rfl, rfl⟩ := o2_i h
    rw [hQ]
    exact q_iret cx dX9_milk_9

abbrev rm_X9_told : Room := { frames := 9, cells := 0, slots := 0, locals := 219 }
def fn_X9_told (M : QM) (ths : Nat) (p1 : Int32) : Option (Int32 × QM) :=
  if p1 = 0 then
    gI M ths 9 1 fun x41 =>
    some (x41, M)
  else if p1 = 1 then
    bnd (fn_X9_spoon M ths) fun c46 =>
    some (c46, M)
  else if p1 = 2 then
    bnd (fn_X9_lastOf M ths 3 10) fun c54 =>
    some (c54, M)
  else if p1 = 3 then
    bnd (fn_X9_crossers M ths) fun y59 =>
    pr2 y59 fun c59 M59 =>
    some (c59, M59)
  else if p1 = 4 then
    bnd (fn_X9_allStrong M ths) fun c64 =>
    some (c64, M)
  else if p1 = 5 then
    bnd (fn_X9_whose M ths) fun c69 =>
    some (c69, M)
  else 
    some ((-1), M)
set_option maxRecDepth 100000 in
set_option maxHeartbeats 4000000 in
theorem ct_X9_told (Γ : GT) (l : Launch) (M : QM) (ths : Nat) (p1 : Int32) (ht0 : mt M ths = 9) (z : Int32) (M' : QM) (h : fn_X9_told M ths p1 = some (z, M')) : CT Γ l yX9_told cX9_told 2 (some .int) rm_X9_told (.ref ths :: [.int p1]) M (some (.int z)) M' := by
  refine ct_intro (own := RX9) (L := [(0, .ref ths), (1, .int p1)]) (by decide +kernel) rfl (Nat.le_of_ble_eq_true rfl) rfl ?_
  intro p e s m args below meth c Q hQ cx hnm
  unfold fn_X9_told at h
  refine q_iload_n cx (pc' := 1) 1 rfl dX9_told_0 rfl ?_
  rcases Decidable.em (p1 = 0) with c1_0 | c1_0
  · replace h := ip c1_0 h
    refine q_tabIn cx (off := 39) (tgt := 40) c1_0 dX9_told_1 (by decide) (by decide) ?_
    refine q_aload_n cx (pc' := 41) 0 rfl dX9_told_40 rfl ?_
    obtain ⟨ht41, x41, ex41, h⟩ := gI_i h
    refine q_gI cx (pc' := 44) 9 1 fl_X9_13 rfl ht41 ex41 dX9_told_41 rfl ?_
    obtain ⟨rfl, rfl⟩ := o2_i h
    rw [hQ]
    exact q_iret cx dX9_told_44
  replace h := ine c1_0 h
  rcases Decidable.em (p1 = 1) with c1_1 | c1_1
  · replace h := ip c1_1 h
    refine q_tabIn cx (off := 44) (tgt := 45) c1_1 dX9_told_1 (by decide) (by decide) ?_
    refine q_aload_n cx (pc' := 46) 0 rfl dX9_told_45 rfl ?_
    obtain ⟨c46, hc46, h⟩ := bnd_i h
    refine q_callV cx (pc' := 49) (S := []) (S1 := [.int c46]) (kc' := 0) (ks' := 0) 9 (ct_X9_spoon Γ l M ths ht0 _ hc46) lki_X9_spoon lkv_X9_spoon lkc_X9_317 ht0 (r := (RX9, TX9, 70)) ⟨rfl, by decide, rfl⟩ rfl rfl (Nat.le_of_ble_eq_true rfl) ⟨(Nat.le_of_ble_eq_true rfl), (Nat.le_of_ble_eq_true rfl)⟩ ⟨(Nat.le_of_ble_eq_true rfl), (Nat.le_of_ble_eq_true rfl)⟩ dX9_told_46 rfl rfl rfl ?_
    obtain ⟨rfl, rfl⟩ := o2_i h
    rw [hQ]
    exact q_iret cx dX9_told_49
  replace h := ine c1_1 h
  rcases Decidable.em (p1 = 2) with c1_2 | c1_2
  · replace h := ip c1_2 h
    refine q_tabIn cx (off := 49) (tgt := 50) c1_2 dX9_told_1 (by decide) (by decide) ?_
    refine q_aload_n cx (pc' := 51) 0 rfl dX9_told_50 rfl ?_
    refine q_iconst cx (pc' := 52) ki_3 dX9_told_51 rfl ?_
    refine q_bipush cx (pc' := 54) kb_10 dX9_told_52 rfl ?_
    obtain ⟨c54, hc54, h⟩ := bnd_i h
    refine q_callV cx (pc' := 57) (S := []) (S1 := [.int c54]) (kc' := 0) (ks' := 0) 9 (ct_X9_lastOf Γ l M ths 3 10 ht0 _ hc54) lki_X9_lastOf lkv_X9_lastOf lkc_X9_305 ht0 (r := (RX9, TX9, 70)) ⟨rfl, by decide, rfl⟩ rfl rfl (Nat.le_of_ble_eq_true rfl) ⟨(Nat.le_of_ble_eq_true rfl), (Nat.le_of_ble_eq_true rfl)⟩ ⟨(Nat.le_of_ble_eq_true rfl), (Nat.le_of_ble_eq_true rfl)⟩ dX9_told_54 rfl rfl rfl ?_
    obtain ⟨rfl, rfl⟩ := o2_i h
    rw [hQ]
    exact q_iret cx dX9_told_57
  replace h := ine c1_2 h
  rcases Decidable.em (p1 = 3) with c1_3 | c1_3
  · replace h := ip c1_3 h
    refine q_tabIn cx (off := 57) (tgt := 58) c1_3 dX9_told_1 (by decide) (by decide) ?_
    refine q_aload_n cx (pc' := 59) 0 rfl dX9_told_58 rfl ?_
    obtain ⟨⟨c59, M59⟩, hc59, h⟩ := bnd_i h
    replace h := pr2_i h
    refine q_callV cx (pc' := 62) (S := []) (S1 := [.int c59]) (kc' := 0) (ks' := 0) 9 (ct_X9_crossers Γ l M ths ht0 _ _ hc59) lki_X9_crossers lkv_X9_crossers lkc_X9_351 ht0 (r := (RX9, TX9, 70)) ⟨rfl, by decide, rfl⟩ rfl rfl (Nat.le_of_ble_eq_true rfl) ⟨(Nat.le_of_ble_eq_true rfl), (Nat.le_of_ble_eq_true rfl)⟩ ⟨(Nat.le_of_ble_eq_true rfl), (Nat.le_of_ble_eq_true rfl)⟩ dX9_told_59 rfl rfl rfl ?_
    obtain ⟨rfl, rfl⟩ := o2_i h
    rw [hQ]
    exact q_iret cx dX9_told_62
  replace h := ine c1_3 h
  rcases Decidable.em (p1 = 4) with c1_4 | c1_4
  · replace h := ip c1_4 h
    refine q_tabIn cx (off := 62) (tgt := 63) c1_4 dX9_told_1 (by decide) (by decide) ?_
    refine q_aload_n cx (pc' := 64) 0 rfl dX9_told_63 rfl ?_
    obtain ⟨c64, hc64, h⟩ := bnd_i h
    refine q_callV cx (pc' := 67) (S := []) (S1 := [.int c64]) (kc' := 0) (ks' := 0) 9 (ct_X9_allStrong Γ l M ths ht0 _ hc64) lki_X9_allStrong lkv_X9_allStrong lkc_X9_354 ht0 (r := (RX9, TX9, 70)) ⟨rfl, by decide, rfl⟩ rfl rfl (Nat.le_of_ble_eq_true rfl) ⟨(Nat.le_of_ble_eq_true rfl), (Nat.le_of_ble_eq_true rfl)⟩ ⟨(Nat.le_of_ble_eq_true rfl), (Nat.le_of_ble_eq_true rfl)⟩ dX9_told_64 rfl rfl rfl ?_
    obtain ⟨rfl, rfl⟩ := o2_i h
    rw [hQ]
    exact q_iret cx dX9_told_67
  replace h := ine c1_4 h
  rcases Decidable.em (p1 = 5) with c1_5 | c1_5
  · replace h := ip c1_5 h
    refine q_tabIn cx (off := 67) (tgt := 68) c1_5 dX9_told_1 (by decide) (by decide) ?_
    refine q_aload_n cx (pc' := 69) 0 rfl dX9_told_68 rfl ?_
    obtain ⟨c69, hc69, h⟩ := bnd_i h
    refine q_callV cx (pc' := 72) (S := []) (S1 := [.int c69]) (kc' := 0) (ks' := 0) 9 (ct_X9_whose Γ l M ths ht0 _ hc69) lki_X9_whose lkv_X9_whose lkc_X9_357 ht0 (r := (RX9, TX9, 70)) ⟨rfl, by decide, rfl⟩ rfl rfl (Nat.le_of_ble_eq_true rfl) ⟨(Nat.le_of_ble_eq_true rfl), (Nat.le_of_ble_eq_true rfl)⟩ ⟨(Nat.le_of_ble_eq_true rfl), (Nat.le_of_ble_eq_true rfl)⟩ dX9_told_69 rfl rfl rfl ?_
    obtain ⟨rfl, rfl⟩ := o2_i h
    rw [hQ]
    exact q_iret cx dX9_told_72
  replace h := ine c1_5 h
  have nt1_0 := lv_neT c1_0 (a := 0) rfl
  have nt1_1 := lv_neT c1_1 (a := 1) rfl
  have nt1_2 := lv_neT c1_2 (a := 2) rfl
  have nt1_3 := lv_neT c1_3 (a := 3) rfl
  have nt1_4 := lv_neT c1_4 (a := 4) rfl
  have nt1_5 := lv_neT c1_5 (a := 5) rfl
  refine q_tabOut cx (tgt := 73) dX9_told_1 (by omega) (by decide) ?_
  refine q_iconst cx (pc' := 74) ki_m1 dX9_told_73 rfl ?_
  obtain ⟨rfl, rfl⟩ := o2_i h
  rw [hQ]
  exact q_iret cx dX9_told_74

abbrev rm_X9_print : Room := { frames := 2, cells := 0, slots := 0, locals := 63 }
def fn_X9_print (M : QM) (ths : Nat) (p1 : Int32) : Option (Int32 × QM) :=
  if (fn_X9_in p1 0 65535) = 0 then
    some ((-2), M)
  else
    gI M ths 9 29 fun x16 =>
    pI M ths 9 29 p1 fun M22 =>
    some (x16, M22)
set_option maxRecDepth 100000 in
set_option maxHeartbeats 4000000 in
theorem ct_X9_print (Γ : GT) (l : Launch) (M : QM) (ths : Nat) (p1 : Int32) (ht0 : mt M ths = 9) (z : Int32) (M' : QM) (h : fn_X9_print M ths p1 = some (z, M')) : CT Γ l yX9_print cX9_print 3 (some .int) rm_X9_print (.ref ths :: [.int p1]) M (some (.int z)) M' := by
  refine ct_intro (own := RX9) (L := [(0, .ref ths), (1, .int p1)]) (by decide +kernel) rfl (Nat.le_of_ble_eq_true rfl) rfl ?_
  intro p e s m args below meth c Q hQ cx hnm
  unfold fn_X9_print at h
  refine q_aload_n cx (pc' := 1) 0 rfl dX9_print_0 rfl ?_
  refine q_iload_n cx (pc' := 2) 1 rfl dX9_print_1 rfl ?_
  refine q_iconst cx (pc' := 3) ki_0 dX9_print_2 rfl ?_
  refine q_ldcw cx (pc' := 6) aw_153 dX9_print_3 rfl ?_
  refine q_callV cx (pc' := 9) (S := []) (S1 := [.int (fn_X9_in p1 0 65535)]) (kc' := 0) (ks' := 0) 9 (ct_X9_in Γ l M ths p1 0 65535 ht0) lki_X9_in lkv_X9_in lkc_X9_224 ht0 (r := (RX9, TX9, 70)) ⟨rfl, by decide, rfl⟩ rfl rfl (Nat.le_of_ble_eq_true rfl) ⟨(Nat.le_of_ble_eq_true rfl), (Nat.le_of_ble_eq_true rfl)⟩ ⟨(Nat.le_of_ble_eq_true rfl), (Nat.le_of_ble_eq_true rfl)⟩ dX9_print_6 rfl rfl rfl ?_
  refine q_if_ne cx (pc' := 12) (tgt := 15) dX9_print_9 (by decide) rfl (fun c9 => ?_) (fun c9 => ?_)
  · replace h := ine c9 h
    refine q_aload_n cx (pc' := 16) 0 rfl dX9_print_15 rfl ?_
    obtain ⟨ht16, x16, ex16, h⟩ := gI_i h
    refine q_gI cx (pc' := 19) 9 29 fl_X9_99 rfl ht16 ex16 dX9_print_16 rfl ?_
    refine q_istore_n cx (pc' := 20) rfl rfl (by decide) (L' := [(2, .int x16), (0, .ref ths), (1, .int p1)]) rfl dX9_print_19 rfl ?_
    refine q_aload_n cx (pc' := 21) 1 rfl dX9_print_20 rfl ?_
    refine q_iload_n cx (pc' := 22) 2 rfl dX9_print_21 rfl ?_
    obtain ⟨ht22, M22, eM22, h⟩ := pI_i h
    refine q_pI cx (pc' := 25) 9 29 fl_X9_99 rfl ht22 (ty := .int) ⟨(RX9, TX9, 70), rfl, by decide +kernel, Or.inl rfl⟩ rfl rfl eM22 dX9_print_22 rfl ?_
    refine q_iload_n cx (pc' := 26) 0 rfl dX9_print_25 rfl ?_
    obtain ⟨rfl, rfl⟩ := o2_i h
    rw [hQ]
    exact q_iret cx dX9_print_26
  · replace h := ip c9 h
    refine q_bipush cx (pc' := 14) kb_m2 dX9_print_12 rfl ?_
    obtain ⟨rfl, rfl⟩ := o2_i h
    rw [hQ]
    exact q_iret cx dX9_print_14

abbrev rm_X9_goCell : Room := { frames := 4, cells := 0, slots := 0, locals := 112 }
def fn_X9_goCell (M : QM) (ths : Nat) (p1 : Int32) : Option QM :=
  gR M ths 9 2 fun r2 =>
  aI M 20 r2 p1 fun x6 =>
  bnd (fn_X9_grows M ths p1) fun y9 =>
  pr2 y9 fun c9 M9 =>
  ck M9 ths 9 <|
  nm (fn_X9_least0 (x6 + c9)) fun v2_16 =>
  gR M9 ths 9 2 fun r18 =>
  if v2_16 ≤ 99 then
    wI M9 20 r18 p1 v2_16 fun M34 =>
    some M34
  else
    wI M9 20 r18 p1 99 fun M34 =>
    some M34
set_option maxRecDepth 100000 in
set_option maxHeartbeats 4000000 in
theorem ct_X9_goCell (Γ : GT) (l : Launch) (M : QM) (ths : Nat) (p1 : Int32) (ht0 : mt M ths = 9) (M' : QM) (h : fn_X9_goCell M ths p1 = some M') : CT Γ l yX9_goCell cX9_goCell 3 none rm_X9_goCell (.ref ths :: [.int p1]) M none M' := by
  refine ct_intro (own := RX9) (L := [(0, .ref ths), (1, .int p1)]) (by decide +kernel) rfl (Nat.le_of_ble_eq_true rfl) rfl ?_
  intro p e s m args below meth c Q hQ cx hnm
  unfold fn_X9_goCell at h
  refine q_aload_n cx (pc' := 1) 0 rfl dX9_goCell_0 rfl ?_
  refine q_aload_n cx (pc' := 2) 0 rfl dX9_goCell_1 rfl ?_
  obtain ⟨ht2, r2, ex2, h⟩ := gR_i h
  refine q_gR cx (pc' := 5) 9 2 fl_X9_16 rfl ht2 ex2 dX9_goCell_2 rfl ?_
  refine q_iload_n cx (pc' := 6) 1 rfl dX9_goCell_5 rfl ?_
  obtain ⟨ht6, hi6, x6, ex6, h⟩ := aI_i h
  refine q_iald cx (pc' := 7) ht6 hi6 ex6 dX9_goCell_6 rfl ?_
  refine q_aload_n cx (pc' := 8) 0 rfl dX9_goCell_7 rfl ?_
  refine q_iload_n cx (pc' := 9) 1 rfl dX9_goCell_8 rfl ?_
  obtain ⟨⟨c9, M9⟩, hc9, h⟩ := bnd_i h
  replace h := pr2_i h
  refine q_callV cx (pc' := 12) (S := [.int x6, .ref ths]) (S1 := [.int c9, .int x6, .ref ths]) (kc' := 0) (ks' := 0) 9 (ct_X9_grows Γ l M ths p1 ht0 _ _ hc9) lki_X9_grows lkv_X9_grows lkc_X9_345 ht0 (r := (RX9, TX9, 70)) ⟨rfl, by decide, rfl⟩ rfl rfl (Nat.le_of_ble_eq_true rfl) ⟨(Nat.le_of_ble_eq_true rfl), (Nat.le_of_ble_eq_true rfl)⟩ ⟨(Nat.le_of_ble_eq_true rfl), (Nat.le_of_ble_eq_true rfl)⟩ dX9_goCell_9 rfl rfl rfl ?_
  refine q_iadd cx (pc' := 13) dX9_goCell_12 rfl ?_
  obtain ⟨hk13, h⟩ := ck_i h
  refine q_callV cx (pc' := 16) (S := []) (S1 := [.int (fn_X9_least0 (x6 + c9))]) (kc' := 0) (ks' := 0) 9 (ct_X9_least0 Γ l M9 ths (x6 + c9) hk13) lki_X9_least0 lkv_X9_least0 lkc_X9_308 hk13 (r := (RX9, TX9, 70)) ⟨rfl, by decide, rfl⟩ rfl rfl (Nat.le_of_ble_eq_true rfl) ⟨(Nat.le_of_ble_eq_true rfl), (Nat.le_of_ble_eq_true rfl)⟩ ⟨(Nat.le_of_ble_eq_true rfl), (Nat.le_of_ble_eq_true rfl)⟩ dX9_goCell_13 rfl rfl rfl ?_
  obtain ⟨v2_16, ev2_16, h⟩ := nm_i h
  refine q_istore_n cx (pc' := 17) rfl ev2_16 (by decide) (L' := [(2, .int v2_16), (0, .ref ths), (1, .int p1)]) rfl dX9_goCell_16 rfl ?_
  refine q_aload_n cx (pc' := 18) 1 rfl dX9_goCell_17 rfl ?_
  obtain ⟨ht18, r18, ex18, h⟩ := gR_i h
  refine q_gR cx (pc' := 21) 9 2 fl_X9_16 rfl ht18 ex18 dX9_goCell_18 rfl ?_
  refine q_iload_n cx (pc' := 22) 2 rfl dX9_goCell_21 rfl ?_
  refine q_iload_n cx (pc' := 23) 0 rfl dX9_goCell_22 rfl ?_
  refine q_bipush cx (pc' := 25) kb_99 dX9_goCell_23 rfl ?_
  refine q_icmp_le cx (pc' := 28) (tgt := 33) dX9_goCell_25 (by decide) rfl (fun c25 => ?_) (fun c25 => ?_)
  · replace h := ip c25 h
    refine q_iload_n cx (pc' := 34) 0 rfl dX9_goCell_33 rfl ?_
    obtain ⟨ht34, hi34, M34, eM34, h⟩ := wI_i h
    refine q_iast cx (pc' := 35) ht34 hi34 eM34 dX9_goCell_34 rfl ?_
    obtain rfl := o1_i h
    rw [hQ]
    exact q_vret cx dX9_goCell_35
  · replace h := ine c25 h
    refine q_bipush cx (pc' := 30) kb_99 dX9_goCell_28 rfl ?_
    refine q_goto cx dX9_goCell_30 (tgt := 34) (by decide) ?_
    obtain ⟨ht34, hi34, M34, eM34, h⟩ := wI_i h
    refine q_iast cx (pc' := 35) ht34 hi34 eM34 dX9_goCell_34 rfl ?_
    obtain rfl := o1_i h
    rw [hQ]
    exact q_vret cx dX9_goCell_35

abbrev rm_X9_goMinute : Room := { frames := 5, cells := 0, slots := 0, locals := 134 }
def lp_X9_goMinute_2 (ths : Nat) (w1_2 : Int32) (Mw_2 : QM) : Option ((Int32 × QM) ⊕ (QM)) :=
  if 16 ≤ w1_2 then
    some (.inr Mw_2)
  else
    ck Mw_2 ths 9 <|
    bnd (fn_X9_goCell Mw_2 ths w1_2) fun M10 =>
    nm (w1_2 + 1) fun v1_13 =>
    some (.inl (v1_13, M10))
def fn_X9_goMinute (M : QM) (ths : Nat) : Option QM :=
  bnd (itr (fun s2 : Int32 × QM => lp_X9_goMinute_2 ths s2.1 s2.2) FU (0, M)) fun Me_2 =>
  gI Me_2 ths 9 1 fun x21 =>
  pI Me_2 ths 9 1 (x21 + 1) fun M26 =>
  some M26
set_option maxRecDepth 100000 in
set_option maxHeartbeats 4000000 in
theorem ct_X9_goMinute (Γ : GT) (l : Launch) (M : QM) (ths : Nat) (ht0 : mt M ths = 9) (M' : QM) (h : fn_X9_goMinute M ths = some M') : CT Γ l yX9_goMinute cX9_goMinute 2 none rm_X9_goMinute (.ref ths :: []) M none M' := by
  refine ct_intro (own := RX9) (L := [(0, .ref ths)]) (by decide +kernel) rfl (Nat.le_of_ble_eq_true rfl) rfl ?_
  intro p e s m args below meth c Q hQ cx hnm
  unfold fn_X9_goMinute at h
  refine q_iconst cx (pc' := 1) ki_0 dX9_goMinute_0 rfl ?_
  refine q_istore_n cx (pc' := 2) rfl rfl (by decide) (L' := [(1, .int 0), (0, .ref ths)]) rfl dX9_goMinute_1 rfl ?_
  obtain ⟨r2, hL2, h⟩ := bnd_i h
  have hk2_0 : ∀ (Me_2 : QM), Me_2 = r2 → EE p l e rm_X9_goMinute s m args below meth c Q Γ 2 0 0 19 [(0, .ref ths)] [] Me_2 := by
    intro Me_2 hp
    subst hp
    refine q_aload_n cx (pc' := 20) 0 rfl dX9_goMinute_19 rfl ?_
    refine q_dup cx (pc' := 21) rfl dX9_goMinute_20 rfl ?_
    obtain ⟨ht21, x21, ex21, h⟩ := gI_i h
    refine q_gI cx (pc' := 24) 9 1 fl_X9_13 rfl ht21 ex21 dX9_goMinute_21 rfl ?_
    refine q_iconst cx (pc' := 25) ki_1 dX9_goMinute_24 rfl ?_
    refine q_iadd cx (pc' := 26) dX9_goMinute_25 rfl ?_
    obtain ⟨ht26, M26, eM26, h⟩ := pI_i h
    refine q_pI cx (pc' := 29) 9 1 fl_X9_13 rfl ht26 (ty := .int) ⟨(RX9, TX9, 70), rfl, by decide +kernel, Or.inl rfl⟩ rfl rfl eM26 dX9_goMinute_26 rfl ?_
    obtain rfl := o1_i h
    rw [hQ]
    exact q_vret cx dX9_goMinute_29
  have key2 : ∀ (n : Nat) (w1_2 : Int32) (Mw_2 : QM), itr (fun s2 : Int32 × QM => lp_X9_goMinute_2 ths s2.1 s2.2) n (w1_2, Mw_2) = some r2 → EE p l e rm_X9_goMinute s m args below meth c Q Γ 2 0 0 2 [(0, .ref ths), (1, .int w1_2)] [] Mw_2 := by
    intro n
    induction n with
    | zero => intro _ _ h; exact (itr_0 h).elim
    | succ n ih =>
      intro w1_2 Mw_2 h
      obtain ⟨z2, h, hz2⟩ := itr_i h
      replace h : lp_X9_goMinute_2 ths w1_2 Mw_2 = some z2 := h
      unfold lp_X9_goMinute_2 at h
      refine q_iload_n cx (pc' := 3) 1 rfl dX9_goMinute_2 rfl ?_
      refine q_bipush cx (pc' := 5) kb_16 dX9_goMinute_3 rfl ?_
      refine q_icmp_ge cx (pc' := 8) (tgt := 19) dX9_goMinute_5 (by decide) rfl (fun c5 => ?_) (fun c5 => ?_)
      · replace h := ip c5 h
        refine q_sub cx [0] rfl ?_
        exact hk2_0 _ (hz2.2 _ h)
      · replace h := ine c5 h
        refine q_aload_n cx (pc' := 9) 0 rfl dX9_goMinute_8 rfl ?_
        refine q_iload_n cx (pc' := 10) 1 rfl dX9_goMinute_9 rfl ?_
        obtain ⟨hk10, h⟩ := ck_i h
        obtain ⟨M10, hc10, h⟩ := bnd_i h
        refine q_callV cx (pc' := 13) (S := []) (S1 := []) (kc' := 0) (ks' := 0) 9 (ct_X9_goCell Γ l Mw_2 ths w1_2 hk10 _ hc10) lki_X9_goCell lkv_X9_goCell lkc_X9_361 hk10 (r := (RX9, TX9, 70)) ⟨rfl, by decide, rfl⟩ rfl rfl (Nat.le_of_ble_eq_true rfl) ⟨(Nat.le_of_ble_eq_true rfl), (Nat.le_of_ble_eq_true rfl)⟩ ⟨(Nat.le_of_ble_eq_true rfl), (Nat.le_of_ble_eq_true rfl)⟩ dX9_goMinute_10 rfl rfl rfl ?_
        obtain ⟨v1_13, ev1_13, h⟩ := nm_i h
        refine q_iinc cx (pc' := 16) 1 rfl ki_1 ev1_13 (by decide) (L' := [(1, .int v1_13), (0, .ref ths)]) rfl dX9_goMinute_13 rfl ?_
        refine q_goto cx dX9_goMinute_16 (tgt := 2) (by decide) ?_
        refine q_sub cx [1, 0] rfl ?_
        exact ih _ _ (hz2.1 _ h)
  refine q_sub cx [1, 0] rfl ?_
  exact key2 FU _ _ hL2

abbrev rm_X9_goMinutes : Room := { frames := 6, cells := 0, slots := 0, locals := 155 }
def lp_X9_goMinutes_2 (ths : Nat) (p1 : Int32) (w2_2 : Int32) (Mw_2 : QM) : Option ((Int32 × QM) ⊕ (QM)) :=
  if p1 ≤ w2_2 then
    some (.inr Mw_2)
  else
    ck Mw_2 ths 9 <|
    bnd (fn_X9_goMinute Mw_2 ths) fun M8 =>
    nm (w2_2 + 1) fun v2_11 =>
    some (.inl (v2_11, M8))
def fn_X9_goMinutes (M : QM) (ths : Nat) (p1 : Int32) : Option QM :=
  bnd (itr (fun s2 : Int32 × QM => lp_X9_goMinutes_2 ths p1 s2.1 s2.2) FU (0, M)) fun Mr_2 =>
  some Mr_2
set_option maxRecDepth 100000 in
set_option maxHeartbeats 4000000 in
theorem ct_X9_goMinutes (Γ : GT) (l : Launch) (M : QM) (ths : Nat) (p1 : Int32) (ht0 : mt M ths = 9) (M' : QM) (h : fn_X9_goMinutes M ths p1 = some M') : CT Γ l yX9_goMinutes cX9_goMinutes 3 none rm_X9_goMinutes (.ref ths :: [.int p1]) M none M' := by
  refine ct_intro (own := RX9) (L := [(0, .ref ths), (1, .int p1)]) (by decide +kernel) rfl (Nat.le_of_ble_eq_true rfl) rfl ?_
  intro p e s m args below meth c Q hQ cx hnm
  unfold fn_X9_goMinutes at h
  refine q_iconst cx (pc' := 1) ki_0 dX9_goMinutes_0 rfl ?_
  refine q_istore_n cx (pc' := 2) rfl rfl (by decide) (L' := [(2, .int 0), (0, .ref ths), (1, .int p1)]) rfl dX9_goMinutes_1 rfl ?_
  obtain ⟨r2, hL2, h⟩ := bnd_i h
  have hk2_r : ∀ (Mr_2 : QM), Mr_2 = r2 → some Mr_2 = some M' := by
    intro Mr_2 hp
    subst hp
    exact h
  have key2 : ∀ (n : Nat) (w2_2 : Int32) (Mw_2 : QM), itr (fun s2 : Int32 × QM => lp_X9_goMinutes_2 ths p1 s2.1 s2.2) n (w2_2, Mw_2) = some r2 → EE p l e rm_X9_goMinutes s m args below meth c Q Γ 3 0 0 2 [(0, .ref ths), (1, .int p1), (2, .int w2_2)] [] Mw_2 := by
    intro n
    induction n with
    | zero => intro _ _ h; exact (itr_0 h).elim
    | succ n ih =>
      intro w2_2 Mw_2 h
      obtain ⟨z2, h, hz2⟩ := itr_i h
      replace h : lp_X9_goMinutes_2 ths p1 w2_2 Mw_2 = some z2 := h
      unfold lp_X9_goMinutes_2 at h
      refine q_iload_n cx (pc' := 3) 2 rfl dX9_goMinutes_2 rfl ?_
      refine q_iload_n cx (pc' := 4) 1 rfl dX9_goMinutes_3 rfl ?_
      refine q_icmp_ge cx (pc' := 7) (tgt := 17) dX9_goMinutes_4 (by decide) rfl (fun c4 => ?_) (fun c4 => ?_)
      · replace h := ip c4 h
        replace h := hk2_r _ (hz2.2 _ h)
        obtain rfl := o1_i h
        rw [hQ]
        exact q_vret cx dX9_goMinutes_17
      · replace h := ine c4 h
        refine q_aload_n cx (pc' := 8) 0 rfl dX9_goMinutes_7 rfl ?_
        obtain ⟨hk8, h⟩ := ck_i h
        obtain ⟨M8, hc8, h⟩ := bnd_i h
        refine q_callV cx (pc' := 11) (S := []) (S1 := []) (kc' := 0) (ks' := 0) 9 (ct_X9_goMinute Γ l Mw_2 ths hk8 _ hc8) lki_X9_goMinute lkv_X9_goMinute lkc_X9_364 hk8 (r := (RX9, TX9, 70)) ⟨rfl, by decide, rfl⟩ rfl rfl (Nat.le_of_ble_eq_true rfl) ⟨(Nat.le_of_ble_eq_true rfl), (Nat.le_of_ble_eq_true rfl)⟩ ⟨(Nat.le_of_ble_eq_true rfl), (Nat.le_of_ble_eq_true rfl)⟩ dX9_goMinutes_8 rfl rfl rfl ?_
        obtain ⟨v2_11, ev2_11, h⟩ := nm_i h
        refine q_iinc cx (pc' := 14) 2 rfl ki_1 ev2_11 (by decide) (L' := [(2, .int v2_11), (0, .ref ths), (1, .int p1)]) rfl dX9_goMinutes_11 rfl ?_
        refine q_goto cx dX9_goMinutes_14 (tgt := 2) (by decide) ?_
        refine q_sub cx [1, 2, 0] rfl ?_
        exact ih _ _ (hz2.1 _ h)
  refine q_sub cx [1, 2, 0] rfl ?_
  exact key2 FU _ _ hL2

abbrev rm_X9_pass : Room := { frames := 7, cells := 0, slots := 0, locals := 177 }
def fn_X9_pass (M : QM) (ths : Nat) (p1 : Int32) : Option (Int32 × QM) :=
  if (fn_X9_isMinutes p1) = 0 then
    some ((-2), M)
  else
    gI M ths 9 1 fun x12 =>
    if (x12 + p1) ≤ 9999 then
      bnd (fn_X9_goMinutes M ths p1) fun M28 =>
      gI M28 ths 9 1 fun x32 =>
      some (x32, M28)
    else
      some ((-3), M)
set_option maxRecDepth 100000 in
set_option maxHeartbeats 4000000 in
theorem ct_X9_pass (Γ : GT) (l : Launch) (M : QM) (ths : Nat) (p1 : Int32) (ht0 : mt M ths = 9) (z : Int32) (M' : QM) (h : fn_X9_pass M ths p1 = some (z, M')) : CT Γ l yX9_pass cX9_pass 2 (some .int) rm_X9_pass (.ref ths :: [.int p1]) M (some (.int z)) M' := by
  refine ct_intro (own := RX9) (L := [(0, .ref ths), (1, .int p1)]) (by decide +kernel) rfl (Nat.le_of_ble_eq_true rfl) rfl ?_
  intro p e s m args below meth c Q hQ cx hnm
  unfold fn_X9_pass at h
  refine q_aload_n cx (pc' := 1) 0 rfl dX9_pass_0 rfl ?_
  refine q_iload_n cx (pc' := 2) 1 rfl dX9_pass_1 rfl ?_
  refine q_callV cx (pc' := 5) (S := []) (S1 := [.int (fn_X9_isMinutes p1)]) (kc' := 0) (ks' := 0) 9 (ct_X9_isMinutes Γ l M ths p1 ht0) lki_X9_isMinutes lkv_X9_isMinutes lkc_X9_367 ht0 (r := (RX9, TX9, 70)) ⟨rfl, by decide, rfl⟩ rfl rfl (Nat.le_of_ble_eq_true rfl) ⟨(Nat.le_of_ble_eq_true rfl), (Nat.le_of_ble_eq_true rfl)⟩ ⟨(Nat.le_of_ble_eq_true rfl), (Nat.le_of_ble_eq_true rfl)⟩ dX9_pass_2 rfl rfl rfl ?_
  refine q_if_ne cx (pc' := 8) (tgt := 11) dX9_pass_5 (by decide) rfl (fun c5 => ?_) (fun c5 => ?_)
  · replace h := ine c5 h
    refine q_aload_n cx (pc' := 12) 0 rfl dX9_pass_11 rfl ?_
    obtain ⟨ht12, x12, ex12, h⟩ := gI_i h
    refine q_gI cx (pc' := 15) 9 1 fl_X9_13 rfl ht12 ex12 dX9_pass_12 rfl ?_
    refine q_iload_n cx (pc' := 16) 1 rfl dX9_pass_15 rfl ?_
    refine q_iadd cx (pc' := 17) dX9_pass_16 rfl ?_
    refine q_sipush cx (pc' := 20) ks_9999 dX9_pass_17 rfl ?_
    refine q_icmp_le cx (pc' := 23) (tgt := 26) dX9_pass_20 (by decide) rfl (fun c20 => ?_) (fun c20 => ?_)
    · replace h := ip c20 h
      refine q_aload_n cx (pc' := 27) 0 rfl dX9_pass_26 rfl ?_
      refine q_iload_n cx (pc' := 28) 1 rfl dX9_pass_27 rfl ?_
      obtain ⟨M28, hc28, h⟩ := bnd_i h
      refine q_callV cx (pc' := 31) (S := []) (S1 := []) (kc' := 0) (ks' := 0) 9 (ct_X9_goMinutes Γ l M ths p1 ht0 _ hc28) lki_X9_goMinutes lkv_X9_goMinutes lkc_X9_370 ht0 (r := (RX9, TX9, 70)) ⟨rfl, by decide, rfl⟩ rfl rfl (Nat.le_of_ble_eq_true rfl) ⟨(Nat.le_of_ble_eq_true rfl), (Nat.le_of_ble_eq_true rfl)⟩ ⟨(Nat.le_of_ble_eq_true rfl), (Nat.le_of_ble_eq_true rfl)⟩ dX9_pass_28 rfl rfl rfl ?_
      refine q_aload_n cx (pc' := 32) 0 rfl dX9_pass_31 rfl ?_
      obtain ⟨ht32, x32, ex32, h⟩ := gI_i h
      refine q_gI cx (pc' := 35) 9 1 fl_X9_13 rfl ht32 ex32 dX9_pass_32 rfl ?_
      obtain ⟨rfl, rfl⟩ := o2_i h
      rw [hQ]
      exact q_iret cx dX9_pass_35
    · replace h := ine c20 h
      refine q_bipush cx (pc' := 25) kb_m3 dX9_pass_23 rfl ?_
      obtain ⟨rfl, rfl⟩ := o2_i h
      rw [hQ]
      exact q_iret cx dX9_pass_25
  · replace h := ip c5 h
    refine q_bipush cx (pc' := 10) kb_m2 dX9_pass_8 rfl ?_
    obtain ⟨rfl, rfl⟩ := o2_i h
    rw [hQ]
    exact q_iret cx dX9_pass_10

abbrev rm_X9_save : Room := { frames := 1, cells := 0, slots := 0, locals := 40 }
def lp_X9_save_10 (ths : Nat) (w1_10 : Int32) (Mw_10 : QM) : Option ((Int32 × QM) ⊕ (QM)) :=
  if 16 ≤ w1_10 then
    some (.inr Mw_10)
  else
    gR Mw_10 ths 9 31 fun r17 =>
    gR Mw_10 ths 9 2 fun r22 =>
    aI Mw_10 20 r22 w1_10 fun x26 =>
    wI Mw_10 20 r17 w1_10 x26 fun M27 =>
    nm (w1_10 + 1) fun v1_28 =>
    some (.inl (v1_28, M27))
def fn_X9_save (M : QM) (ths : Nat) : Option QM :=
  gI M ths 9 1 fun x2 =>
  pI M ths 9 30 x2 fun M5 =>
  bnd (itr (fun s10 : Int32 × QM => lp_X9_save_10 ths s10.1 s10.2) FU (0, M5)) fun Mr_10 =>
  some Mr_10
set_option maxRecDepth 100000 in
set_option maxHeartbeats 4000000 in
theorem ct_X9_save (Γ : GT) (l : Launch) (M : QM) (ths : Nat) (ht0 : mt M ths = 9) (M' : QM) (h : fn_X9_save M ths = some M') : CT Γ l yX9_save cX9_save 2 none rm_X9_save (.ref ths :: []) M none M' := by
  refine ct_intro (own := RX9) (L := [(0, .ref ths)]) (by decide +kernel) rfl (Nat.le_of_ble_eq_true rfl) rfl ?_
  intro p e s m args below meth c Q hQ cx hnm
  unfold fn_X9_save at h
  refine q_aload_n cx (pc' := 1) 0 rfl dX9_save_0 rfl ?_
  refine q_aload_n cx (pc' := 2) 0 rfl dX9_save_1 rfl ?_
  obtain ⟨ht2, x2, ex2, h⟩ := gI_i h
  refine q_gI cx (pc' := 5) 9 1 fl_X9_13 rfl ht2 ex2 dX9_save_2 rfl ?_
  obtain ⟨ht5, M5, eM5, h⟩ := pI_i h
  refine q_pI cx (pc' := 8) 9 30 fl_X9_102 rfl ht5 (ty := .int) ⟨(RX9, TX9, 70), rfl, by decide +kernel, Or.inl rfl⟩ rfl rfl eM5 dX9_save_5 rfl ?_
  refine q_iconst cx (pc' := 9) ki_0 dX9_save_8 rfl ?_
  refine q_istore_n cx (pc' := 10) rfl rfl (by decide) (L' := [(1, .int 0), (0, .ref ths)]) rfl dX9_save_9 rfl ?_
  obtain ⟨r10, hL10, h⟩ := bnd_i h
  have hk10_r : ∀ (Mr_10 : QM), Mr_10 = r10 → some Mr_10 = some M' := by
    intro Mr_10 hp
    subst hp
    exact h
  have key10 : ∀ (n : Nat) (w1_10 : Int32) (Mw_10 : QM), itr (fun s10 : Int32 × QM => lp_X9_save_10 ths s10.1 s10.2) n (w1_10, Mw_10) = some r10 → EE p l e rm_X9_save s m args below meth c Q Γ 2 0 0 10 [(0, .ref ths), (1, .int w1_10)] [] Mw_10 := by
    intro n
    induction n with
    | zero => intro _ _ h; exact (itr_0 h).elim
    | succ n ih =>
      intro w1_10 Mw_10 h
      obtain ⟨z10, h, hz10⟩ := itr_i h
      replace h : lp_X9_save_10 ths w1_10 Mw_10 = some z10 := h
      unfold lp_X9_save_10 at h
      refine q_iload_n cx (pc' := 11) 1 rfl dX9_save_10 rfl ?_
      refine q_bipush cx (pc' := 13) kb_16 dX9_save_11 rfl ?_
      refine q_icmp_ge cx (pc' := 16) (tgt := 34) dX9_save_13 (by decide) rfl (fun c13 => ?_) (fun c13 => ?_)
      · replace h := ip c13 h
        replace h := hk10_r _ (hz10.2 _ h)
        obtain rfl := o1_i h
        rw [hQ]
        exact q_vret cx dX9_save_34
      · replace h := ine c13 h
        refine q_aload_n cx (pc' := 17) 0 rfl dX9_save_16 rfl ?_
        obtain ⟨ht17, r17, ex17, h⟩ := gR_i h
        refine q_gR cx (pc' := 20) 9 31 fl_X9_105 rfl ht17 ex17 dX9_save_17 rfl ?_
        refine q_iload_n cx (pc' := 21) 1 rfl dX9_save_20 rfl ?_
        refine q_aload_n cx (pc' := 22) 0 rfl dX9_save_21 rfl ?_
        obtain ⟨ht22, r22, ex22, h⟩ := gR_i h
        refine q_gR cx (pc' := 25) 9 2 fl_X9_16 rfl ht22 ex22 dX9_save_22 rfl ?_
        refine q_iload_n cx (pc' := 26) 1 rfl dX9_save_25 rfl ?_
        obtain ⟨ht26, hi26, x26, ex26, h⟩ := aI_i h
        refine q_iald cx (pc' := 27) ht26 hi26 ex26 dX9_save_26 rfl ?_
        obtain ⟨ht27, hi27, M27, eM27, h⟩ := wI_i h
        refine q_iast cx (pc' := 28) ht27 hi27 eM27 dX9_save_27 rfl ?_
        obtain ⟨v1_28, ev1_28, h⟩ := nm_i h
        refine q_iinc cx (pc' := 31) 1 rfl ki_1 ev1_28 (by decide) (L' := [(1, .int v1_28), (0, .ref ths)]) rfl dX9_save_28 rfl ?_
        refine q_goto cx dX9_save_31 (tgt := 10) (by decide) ?_
        refine q_sub cx [1, 0] rfl ?_
        exact ih _ _ (hz10.1 _ h)
  refine q_sub cx [1, 0] rfl ?_
  exact key10 FU _ _ hL10

abbrev rm_X9_putBack : Room := { frames := 1, cells := 0, slots := 0, locals := 40 }
def lp_X9_putBack_10 (ths : Nat) (w1_10 : Int32) (Mw_10 : QM) : Option ((Int32 × QM) ⊕ (QM)) :=
  if 16 ≤ w1_10 then
    some (.inr Mw_10)
  else
    gR Mw_10 ths 9 2 fun r17 =>
    gR Mw_10 ths 9 31 fun r22 =>
    aI Mw_10 20 r22 w1_10 fun x26 =>
    wI Mw_10 20 r17 w1_10 x26 fun M27 =>
    nm (w1_10 + 1) fun v1_28 =>
    some (.inl (v1_28, M27))
def fn_X9_putBack (M : QM) (ths : Nat) : Option QM :=
  gI M ths 9 30 fun x2 =>
  pI M ths 9 1 x2 fun M5 =>
  bnd (itr (fun s10 : Int32 × QM => lp_X9_putBack_10 ths s10.1 s10.2) FU (0, M5)) fun Mr_10 =>
  some Mr_10
set_option maxRecDepth 100000 in
set_option maxHeartbeats 4000000 in
theorem ct_X9_putBack (Γ : GT) (l : Launch) (M : QM) (ths : Nat) (ht0 : mt M ths = 9) (M' : QM) (h : fn_X9_putBack M ths = some M') : CT Γ l yX9_putBack cX9_putBack 2 none rm_X9_putBack (.ref ths :: []) M none M' := by
  refine ct_intro (own := RX9) (L := [(0, .ref ths)]) (by decide +kernel) rfl (Nat.le_of_ble_eq_true rfl) rfl ?_
  intro p e s m args below meth c Q hQ cx hnm
  unfold fn_X9_putBack at h
  refine q_aload_n cx (pc' := 1) 0 rfl dX9_putBack_0 rfl ?_
  refine q_aload_n cx (pc' := 2) 0 rfl dX9_putBack_1 rfl ?_
  obtain ⟨ht2, x2, ex2, h⟩ := gI_i h
  refine q_gI cx (pc' := 5) 9 30 fl_X9_102 rfl ht2 ex2 dX9_putBack_2 rfl ?_
  obtain ⟨ht5, M5, eM5, h⟩ := pI_i h
  refine q_pI cx (pc' := 8) 9 1 fl_X9_13 rfl ht5 (ty := .int) ⟨(RX9, TX9, 70), rfl, by decide +kernel, Or.inl rfl⟩ rfl rfl eM5 dX9_putBack_5 rfl ?_
  refine q_iconst cx (pc' := 9) ki_0 dX9_putBack_8 rfl ?_
  refine q_istore_n cx (pc' := 10) rfl rfl (by decide) (L' := [(1, .int 0), (0, .ref ths)]) rfl dX9_putBack_9 rfl ?_
  obtain ⟨r10, hL10, h⟩ := bnd_i h
  have hk10_r : ∀ (Mr_10 : QM), Mr_10 = r10 → some Mr_10 = some M' := by
    intro Mr_10 hp
    subst hp
    exact h
  have key10 : ∀ (n : Nat) (w1_10 : Int32) (Mw_10 : QM), itr (fun s10 : Int32 × QM => lp_X9_putBack_10 ths s10.1 s10.2) n (w1_10, Mw_10) = some r10 → EE p l e rm_X9_putBack s m args below meth c Q Γ 2 0 0 10 [(0, .ref ths), (1, .int w1_10)] [] Mw_10 := by
    intro n
    induction n with
    | zero => intro _ _ h; exact (itr_0 h).elim
    | succ n ih =>
      intro w1_10 Mw_10 h
      obtain ⟨z10, h, hz10⟩ := itr_i h
      replace h : lp_X9_putBack_10 ths w1_10 Mw_10 = some z10 := h
      unfold lp_X9_putBack_10 at h
      refine q_iload_n cx (pc' := 11) 1 rfl dX9_putBack_10 rfl ?_
      refine q_bipush cx (pc' := 13) kb_16 dX9_putBack_11 rfl ?_
      refine q_icmp_ge cx (pc' := 16) (tgt := 34) dX9_putBack_13 (by decide) rfl (fun c13 => ?_) (fun c13 => ?_)
      · replace h := ip c13 h
        replace h := hk10_r _ (hz10.2 _ h)
        obtain rfl := o1_i h
        rw [hQ]
        exact q_vret cx dX9_putBack_34
      · replace h := ine c13 h
        refine q_aload_n cx (pc' := 17) 0 rfl dX9_putBack_16 rfl ?_
        obtain ⟨ht17, r17, ex17, h⟩ := gR_i h
        refine q_gR cx (pc' := 20) 9 2 fl_X9_16 rfl ht17 ex17 dX9_putBack_17 rfl ?_
        refine q_iload_n cx (pc' := 21) 1 rfl dX9_putBack_20 rfl ?_
        refine q_aload_n cx (pc' := 22) 0 rfl dX9_putBack_21 rfl ?_
        obtain ⟨ht22, r22, ex22, h⟩ := gR_i h
        refine q_gR cx (pc' := 25) 9 31 fl_X9_105 rfl ht22 ex22 dX9_putBack_22 rfl ?_
        refine q_iload_n cx (pc' := 26) 1 rfl dX9_putBack_25 rfl ?_
        obtain ⟨ht26, hi26, x26, ex26, h⟩ := aI_i h
        refine q_iald cx (pc' := 27) ht26 hi26 ex26 dX9_putBack_26 rfl ?_
        obtain ⟨ht27, hi27, M27, eM27, h⟩ := wI_i h
        refine q_iast cx (pc' := 28) ht27 hi27 eM27 dX9_putBack_27 rfl ?_
        obtain ⟨v1_28, ev1_28, h⟩ := nm_i h
        refine q_iinc cx (pc' := 31) 1 rfl ki_1 ev1_28 (by decide) (L' := [(1, .int v1_28), (0, .ref ths)]) rfl dX9_putBack_28 rfl ?_
        refine q_goto cx dX9_putBack_31 (tgt := 10) (by decide) ?_
        refine q_sub cx [1, 0] rfl ?_
        exact ih _ _ (hz10.1 _ h)
  refine q_sub cx [1, 0] rfl ?_
  exact key10 FU _ _ hL10

abbrev rm_X9_on : Room := { frames := 9, cells := 0, slots := 0, locals := 219 }
def jn_X9_on_18 (ths : Nat) (p1 : Int32) (p2 : Int32) (Mj_18 : QM) : Option (Int32 × QM) :=
  ck Mj_18 ths 9 <|
  if (fn_X9_isMinutes p1) = 0 then
    some ((-2), Mj_18)
  else
    ck Mj_18 ths 9 <|
    bnd (fn_X9_save Mj_18 ths) fun M30 =>
    ck M30 ths 9 <|
    bnd (fn_X9_goMinutes M30 ths p1) fun M35 =>
    if p2 = 0 then
      ck M35 ths 9 <|
      bnd (fn_X9_crossers M35 ths) fun y43 =>
      pr2 y43 fun c43 M43 =>
      ck M43 ths 9 <|
      bnd (fn_X9_putBack M43 ths) fun M60 =>
      some (c43, M60)
    else
      gR M35 ths 9 2 fun r50 =>
      aI M35 20 r50 (p2 - 10) fun x57 =>
      ck M35 ths 9 <|
      bnd (fn_X9_putBack M35 ths) fun M60 =>
      some (x57, M60)
def fn_X9_on (M : QM) (ths : Nat) (p1 : Int32) (p2 : Int32) : Option (Int32 × QM) :=
  if p2 = 0 then
    jn_X9_on_18 ths p1 p2 M
  else
    if (fn_X9_in p2 10 25) = 0 then
      some ((-1), M)
    else
      jn_X9_on_18 ths p1 p2 M
set_option maxRecDepth 100000 in
set_option maxHeartbeats 4000000 in
theorem ct_X9_on (Γ : GT) (l : Launch) (M : QM) (ths : Nat) (p1 : Int32) (p2 : Int32) (ht0 : mt M ths = 9) (z : Int32) (M' : QM) (h : fn_X9_on M ths p1 p2 = some (z, M')) : CT Γ l yX9_on cX9_on 4 (some .int) rm_X9_on (.ref ths :: [.int p1, .int p2]) M (some (.int z)) M' := by
  refine ct_intro (own := RX9) (L := [(0, .ref ths), (1, .int p1), (2, .int p2)]) (by decide +kernel) rfl (Nat.le_of_ble_eq_true rfl) rfl ?_
  intro p e s m args below meth c Q hQ cx hnm
  unfold fn_X9_on at h
  have hj18 : ∀ (Mj_18 : QM), jn_X9_on_18 ths p1 p2 Mj_18 = some (z, M') → EE p l e rm_X9_on s m args below meth c Q Γ 4 0 0 18 [(0, .ref ths), (1, .int p1), (2, .int p2)] [] Mj_18 := by
    intro Mj_18 h
    unfold jn_X9_on_18 at h
    refine q_aload_n cx (pc' := 19) 0 rfl dX9_on_18 rfl ?_
    refine q_iload_n cx (pc' := 20) 1 rfl dX9_on_19 rfl ?_
    obtain ⟨hk20, h⟩ := ck_i h
    refine q_callV cx (pc' := 23) (S := []) (S1 := [.int (fn_X9_isMinutes p1)]) (kc' := 0) (ks' := 0) 9 (ct_X9_isMinutes Γ l Mj_18 ths p1 hk20) lki_X9_isMinutes lkv_X9_isMinutes lkc_X9_367 hk20 (r := (RX9, TX9, 70)) ⟨rfl, by decide, rfl⟩ rfl rfl (Nat.le_of_ble_eq_true rfl) ⟨(Nat.le_of_ble_eq_true rfl), (Nat.le_of_ble_eq_true rfl)⟩ ⟨(Nat.le_of_ble_eq_true rfl), (Nat.le_of_ble_eq_true rfl)⟩ dX9_on_20 rfl rfl rfl ?_
    refine q_if_ne cx (pc' := 26) (tgt := 29) dX9_on_23 (by decide) rfl (fun c23 => ?_) (fun c23 => ?_)
    · replace h := ine c23 h
      refine q_aload_n cx (pc' := 30) 0 rfl dX9_on_29 rfl ?_
      obtain ⟨hk30, h⟩ := ck_i h
      obtain ⟨M30, hc30, h⟩ := bnd_i h
      refine q_callV cx (pc' := 33) (S := []) (S1 := []) (kc' := 0) (ks' := 0) 9 (ct_X9_save Γ l Mj_18 ths hk30 _ hc30) lki_X9_save lkv_X9_save lkc_X9_373 hk30 (r := (RX9, TX9, 70)) ⟨rfl, by decide, rfl⟩ rfl rfl (Nat.le_of_ble_eq_true rfl) ⟨(Nat.le_of_ble_eq_true rfl), (Nat.le_of_ble_eq_true rfl)⟩ ⟨(Nat.le_of_ble_eq_true rfl), (Nat.le_of_ble_eq_true rfl)⟩ dX9_on_30 rfl rfl rfl ?_
      refine q_aload_n cx (pc' := 34) 0 rfl dX9_on_33 rfl ?_
      refine q_iload_n cx (pc' := 35) 1 rfl dX9_on_34 rfl ?_
      obtain ⟨hk35, h⟩ := ck_i h
      obtain ⟨M35, hc35, h⟩ := bnd_i h
      refine q_callV cx (pc' := 38) (S := []) (S1 := []) (kc' := 0) (ks' := 0) 9 (ct_X9_goMinutes Γ l M30 ths p1 hk35 _ hc35) lki_X9_goMinutes lkv_X9_goMinutes lkc_X9_370 hk35 (r := (RX9, TX9, 70)) ⟨rfl, by decide, rfl⟩ rfl rfl (Nat.le_of_ble_eq_true rfl) ⟨(Nat.le_of_ble_eq_true rfl), (Nat.le_of_ble_eq_true rfl)⟩ ⟨(Nat.le_of_ble_eq_true rfl), (Nat.le_of_ble_eq_true rfl)⟩ dX9_on_35 rfl rfl rfl ?_
      refine q_iload_n cx (pc' := 39) 2 rfl dX9_on_38 rfl ?_
      refine q_if_ne cx (pc' := 42) (tgt := 49) dX9_on_39 (by decide) rfl (fun c39 => ?_) (fun c39 => ?_)
      · replace h := ine c39 h
        refine q_aload_n cx (pc' := 50) 0 rfl dX9_on_49 rfl ?_
        obtain ⟨ht50, r50, ex50, h⟩ := gR_i h
        refine q_gR cx (pc' := 53) 9 2 fl_X9_16 rfl ht50 ex50 dX9_on_50 rfl ?_
        refine q_iload_n cx (pc' := 54) 2 rfl dX9_on_53 rfl ?_
        refine q_bipush cx (pc' := 56) kb_10 dX9_on_54 rfl ?_
        refine q_isub cx (pc' := 57) dX9_on_56 rfl ?_
        obtain ⟨ht57, hi57, x57, ex57, h⟩ := aI_i h
        refine q_iald cx (pc' := 58) ht57 hi57 ex57 dX9_on_57 rfl ?_
        refine q_istore_n cx (pc' := 59) rfl rfl (by decide) (L' := [(3, .int x57), (0, .ref ths), (1, .int p1), (2, .int p2)]) rfl dX9_on_58 rfl ?_
        refine q_aload_n cx (pc' := 60) 1 rfl dX9_on_59 rfl ?_
        obtain ⟨hk60, h⟩ := ck_i h
        obtain ⟨M60, hc60, h⟩ := bnd_i h
        refine q_callV cx (pc' := 63) (S := []) (S1 := []) (kc' := 0) (ks' := 0) 9 (ct_X9_putBack Γ l M35 ths hk60 _ hc60) lki_X9_putBack lkv_X9_putBack lkc_X9_376 hk60 (r := (RX9, TX9, 70)) ⟨rfl, by decide, rfl⟩ rfl rfl (Nat.le_of_ble_eq_true rfl) ⟨(Nat.le_of_ble_eq_true rfl), (Nat.le_of_ble_eq_true rfl)⟩ ⟨(Nat.le_of_ble_eq_true rfl), (Nat.le_of_ble_eq_true rfl)⟩ dX9_on_60 rfl rfl rfl ?_
        refine q_iload_n cx (pc' := 64) 0 rfl dX9_on_63 rfl ?_
        obtain ⟨rfl, rfl⟩ := o2_i h
        rw [hQ]
        exact q_iret cx dX9_on_64
      · replace h := ip c39 h
        refine q_aload_n cx (pc' := 43) 0 rfl dX9_on_42 rfl ?_
        obtain ⟨hk43, h⟩ := ck_i h
        obtain ⟨⟨c43, M43⟩, hc43, h⟩ := bnd_i h
        replace h := pr2_i h
        refine q_callV cx (pc' := 46) (S := []) (S1 := [.int c43]) (kc' := 0) (ks' := 0) 9 (ct_X9_crossers Γ l M35 ths hk43 _ _ hc43) lki_X9_crossers lkv_X9_crossers lkc_X9_351 hk43 (r := (RX9, TX9, 70)) ⟨rfl, by decide, rfl⟩ rfl rfl (Nat.le_of_ble_eq_true rfl) ⟨(Nat.le_of_ble_eq_true rfl), (Nat.le_of_ble_eq_true rfl)⟩ ⟨(Nat.le_of_ble_eq_true rfl), (Nat.le_of_ble_eq_true rfl)⟩ dX9_on_43 rfl rfl rfl ?_
        refine q_goto cx dX9_on_46 (tgt := 58) (by decide) ?_
        refine q_istore_n cx (pc' := 59) rfl rfl (by decide) (L' := [(3, .int c43), (0, .ref ths), (1, .int p1), (2, .int p2)]) rfl dX9_on_58 rfl ?_
        refine q_aload_n cx (pc' := 60) 1 rfl dX9_on_59 rfl ?_
        obtain ⟨hk60, h⟩ := ck_i h
        obtain ⟨M60, hc60, h⟩ := bnd_i h
        refine q_callV cx (pc' := 63) (S := []) (S1 := []) (kc' := 0) (ks' := 0) 9 (ct_X9_putBack Γ l M43 ths hk60 _ hc60) lki_X9_putBack lkv_X9_putBack lkc_X9_376 hk60 (r := (RX9, TX9, 70)) ⟨rfl, by decide, rfl⟩ rfl rfl (Nat.le_of_ble_eq_true rfl) ⟨(Nat.le_of_ble_eq_true rfl), (Nat.le_of_ble_eq_true rfl)⟩ ⟨(Nat.le_of_ble_eq_true rfl), (Nat.le_of_ble_eq_true rfl)⟩ dX9_on_60 rfl rfl rfl ?_
        refine q_iload_n cx (pc' := 64) 0 rfl dX9_on_63 rfl ?_
        obtain ⟨rfl, rfl⟩ := o2_i h
        rw [hQ]
        exact q_iret cx dX9_on_64
    · replace h := ip c23 h
      refine q_bipush cx (pc' := 28) kb_m2 dX9_on_26 rfl ?_
      obtain ⟨rfl, rfl⟩ := o2_i h
      rw [hQ]
      exact q_iret cx dX9_on_28
  refine q_iload_n cx (pc' := 1) 2 rfl dX9_on_0 rfl ?_
  refine q_if_eq cx (pc' := 4) (tgt := 18) dX9_on_1 (by decide) rfl (fun c1 => ?_) (fun c1 => ?_)
  · replace h := ip c1 h
    refine q_sub cx [0, 1, 2] rfl ?_
    exact hj18 _ h
  · replace h := ine c1 h
    refine q_aload_n cx (pc' := 5) 0 rfl dX9_on_4 rfl ?_
    refine q_iload_n cx (pc' := 6) 2 rfl dX9_on_5 rfl ?_
    refine q_bipush cx (pc' := 8) kb_10 dX9_on_6 rfl ?_
    refine q_bipush cx (pc' := 10) kb_25 dX9_on_8 rfl ?_
    refine q_callV cx (pc' := 13) (S := []) (S1 := [.int (fn_X9_in p2 10 25)]) (kc' := 0) (ks' := 0) 9 (ct_X9_in Γ l M ths p2 10 25 ht0) lki_X9_in lkv_X9_in lkc_X9_224 ht0 (r := (RX9, TX9, 70)) ⟨rfl, by decide, rfl⟩ rfl rfl (Nat.le_of_ble_eq_true rfl) ⟨(Nat.le_of_ble_eq_true rfl), (Nat.le_of_ble_eq_true rfl)⟩ ⟨(Nat.le_of_ble_eq_true rfl), (Nat.le_of_ble_eq_true rfl)⟩ dX9_on_10 rfl rfl rfl ?_
    refine q_if_ne cx (pc' := 16) (tgt := 18) dX9_on_13 (by decide) rfl (fun c13 => ?_) (fun c13 => ?_)
    · replace h := ine c13 h
      refine q_sub cx [0, 1, 2] rfl ?_
      exact hj18 _ h
    · replace h := ip c13 h
      refine q_iconst cx (pc' := 17) ki_m1 dX9_on_16 rfl ?_
      obtain ⟨rfl, rfl⟩ := o2_i h
      rw [hQ]
      exact q_iret cx dX9_on_17

abbrev rm_X9_soon : Room := { frames := 8, cells := 0, slots := 0, locals := 197 }
def lp_X9_soon_16 (ths : Nat) (p1 : Int32) (w2_16 : Int32) (Mw_16 : QM) : Option ((Int32 × QM) ⊕ (Int32 × QM)) :=
  if 61 ≤ w2_16 then
    some (.inr (w2_16, Mw_16))
  else
    ck Mw_16 ths 9 <|
    bnd (fn_X9_canCross Mw_16 ths p1) fun y24 =>
    pr2 y24 fun c24 M24 =>
    if c24 = 0 then
      ck M24 ths 9 <|
      bnd (fn_X9_goMinute M24 ths) fun M31 =>
      nm (w2_16 + 1) fun v2_34 =>
      some (.inl (v2_34, M31))
    else
      some (.inr (w2_16, M24))
def fn_X9_soon (M : QM) (ths : Nat) (p1 : Int32) : Option (Int32 × QM) :=
  bnd (fn_X9_isWalker M ths p1) fun c2 =>
  if c2 = 0 then
    some ((-1), M)
  else
    bnd (fn_X9_save M ths) fun M11 =>
    bnd (itr (fun s16 : Int32 × QM => lp_X9_soon_16 ths p1 s16.1 s16.2) FU (0, M11)) fun r16 =>
    pr2 r16 fun e2_16 Me_16 =>
    ck Me_16 ths 9 <|
    bnd (fn_X9_putBack Me_16 ths) fun M41 =>
    if 61 ≤ e2_16 then
      some ((-5), M41)
    else
      some (e2_16, M41)
set_option maxRecDepth 100000 in
set_option maxHeartbeats 4000000 in
theorem ct_X9_soon (Γ : GT) (l : Launch) (M : QM) (ths : Nat) (p1 : Int32) (ht0 : mt M ths = 9) (z : Int32) (M' : QM) (h : fn_X9_soon M ths p1 = some (z, M')) : CT Γ l yX9_soon cX9_soon 3 (some .int) rm_X9_soon (.ref ths :: [.int p1]) M (some (.int z)) M' := by
  refine ct_intro (own := RX9) (L := [(0, .ref ths), (1, .int p1)]) (by decide +kernel) rfl (Nat.le_of_ble_eq_true rfl) rfl ?_
  intro p e s m args below meth c Q hQ cx hnm
  unfold fn_X9_soon at h
  refine q_aload_n cx (pc' := 1) 0 rfl dX9_soon_0 rfl ?_
  refine q_iload_n cx (pc' := 2) 1 rfl dX9_soon_1 rfl ?_
  obtain ⟨c2, hc2, h⟩ := bnd_i h
  refine q_callV cx (pc' := 5) (S := []) (S1 := [.int c2]) (kc' := 0) (ks' := 0) 9 (ct_X9_isWalker Γ l M ths p1 ht0 _ hc2) lki_X9_isWalker lkv_X9_isWalker lkc_X9_235 ht0 (r := (RX9, TX9, 70)) ⟨rfl, by decide, rfl⟩ rfl rfl (Nat.le_of_ble_eq_true rfl) ⟨(Nat.le_of_ble_eq_true rfl), (Nat.le_of_ble_eq_true rfl)⟩ ⟨(Nat.le_of_ble_eq_true rfl), (Nat.le_of_ble_eq_true rfl)⟩ dX9_soon_2 rfl rfl rfl ?_
  refine q_if_ne cx (pc' := 8) (tgt := 10) dX9_soon_5 (by decide) rfl (fun c5 => ?_) (fun c5 => ?_)
  · replace h := ine c5 h
    refine q_aload_n cx (pc' := 11) 0 rfl dX9_soon_10 rfl ?_
    obtain ⟨M11, hc11, h⟩ := bnd_i h
    refine q_callV cx (pc' := 14) (S := []) (S1 := []) (kc' := 0) (ks' := 0) 9 (ct_X9_save Γ l M ths ht0 _ hc11) lki_X9_save lkv_X9_save lkc_X9_373 ht0 (r := (RX9, TX9, 70)) ⟨rfl, by decide, rfl⟩ rfl rfl (Nat.le_of_ble_eq_true rfl) ⟨(Nat.le_of_ble_eq_true rfl), (Nat.le_of_ble_eq_true rfl)⟩ ⟨(Nat.le_of_ble_eq_true rfl), (Nat.le_of_ble_eq_true rfl)⟩ dX9_soon_11 rfl rfl rfl ?_
    refine q_iconst cx (pc' := 15) ki_0 dX9_soon_14 rfl ?_
    refine q_istore_n cx (pc' := 16) rfl rfl (by decide) (L' := [(2, .int 0), (0, .ref ths), (1, .int p1)]) rfl dX9_soon_15 rfl ?_
    obtain ⟨r16, hL16, h⟩ := bnd_i h
    have hk16_0 : ∀ (e2_16 : Int32) (Me_16 : QM), (e2_16, Me_16) = r16 → EE p l e rm_X9_soon s m args below meth c Q Γ 3 0 0 40 [(0, .ref ths), (2, .int e2_16)] [] Me_16 := by
      intro e2_16 Me_16 hp
      subst hp
      replace h := pr2_i h
      refine q_aload_n cx (pc' := 41) 0 rfl dX9_soon_40 rfl ?_
      obtain ⟨hk41, h⟩ := ck_i h
      obtain ⟨M41, hc41, h⟩ := bnd_i h
      refine q_callV cx (pc' := 44) (S := []) (S1 := []) (kc' := 0) (ks' := 0) 9 (ct_X9_putBack Γ l Me_16 ths hk41 _ hc41) lki_X9_putBack lkv_X9_putBack lkc_X9_376 hk41 (r := (RX9, TX9, 70)) ⟨rfl, by decide, rfl⟩ rfl rfl (Nat.le_of_ble_eq_true rfl) ⟨(Nat.le_of_ble_eq_true rfl), (Nat.le_of_ble_eq_true rfl)⟩ ⟨(Nat.le_of_ble_eq_true rfl), (Nat.le_of_ble_eq_true rfl)⟩ dX9_soon_41 rfl rfl rfl ?_
      refine q_iload_n cx (pc' := 45) 1 rfl dX9_soon_44 rfl ?_
      refine q_bipush cx (pc' := 47) kb_61 dX9_soon_45 rfl ?_
      refine q_icmp_ge cx (pc' := 50) (tgt := 54) dX9_soon_47 (by decide) rfl (fun c47 => ?_) (fun c47 => ?_)
      · replace h := ip c47 h
        refine q_bipush cx (pc' := 56) kb_m5 dX9_soon_54 rfl ?_
        obtain ⟨rfl, rfl⟩ := o2_i h
        rw [hQ]
        exact q_iret cx dX9_soon_56
      · replace h := ine c47 h
        refine q_iload_n cx (pc' := 51) 1 rfl dX9_soon_50 rfl ?_
        refine q_goto cx dX9_soon_51 (tgt := 56) (by decide) ?_
        obtain ⟨rfl, rfl⟩ := o2_i h
        rw [hQ]
        exact q_iret cx dX9_soon_56
    have key16 : ∀ (n : Nat) (w2_16 : Int32) (Mw_16 : QM), itr (fun s16 : Int32 × QM => lp_X9_soon_16 ths p1 s16.1 s16.2) n (w2_16, Mw_16) = some r16 → EE p l e rm_X9_soon s m args below meth c Q Γ 3 0 0 16 [(0, .ref ths), (1, .int p1), (2, .int w2_16)] [] Mw_16 := by
      intro n
      induction n with
      | zero => intro _ _ h; exact (itr_0 h).elim
      | succ n ih =>
        intro w2_16 Mw_16 h
        obtain ⟨z16, h, hz16⟩ := itr_i h
        replace h : lp_X9_soon_16 ths p1 w2_16 Mw_16 = some z16 := h
        unfold lp_X9_soon_16 at h
        refine q_iload_n cx (pc' := 17) 2 rfl dX9_soon_16 rfl ?_
        refine q_bipush cx (pc' := 19) kb_61 dX9_soon_17 rfl ?_
        refine q_icmp_ge cx (pc' := 22) (tgt := 40) dX9_soon_19 (by decide) rfl (fun c19 => ?_) (fun c19 => ?_)
        · replace h := ip c19 h
          refine q_sub cx [0, 2] rfl ?_
          exact hk16_0 _ _ (hz16.2 _ h)
        · replace h := ine c19 h
          refine q_aload_n cx (pc' := 23) 0 rfl dX9_soon_22 rfl ?_
          refine q_iload_n cx (pc' := 24) 1 rfl dX9_soon_23 rfl ?_
          obtain ⟨hk24, h⟩ := ck_i h
          obtain ⟨⟨c24, M24⟩, hc24, h⟩ := bnd_i h
          replace h := pr2_i h
          refine q_callV cx (pc' := 27) (S := []) (S1 := [.int c24]) (kc' := 0) (ks' := 0) 9 (ct_X9_canCross Γ l Mw_16 ths p1 hk24 _ _ hc24) lki_X9_canCross lkv_X9_canCross lkc_X9_342 hk24 (r := (RX9, TX9, 70)) ⟨rfl, by decide, rfl⟩ rfl rfl (Nat.le_of_ble_eq_true rfl) ⟨(Nat.le_of_ble_eq_true rfl), (Nat.le_of_ble_eq_true rfl)⟩ ⟨(Nat.le_of_ble_eq_true rfl), (Nat.le_of_ble_eq_true rfl)⟩ dX9_soon_24 rfl rfl rfl ?_
          refine q_if_ne cx (pc' := 30) (tgt := 40) dX9_soon_27 (by decide) rfl (fun c27 => ?_) (fun c27 => ?_)
          · replace h := ine c27 h
            refine q_sub cx [0, 2] rfl ?_
            exact hk16_0 _ _ (hz16.2 _ h)
          · replace h := ip c27 h
            refine q_aload_n cx (pc' := 31) 0 rfl dX9_soon_30 rfl ?_
            obtain ⟨hk31, h⟩ := ck_i h
            obtain ⟨M31, hc31, h⟩ := bnd_i h
            refine q_callV cx (pc' := 34) (S := []) (S1 := []) (kc' := 0) (ks' := 0) 9 (ct_X9_goMinute Γ l M24 ths hk31 _ hc31) lki_X9_goMinute lkv_X9_goMinute lkc_X9_364 hk31 (r := (RX9, TX9, 70)) ⟨rfl, by decide, rfl⟩ rfl rfl (Nat.le_of_ble_eq_true rfl) ⟨(Nat.le_of_ble_eq_true rfl), (Nat.le_of_ble_eq_true rfl)⟩ ⟨(Nat.le_of_ble_eq_true rfl), (Nat.le_of_ble_eq_true rfl)⟩ dX9_soon_31 rfl rfl rfl ?_
            obtain ⟨v2_34, ev2_34, h⟩ := nm_i h
            refine q_iinc cx (pc' := 37) 2 rfl ki_1 ev2_34 (by decide) (L' := [(2, .int v2_34), (0, .ref ths), (1, .int p1)]) rfl dX9_soon_34 rfl ?_
            refine q_goto cx dX9_soon_37 (tgt := 16) (by decide) ?_
            refine q_sub cx [1, 2, 0] rfl ?_
            exact ih _ _ (hz16.1 _ h)
    refine q_sub cx [1, 2, 0] rfl ?_
    exact key16 FU _ _ hL16
  · replace h := ip c5 h
    refine q_iconst cx (pc' := 9) ki_m1 dX9_soon_8 rfl ?_
    obtain ⟨rfl, rfl⟩ := o2_i h
    rw [hQ]
    exact q_iret cx dX9_soon_9

abbrev rm_X9_way : Room := { frames := 7, cells := 0, slots := 0, locals := 176 }
def lp_X9_way_47 (ths : Nat) (M41 : QM) (c23 : Int32) (w4_47 : Int32) : Option ((Int32) ⊕ (Int32)) :=
  gR M41 ths 9 26 fun r48 =>
  aI M41 20 r48 w4_47 fun x53 =>
  if x53 = c23 then
    some (.inr w4_47)
  else
    nm (w4_47 + 4) fun v4_58 =>
    some (.inl v4_58)
def lp_X9_way_76 (ths : Nat) (p1 : Int32) (M41 : QM) (c23 : Int32) (w4_67 : Int32) (w5_67 : Int32) (w6_76 : Int32) : Option ((Int32) ⊕ (Int32)) :=
  gR M41 ths 9 26 fun r77 =>
  aI M41 20 r77 w6_76 fun x82 =>
  if x82 = (c23 - w5_67) then
    ck M41 ths 9 <|
    bnd (fn_X9_isStep M41 ths p1 w4_67 w6_76) fun c96 =>
    if c96 = 0 then
      nm (w6_76 + 1) fun v6_102 =>
      some (.inl v6_102)
    else
      some (.inr w6_76)
  else
    nm (w6_76 + 1) fun v6_102 =>
    some (.inl v6_102)
def lp_X9_way_67 (ths : Nat) (p1 : Int32) (p2 : Int32) (M41 : QM) (c23 : Int32) (w4_67 : Int32) (w5_67 : Int32) : Option ((Int32 × Int32) ⊕ (Int32)) :=
  if p2 < w5_67 then
    some (.inr w4_67)
  else
    bnd (itr (fun s76 : Int32 => lp_X9_way_76 ths p1 M41 c23 w4_67 w5_67 s76) FU 0) fun e6_76 =>
    nm (w5_67 + 1) fun v5_112 =>
    some (.inl (e6_76, v5_112))
def fn_X9_way (M : QM) (ths : Nat) (p1 : Int32) (p2 : Int32) : Option (Int32 × QM) :=
  bnd (fn_X9_isWalker M ths p1) fun c2 =>
  if c2 = 0 then
    some ((-1), M)
  else
    if (fn_X9_in p2 0 15) = 0 then
      some ((-1), M)
    else
      bnd (fn_X9_cross M ths p1) fun y23 =>
      pr2 y23 fun c23 M23 =>
      if p2 ≤ c23 then
        ck M23 ths 9 <|
        ck M23 ths 9 <|
        bnd (fn_X9_layFar M23 ths p1 fn_X9_farSide) fun M41 =>
        bnd (itr (fun s47 : Int32 => lp_X9_way_47 ths M41 c23 s47) FU 0) fun e4_47 =>
        bnd (itr (fun s67 : Int32 × Int32 => lp_X9_way_67 ths p1 p2 M41 c23 s67.1 s67.2) FU (e4_47, 1)) fun re_67 =>
        some (re_67, M41)
      else
        some ((-5), M23)
set_option maxRecDepth 100000 in
set_option maxHeartbeats 4000000 in
theorem ct_X9_way (Γ : GT) (l : Launch) (M : QM) (ths : Nat) (p1 : Int32) (p2 : Int32) (ht0 : mt M ths = 9) (z : Int32) (M' : QM) (h : fn_X9_way M ths p1 p2 = some (z, M')) : CT Γ l yX9_way cX9_way 7 (some .int) rm_X9_way (.ref ths :: [.int p1, .int p2]) M (some (.int z)) M' := by
  refine ct_intro (own := RX9) (L := [(0, .ref ths), (1, .int p1), (2, .int p2)]) (by decide +kernel) rfl (Nat.le_of_ble_eq_true rfl) rfl ?_
  intro p e s m args below meth c Q hQ cx hnm
  unfold fn_X9_way at h
  refine q_aload_n cx (pc' := 1) 0 rfl dX9_way_0 rfl ?_
  refine q_iload_n cx (pc' := 2) 1 rfl dX9_way_1 rfl ?_
  obtain ⟨c2, hc2, h⟩ := bnd_i h
  refine q_callV cx (pc' := 5) (S := []) (S1 := [.int c2]) (kc' := 0) (ks' := 0) 9 (ct_X9_isWalker Γ l M ths p1 ht0 _ hc2) lki_X9_isWalker lkv_X9_isWalker lkc_X9_235 ht0 (r := (RX9, TX9, 70)) ⟨rfl, by decide, rfl⟩ rfl rfl (Nat.le_of_ble_eq_true rfl) ⟨(Nat.le_of_ble_eq_true rfl), (Nat.le_of_ble_eq_true rfl)⟩ ⟨(Nat.le_of_ble_eq_true rfl), (Nat.le_of_ble_eq_true rfl)⟩ dX9_way_2 rfl rfl rfl ?_
  refine q_if_eq cx (pc' := 8) (tgt := 19) dX9_way_5 (by decide) rfl (fun c5 => ?_) (fun c5 => ?_)
  · replace h := ip c5 h
    refine q_iconst cx (pc' := 20) ki_m1 dX9_way_19 rfl ?_
    obtain ⟨rfl, rfl⟩ := o2_i h
    rw [hQ]
    exact q_iret cx dX9_way_20
  · replace h := ine c5 h
    refine q_aload_n cx (pc' := 9) 0 rfl dX9_way_8 rfl ?_
    refine q_iload_n cx (pc' := 10) 2 rfl dX9_way_9 rfl ?_
    refine q_iconst cx (pc' := 11) ki_0 dX9_way_10 rfl ?_
    refine q_bipush cx (pc' := 13) kb_15 dX9_way_11 rfl ?_
    refine q_callV cx (pc' := 16) (S := []) (S1 := [.int (fn_X9_in p2 0 15)]) (kc' := 0) (ks' := 0) 9 (ct_X9_in Γ l M ths p2 0 15 ht0) lki_X9_in lkv_X9_in lkc_X9_224 ht0 (r := (RX9, TX9, 70)) ⟨rfl, by decide, rfl⟩ rfl rfl (Nat.le_of_ble_eq_true rfl) ⟨(Nat.le_of_ble_eq_true rfl), (Nat.le_of_ble_eq_true rfl)⟩ ⟨(Nat.le_of_ble_eq_true rfl), (Nat.le_of_ble_eq_true rfl)⟩ dX9_way_13 rfl rfl rfl ?_
    refine q_if_ne cx (pc' := 19) (tgt := 21) dX9_way_16 (by decide) rfl (fun c16 => ?_) (fun c16 => ?_)
    · replace h := ine c16 h
      refine q_aload_n cx (pc' := 22) 0 rfl dX9_way_21 rfl ?_
      refine q_iload_n cx (pc' := 23) 1 rfl dX9_way_22 rfl ?_
      obtain ⟨⟨c23, M23⟩, hc23, h⟩ := bnd_i h
      replace h := pr2_i h
      refine q_callV cx (pc' := 26) (S := []) (S1 := [.int c23]) (kc' := 0) (ks' := 0) 9 (ct_X9_cross Γ l M ths p1 ht0 _ _ hc23) lki_X9_cross lkv_X9_cross lkc_X9_339 ht0 (r := (RX9, TX9, 70)) ⟨rfl, by decide, rfl⟩ rfl rfl (Nat.le_of_ble_eq_true rfl) ⟨(Nat.le_of_ble_eq_true rfl), (Nat.le_of_ble_eq_true rfl)⟩ ⟨(Nat.le_of_ble_eq_true rfl), (Nat.le_of_ble_eq_true rfl)⟩ dX9_way_23 rfl rfl rfl ?_
      refine q_istore_n cx (pc' := 27) rfl rfl (by decide) (L' := [(3, .int c23), (0, .ref ths), (1, .int p1), (2, .int p2)]) rfl dX9_way_26 rfl ?_
      refine q_iload_n cx (pc' := 28) 0 rfl dX9_way_27 rfl ?_
      refine q_iload_n cx (pc' := 29) 3 rfl dX9_way_28 rfl ?_
      refine q_icmp_ge cx (pc' := 32) (tgt := 35) dX9_way_29 (by decide) rfl (fun c29 => ?_) (fun c29 => ?_)
      · replace h := ip c29 h
        refine q_aload_n cx (pc' := 36) 1 rfl dX9_way_35 rfl ?_
        refine q_iload_n cx (pc' := 37) 2 rfl dX9_way_36 rfl ?_
        refine q_aload_n cx (pc' := 38) 1 rfl dX9_way_37 rfl ?_
        obtain ⟨hk38, h⟩ := ck_i h
        refine q_callV cx (pc' := 41) (S := [.int p1, .ref ths]) (S1 := [.int fn_X9_farSide, .int p1, .ref ths]) (kc' := 0) (ks' := 0) 9 (ct_X9_farSide Γ l M23 ths hk38) lki_X9_farSide lkv_X9_farSide lkc_X9_379 hk38 (r := (RX9, TX9, 70)) ⟨rfl, by decide, rfl⟩ rfl rfl (Nat.le_of_ble_eq_true rfl) ⟨(Nat.le_of_ble_eq_true rfl), (Nat.le_of_ble_eq_true rfl)⟩ ⟨(Nat.le_of_ble_eq_true rfl), (Nat.le_of_ble_eq_true rfl)⟩ dX9_way_38 rfl rfl rfl ?_
        obtain ⟨hk41, h⟩ := ck_i h
        obtain ⟨M41, hc41, h⟩ := bnd_i h
        refine q_callV cx (pc' := 44) (S := []) (S1 := []) (kc' := 0) (ks' := 0) 9 (ct_X9_layFar Γ l M23 ths p1 fn_X9_farSide hk41 _ hc41) lki_X9_layFar lkv_X9_layFar lkc_X9_336 hk41 (r := (RX9, TX9, 70)) ⟨rfl, by decide, rfl⟩ rfl rfl (Nat.le_of_ble_eq_true rfl) ⟨(Nat.le_of_ble_eq_true rfl), (Nat.le_of_ble_eq_true rfl)⟩ ⟨(Nat.le_of_ble_eq_true rfl), (Nat.le_of_ble_eq_true rfl)⟩ dX9_way_41 rfl rfl rfl ?_
        refine q_iconst cx (pc' := 45) ki_0 dX9_way_44 rfl ?_
        refine q_istore cx (pc' := 47) rfl (by decide) (L' := [(4, .int 0), (3, .int c23), (0, .ref ths), (1, .int p1), (2, .int p2)]) rfl dX9_way_45 rfl ?_
        obtain ⟨r47, hL47, h⟩ := bnd_i h
        have hk47_0 : ∀ (e4_47 : Int32), e4_47 = r47 → EE p l e rm_X9_way s m args below meth c Q Γ 7 0 0 64 [(0, .ref ths), (1, .int p1), (2, .int p2), (3, .int c23), (4, .int e4_47)] [] M41 := by
          intro e4_47 hp
          subst hp
          refine q_iconst cx (pc' := 65) ki_1 dX9_way_64 rfl ?_
          refine q_istore cx (pc' := 67) rfl (by decide) (L' := [(5, .int 1), (0, .ref ths), (1, .int p1), (2, .int p2), (3, .int c23), (4, .int e4_47)]) rfl dX9_way_65 rfl ?_
          obtain ⟨r67, hL67, h⟩ := bnd_i h
          have hk67_r : ∀ (re_67 : Int32), re_67 = r67 → some (re_67, M41) = some (z, M') := by
            intro re_67 hp
            subst hp
            exact h
          have key67 : ∀ (n : Nat) (w4_67 : Int32) (w5_67 : Int32), itr (fun s67 : Int32 × Int32 => lp_X9_way_67 ths p1 p2 M41 c23 s67.1 s67.2) n (w4_67, w5_67) = some r67 → EE p l e rm_X9_way s m args below meth c Q Γ 7 0 0 67 [(0, .ref ths), (1, .int p1), (2, .int p2), (3, .int c23), (4, .int w4_67), (5, .int w5_67)] [] M41 := by
            intro n
            induction n with
            | zero => intro _ _ h; exact (itr_0 h).elim
            | succ n ih =>
              intro w4_67 w5_67 h
              obtain ⟨z67, h, hz67⟩ := itr_i h
              replace h : lp_X9_way_67 ths p1 p2 M41 c23 w4_67 w5_67 = some z67 := h
              unfold lp_X9_way_67 at h
              refine q_iload cx (pc' := 69) 5 rfl dX9_way_67 rfl ?_
              refine q_iload_n cx (pc' := 70) 2 rfl dX9_way_69 rfl ?_
              refine q_icmp_gt cx (pc' := 73) (tgt := 118) dX9_way_70 (by decide) rfl (fun c70 => ?_) (fun c70 => ?_)
              · replace h := ip c70 h
                refine q_iload cx (pc' := 120) 4 rfl dX9_way_118 rfl ?_
                replace h := hk67_r _ (hz67.2 _ h)
                obtain ⟨rfl, rfl⟩ := o2_i h
                rw [hQ]
                exact q_iret cx dX9_way_120
              · replace h := ine c70 h
                refine q_iconst cx (pc' := 74) ki_0 dX9_way_73 rfl ?_
                refine q_istore cx (pc' := 76) rfl (by decide) (L' := [(6, .int 0), (0, .ref ths), (1, .int p1), (2, .int p2), (3, .int c23), (4, .int w4_67), (5, .int w5_67)]) rfl dX9_way_74 rfl ?_
                obtain ⟨r76, hL76, h⟩ := bnd_i h
                have hk76_0 : ∀ (e6_76 : Int32), e6_76 = r76 → EE p l e rm_X9_way s m args below meth c Q Γ 7 0 0 108 [(0, .ref ths), (1, .int p1), (2, .int p2), (3, .int c23), (5, .int w5_67), (6, .int e6_76)] [] M41 := by
                  intro e6_76 hp
                  subst hp
                  refine q_iload cx (pc' := 110) 5 rfl dX9_way_108 rfl ?_
                  refine q_istore cx (pc' := 112) rfl (by decide) (L' := [(4, .int e6_76), (0, .ref ths), (1, .int p1), (2, .int p2), (3, .int c23), (5, .int w5_67), (6, .int e6_76)]) rfl dX9_way_110 rfl ?_
                  obtain ⟨v5_112, ev5_112, h⟩ := nm_i h
                  refine q_iinc cx (pc' := 115) 5 rfl ki_1 ev5_112 (by decide) (L' := [(5, .int v5_112), (4, .int e6_76), (0, .ref ths), (1, .int p1), (2, .int p2), (3, .int c23), (6, .int e6_76)]) rfl dX9_way_112 rfl ?_
                  refine q_goto cx dX9_way_115 (tgt := 67) (by decide) ?_
                  refine q_sub cx [2, 3, 4, 5, 1, 0] rfl ?_
                  exact ih _ _ (hz67.1 _ h)
                have key76 : ∀ (n : Nat) (w6_76 : Int32), itr (fun s76 : Int32 => lp_X9_way_76 ths p1 M41 c23 w4_67 w5_67 s76) n w6_76 = some r76 → EE p l e rm_X9_way s m args below meth c Q Γ 7 0 0 76 [(0, .ref ths), (1, .int p1), (2, .int p2), (3, .int c23), (4, .int w4_67), (5, .int w5_67), (6, .int w6_76)] [] M41 := by
                  intro n
                  induction n with
                  | zero => intro _ h; exact (itr_0 h).elim
                  | succ n ih =>
                    intro w6_76 h
                    obtain ⟨z76, h, hz76⟩ := itr_i h
                    replace h : lp_X9_way_76 ths p1 M41 c23 w4_67 w5_67 w6_76 = some z76 := h
                    unfold lp_X9_way_76 at h
                    refine q_aload_n cx (pc' := 77) 0 rfl dX9_way_76 rfl ?_
                    obtain ⟨ht77, r77, ex77, h⟩ := gR_i h
                    refine q_gR cx (pc' := 80) 9 26 fl_X9_90 rfl ht77 ex77 dX9_way_77 rfl ?_
                    refine q_iload cx (pc' := 82) 6 rfl dX9_way_80 rfl ?_
                    obtain ⟨ht82, hi82, x82, ex82, h⟩ := aI_i h
                    refine q_iald cx (pc' := 83) ht82 hi82 ex82 dX9_way_82 rfl ?_
                    refine q_iload_n cx (pc' := 84) 3 rfl dX9_way_83 rfl ?_
                    refine q_iload cx (pc' := 86) 5 rfl dX9_way_84 rfl ?_
                    refine q_isub cx (pc' := 87) dX9_way_86 rfl ?_
                    refine q_icmp_ne cx (pc' := 90) (tgt := 102) dX9_way_87 (by decide) rfl (fun c87 => ?_) (fun c87 => ?_)
                    · replace h := ine c87 h
                      obtain ⟨v6_102, ev6_102, h⟩ := nm_i h
                      refine q_iinc cx (pc' := 105) 6 rfl ki_1 ev6_102 (by decide) (L' := [(6, .int v6_102), (0, .ref ths), (1, .int p1), (2, .int p2), (3, .int c23), (4, .int w4_67), (5, .int w5_67)]) rfl dX9_way_102 rfl ?_
                      refine q_goto cx dX9_way_105 (tgt := 76) (by decide) ?_
                      refine q_sub cx [1, 2, 3, 4, 5, 6, 0] rfl ?_
                      exact ih _ (hz76.1 _ h)
                    · replace h := ip c87 h
                      refine q_aload_n cx (pc' := 91) 0 rfl dX9_way_90 rfl ?_
                      refine q_iload_n cx (pc' := 92) 1 rfl dX9_way_91 rfl ?_
                      refine q_iload cx (pc' := 94) 4 rfl dX9_way_92 rfl ?_
                      refine q_iload cx (pc' := 96) 6 rfl dX9_way_94 rfl ?_
                      obtain ⟨hk96, h⟩ := ck_i h
                      obtain ⟨c96, hc96, h⟩ := bnd_i h
                      refine q_callV cx (pc' := 99) (S := []) (S1 := [.int c96]) (kc' := 0) (ks' := 0) 9 (ct_X9_isStep Γ l M41 ths p1 w4_67 w6_76 hk96 _ hc96) lki_X9_isStep lkv_X9_isStep lkc_X9_329 hk96 (r := (RX9, TX9, 70)) ⟨rfl, by decide, rfl⟩ rfl rfl (Nat.le_of_ble_eq_true rfl) ⟨(Nat.le_of_ble_eq_true rfl), (Nat.le_of_ble_eq_true rfl)⟩ ⟨(Nat.le_of_ble_eq_true rfl), (Nat.le_of_ble_eq_true rfl)⟩ dX9_way_96 rfl rfl rfl ?_
                      refine q_if_ne cx (pc' := 102) (tgt := 108) dX9_way_99 (by decide) rfl (fun c99 => ?_) (fun c99 => ?_)
                      · replace h := ine c99 h
                        refine q_sub cx [0, 1, 2, 3, 5, 6] rfl ?_
                        exact hk76_0 _ (hz76.2 _ h)
                      · replace h := ip c99 h
                        obtain ⟨v6_102, ev6_102, h⟩ := nm_i h
                        refine q_iinc cx (pc' := 105) 6 rfl ki_1 ev6_102 (by decide) (L' := [(6, .int v6_102), (0, .ref ths), (1, .int p1), (2, .int p2), (3, .int c23), (4, .int w4_67), (5, .int w5_67)]) rfl dX9_way_102 rfl ?_
                        refine q_goto cx dX9_way_105 (tgt := 76) (by decide) ?_
                        refine q_sub cx [1, 2, 3, 4, 5, 6, 0] rfl ?_
                        exact ih _ (hz76.1 _ h)
                refine q_sub cx [1, 2, 3, 4, 5, 6, 0] rfl ?_
                exact key76 FU _ hL76
          refine q_sub cx [1, 2, 3, 4, 5, 0] rfl ?_
          exact key67 FU _ _ hL67
        have key47 : ∀ (n : Nat) (w4_47 : Int32), itr (fun s47 : Int32 => lp_X9_way_47 ths M41 c23 s47) n w4_47 = some r47 → EE p l e rm_X9_way s m args below meth c Q Γ 7 0 0 47 [(0, .ref ths), (1, .int p1), (2, .int p2), (3, .int c23), (4, .int w4_47)] [] M41 := by
          intro n
          induction n with
          | zero => intro _ h; exact (itr_0 h).elim
          | succ n ih =>
            intro w4_47 h
            obtain ⟨z47, h, hz47⟩ := itr_i h
            replace h : lp_X9_way_47 ths M41 c23 w4_47 = some z47 := h
            unfold lp_X9_way_47 at h
            refine q_aload_n cx (pc' := 48) 0 rfl dX9_way_47 rfl ?_
            obtain ⟨ht48, r48, ex48, h⟩ := gR_i h
            refine q_gR cx (pc' := 51) 9 26 fl_X9_90 rfl ht48 ex48 dX9_way_48 rfl ?_
            refine q_iload cx (pc' := 53) 4 rfl dX9_way_51 rfl ?_
            obtain ⟨ht53, hi53, x53, ex53, h⟩ := aI_i h
            refine q_iald cx (pc' := 54) ht53 hi53 ex53 dX9_way_53 rfl ?_
            refine q_iload_n cx (pc' := 55) 3 rfl dX9_way_54 rfl ?_
            refine q_icmp_eq cx (pc' := 58) (tgt := 64) dX9_way_55 (by decide) rfl (fun c55 => ?_) (fun c55 => ?_)
            · replace h := ip c55 h
              refine q_sub cx [0, 1, 2, 3, 4] rfl ?_
              exact hk47_0 _ (hz47.2 _ h)
            · replace h := ine c55 h
              obtain ⟨v4_58, ev4_58, h⟩ := nm_i h
              refine q_iinc cx (pc' := 61) 4 rfl ki_4 ev4_58 (by decide) (L' := [(4, .int v4_58), (0, .ref ths), (1, .int p1), (2, .int p2), (3, .int c23)]) rfl dX9_way_58 rfl ?_
              refine q_goto cx dX9_way_61 (tgt := 47) (by decide) ?_
              refine q_sub cx [1, 2, 3, 4, 0] rfl ?_
              exact ih _ (hz47.1 _ h)
        refine q_sub cx [2, 3, 4, 1, 0] rfl ?_
        exact key47 FU _ hL47
      · replace h := ine c29 h
        refine q_bipush cx (pc' := 34) kb_m5 dX9_way_32 rfl ?_
        obtain ⟨rfl, rfl⟩ := o2_i h
        rw [hQ]
        exact q_iret cx dX9_way_34
    · replace h := ip c16 h
      refine q_iconst cx (pc' := 20) ki_m1 dX9_way_19 rfl ?_
      obtain ⟨rfl, rfl⟩ := o2_i h
      rw [hQ]
      exact q_iret cx dX9_way_20

abbrev rm_X9_reach : Room := { frames := 6, cells := 0, slots := 0, locals := 153 }
def fn_X9_reach (M : QM) (ths : Nat) (p1 : Int32) (p2 : Int32) (p3 : Int32) : Option (Int32 × QM) :=
  bnd (fn_X9_isWalker M ths p1) fun c2 =>
  if c2 = 0 then
    some ((-1), M)
  else
    if (fn_X9_isCell p2) = 0 then
      some ((-1), M)
    else
      if (fn_X9_isCell p3) = 0 then
        some ((-1), M)
      else
        bnd (fn_X9_layFar M ths p1 (1 <<< (p2 &&& 31))) fun M31 =>
        gR M31 ths 9 26 fun r35 =>
        aI M31 20 r35 p3 fun x39 =>
        some (x39, M31)
set_option maxRecDepth 100000 in
set_option maxHeartbeats 4000000 in
theorem ct_X9_reach (Γ : GT) (l : Launch) (M : QM) (ths : Nat) (p1 : Int32) (p2 : Int32) (p3 : Int32) (ht0 : mt M ths = 9) (z : Int32) (M' : QM) (h : fn_X9_reach M ths p1 p2 p3 = some (z, M')) : CT Γ l yX9_reach cX9_reach 4 (some .int) rm_X9_reach (.ref ths :: [.int p1, .int p2, .int p3]) M (some (.int z)) M' := by
  refine ct_intro (own := RX9) (L := [(0, .ref ths), (1, .int p1), (2, .int p2), (3, .int p3)]) (by decide +kernel) rfl (Nat.le_of_ble_eq_true rfl) rfl ?_
  intro p e s m args below meth c Q hQ cx hnm
  unfold fn_X9_reach at h
  refine q_aload_n cx (pc' := 1) 0 rfl dX9_reach_0 rfl ?_
  refine q_iload_n cx (pc' := 2) 1 rfl dX9_reach_1 rfl ?_
  obtain ⟨c2, hc2, h⟩ := bnd_i h
  refine q_callV cx (pc' := 5) (S := []) (S1 := [.int c2]) (kc' := 0) (ks' := 0) 9 (ct_X9_isWalker Γ l M ths p1 ht0 _ hc2) lki_X9_isWalker lkv_X9_isWalker lkc_X9_235 ht0 (r := (RX9, TX9, 70)) ⟨rfl, by decide, rfl⟩ rfl rfl (Nat.le_of_ble_eq_true rfl) ⟨(Nat.le_of_ble_eq_true rfl), (Nat.le_of_ble_eq_true rfl)⟩ ⟨(Nat.le_of_ble_eq_true rfl), (Nat.le_of_ble_eq_true rfl)⟩ dX9_reach_2 rfl rfl rfl ?_
  refine q_if_eq cx (pc' := 8) (tgt := 24) dX9_reach_5 (by decide) rfl (fun c5 => ?_) (fun c5 => ?_)
  · replace h := ip c5 h
    refine q_iconst cx (pc' := 25) ki_m1 dX9_reach_24 rfl ?_
    obtain ⟨rfl, rfl⟩ := o2_i h
    rw [hQ]
    exact q_iret cx dX9_reach_25
  · replace h := ine c5 h
    refine q_aload_n cx (pc' := 9) 0 rfl dX9_reach_8 rfl ?_
    refine q_iload_n cx (pc' := 10) 2 rfl dX9_reach_9 rfl ?_
    refine q_callV cx (pc' := 13) (S := []) (S1 := [.int (fn_X9_isCell p2)]) (kc' := 0) (ks' := 0) 9 (ct_X9_isCell Γ l M ths p2 ht0) lki_X9_isCell lkv_X9_isCell lkc_X9_232 ht0 (r := (RX9, TX9, 70)) ⟨rfl, by decide, rfl⟩ rfl rfl (Nat.le_of_ble_eq_true rfl) ⟨(Nat.le_of_ble_eq_true rfl), (Nat.le_of_ble_eq_true rfl)⟩ ⟨(Nat.le_of_ble_eq_true rfl), (Nat.le_of_ble_eq_true rfl)⟩ dX9_reach_10 rfl rfl rfl ?_
    refine q_if_eq cx (pc' := 16) (tgt := 24) dX9_reach_13 (by decide) rfl (fun c13 => ?_) (fun c13 => ?_)
    · replace h := ip c13 h
      refine q_iconst cx (pc' := 25) ki_m1 dX9_reach_24 rfl ?_
      obtain ⟨rfl, rfl⟩ := o2_i h
      rw [hQ]
      exact q_iret cx dX9_reach_25
    · replace h := ine c13 h
      refine q_aload_n cx (pc' := 17) 0 rfl dX9_reach_16 rfl ?_
      refine q_iload_n cx (pc' := 18) 3 rfl dX9_reach_17 rfl ?_
      refine q_callV cx (pc' := 21) (S := []) (S1 := [.int (fn_X9_isCell p3)]) (kc' := 0) (ks' := 0) 9 (ct_X9_isCell Γ l M ths p3 ht0) lki_X9_isCell lkv_X9_isCell lkc_X9_232 ht0 (r := (RX9, TX9, 70)) ⟨rfl, by decide, rfl⟩ rfl rfl (Nat.le_of_ble_eq_true rfl) ⟨(Nat.le_of_ble_eq_true rfl), (Nat.le_of_ble_eq_true rfl)⟩ ⟨(Nat.le_of_ble_eq_true rfl), (Nat.le_of_ble_eq_true rfl)⟩ dX9_reach_18 rfl rfl rfl ?_
      refine q_if_ne cx (pc' := 24) (tgt := 26) dX9_reach_21 (by decide) rfl (fun c21 => ?_) (fun c21 => ?_)
      · replace h := ine c21 h
        refine q_aload_n cx (pc' := 27) 0 rfl dX9_reach_26 rfl ?_
        refine q_iload_n cx (pc' := 28) 1 rfl dX9_reach_27 rfl ?_
        refine q_iconst cx (pc' := 29) ki_1 dX9_reach_28 rfl ?_
        refine q_iload_n cx (pc' := 30) 2 rfl dX9_reach_29 rfl ?_
        refine q_ishl cx (pc' := 31) dX9_reach_30 rfl ?_
        obtain ⟨M31, hc31, h⟩ := bnd_i h
        refine q_callV cx (pc' := 34) (S := []) (S1 := []) (kc' := 0) (ks' := 0) 9 (ct_X9_layFar Γ l M ths p1 (1 <<< (p2 &&& 31)) ht0 _ hc31) lki_X9_layFar lkv_X9_layFar lkc_X9_336 ht0 (r := (RX9, TX9, 70)) ⟨rfl, by decide, rfl⟩ rfl rfl (Nat.le_of_ble_eq_true rfl) ⟨(Nat.le_of_ble_eq_true rfl), (Nat.le_of_ble_eq_true rfl)⟩ ⟨(Nat.le_of_ble_eq_true rfl), (Nat.le_of_ble_eq_true rfl)⟩ dX9_reach_31 rfl rfl rfl ?_
        refine q_aload_n cx (pc' := 35) 0 rfl dX9_reach_34 rfl ?_
        obtain ⟨ht35, r35, ex35, h⟩ := gR_i h
        refine q_gR cx (pc' := 38) 9 26 fl_X9_90 rfl ht35 ex35 dX9_reach_35 rfl ?_
        refine q_iload_n cx (pc' := 39) 3 rfl dX9_reach_38 rfl ?_
        obtain ⟨ht39, hi39, x39, ex39, h⟩ := aI_i h
        refine q_iald cx (pc' := 40) ht39 hi39 ex39 dX9_reach_39 rfl ?_
        obtain ⟨rfl, rfl⟩ := o2_i h
        rw [hQ]
        exact q_iret cx dX9_reach_40
      · replace h := ip c21 h
        refine q_iconst cx (pc' := 25) ki_m1 dX9_reach_24 rfl ?_
        obtain ⟨rfl, rfl⟩ := o2_i h
        rw [hQ]
        exact q_iret cx dX9_reach_25

abbrev rm_X9_heaviest : Room := { frames := 8, cells := 0, slots := 0, locals := 197 }
def lp_X9_heaviest_24 (ths : Nat) (p1 : Int32) (w3_24 : Int32) (w4_24 : Int32) (Mw_24 : QM) : Option ((Int32 × Int32 × QM) ⊕ (Int32 × QM)) :=
  if w4_24 < 0 then
    some (.inr (w3_24, Mw_24))
  else
    if 0 ≤ w3_24 then
      some (.inr (w3_24, Mw_24))
    else
      gR Mw_24 ths 9 5 fun r34 =>
      wI Mw_24 20 r34 p1 w4_24 fun M40 =>
      ck M40 ths 9 <|
      bnd (fn_X9_canCross M40 ths p1) fun y43 =>
      pr2 y43 fun c43 M43 =>
      if c43 = 0 then
        nm (w4_24 + (-1)) fun v4_57 =>
        some (.inl ((-5), v4_57, M43))
      else
        nm (w4_24 + (-1)) fun v4_57 =>
        some (.inl (w4_24, v4_57, M43))
def fn_X9_heaviest (M : QM) (ths : Nat) (p1 : Int32) : Option (Int32 × QM) :=
  bnd (fn_X9_isWalker M ths p1) fun c2 =>
  if c2 = 0 then
    some ((-1), M)
  else
    gR M ths 9 5 fun r11 =>
    aI M 20 r11 p1 fun x15 =>
    bnd (itr (fun s24 : Int32 × Int32 × QM => lp_X9_heaviest_24 ths p1 s24.1 s24.2.1 s24.2.2) FU ((-5), 99, M)) fun r24 =>
    pr2 r24 fun e3_24 Me_24 =>
    gR Me_24 ths 9 5 fun r64 =>
    wI Me_24 20 r64 p1 x15 fun M69 =>
    some (e3_24, M69)
set_option maxRecDepth 100000 in
set_option maxHeartbeats 4000000 in
theorem ct_X9_heaviest (Γ : GT) (l : Launch) (M : QM) (ths : Nat) (p1 : Int32) (ht0 : mt M ths = 9) (z : Int32) (M' : QM) (h : fn_X9_heaviest M ths p1 = some (z, M')) : CT Γ l yX9_heaviest cX9_heaviest 5 (some .int) rm_X9_heaviest (.ref ths :: [.int p1]) M (some (.int z)) M' := by
  refine ct_intro (own := RX9) (L := [(0, .ref ths), (1, .int p1)]) (by decide +kernel) rfl (Nat.le_of_ble_eq_true rfl) rfl ?_
  intro p e s m args below meth c Q hQ cx hnm
  unfold fn_X9_heaviest at h
  refine q_aload_n cx (pc' := 1) 0 rfl dX9_heaviest_0 rfl ?_
  refine q_iload_n cx (pc' := 2) 1 rfl dX9_heaviest_1 rfl ?_
  obtain ⟨c2, hc2, h⟩ := bnd_i h
  refine q_callV cx (pc' := 5) (S := []) (S1 := [.int c2]) (kc' := 0) (ks' := 0) 9 (ct_X9_isWalker Γ l M ths p1 ht0 _ hc2) lki_X9_isWalker lkv_X9_isWalker lkc_X9_235 ht0 (r := (RX9, TX9, 70)) ⟨rfl, by decide, rfl⟩ rfl rfl (Nat.le_of_ble_eq_true rfl) ⟨(Nat.le_of_ble_eq_true rfl), (Nat.le_of_ble_eq_true rfl)⟩ ⟨(Nat.le_of_ble_eq_true rfl), (Nat.le_of_ble_eq_true rfl)⟩ dX9_heaviest_2 rfl rfl rfl ?_
  refine q_if_ne cx (pc' := 8) (tgt := 10) dX9_heaviest_5 (by decide) rfl (fun c5 => ?_) (fun c5 => ?_)
  · replace h := ine c5 h
    refine q_aload_n cx (pc' := 11) 0 rfl dX9_heaviest_10 rfl ?_
    obtain ⟨ht11, r11, ex11, h⟩ := gR_i h
    refine q_gR cx (pc' := 14) 9 5 fl_X9_26 rfl ht11 ex11 dX9_heaviest_11 rfl ?_
    refine q_iload_n cx (pc' := 15) 1 rfl dX9_heaviest_14 rfl ?_
    obtain ⟨ht15, hi15, x15, ex15, h⟩ := aI_i h
    refine q_iald cx (pc' := 16) ht15 hi15 ex15 dX9_heaviest_15 rfl ?_
    refine q_istore_n cx (pc' := 17) rfl rfl (by decide) (L' := [(2, .int x15), (0, .ref ths), (1, .int p1)]) rfl dX9_heaviest_16 rfl ?_
    refine q_bipush cx (pc' := 19) kb_m5 dX9_heaviest_17 rfl ?_
    refine q_istore_n cx (pc' := 20) rfl rfl (by decide) (L' := [(3, .int (-5)), (2, .int x15), (0, .ref ths), (1, .int p1)]) rfl dX9_heaviest_19 rfl ?_
    refine q_bipush cx (pc' := 22) kb_99 dX9_heaviest_20 rfl ?_
    refine q_istore cx (pc' := 24) rfl (by decide) (L' := [(4, .int 99), (3, .int (-5)), (2, .int x15), (0, .ref ths), (1, .int p1)]) rfl dX9_heaviest_22 rfl ?_
    obtain ⟨r24, hL24, h⟩ := bnd_i h
    have hk24_0 : ∀ (e3_24 : Int32) (Me_24 : QM), (e3_24, Me_24) = r24 → EE p l e rm_X9_heaviest s m args below meth c Q Γ 5 0 0 63 [(0, .ref ths), (1, .int p1), (2, .int x15), (3, .int e3_24)] [] Me_24 := by
      intro e3_24 Me_24 hp
      subst hp
      replace h := pr2_i h
      refine q_aload_n cx (pc' := 64) 0 rfl dX9_heaviest_63 rfl ?_
      obtain ⟨ht64, r64, ex64, h⟩ := gR_i h
      refine q_gR cx (pc' := 67) 9 5 fl_X9_26 rfl ht64 ex64 dX9_heaviest_64 rfl ?_
      refine q_iload_n cx (pc' := 68) 1 rfl dX9_heaviest_67 rfl ?_
      refine q_iload_n cx (pc' := 69) 2 rfl dX9_heaviest_68 rfl ?_
      obtain ⟨ht69, hi69, M69, eM69, h⟩ := wI_i h
      refine q_iast cx (pc' := 70) ht69 hi69 eM69 dX9_heaviest_69 rfl ?_
      refine q_iload_n cx (pc' := 71) 3 rfl dX9_heaviest_70 rfl ?_
      obtain ⟨rfl, rfl⟩ := o2_i h
      rw [hQ]
      exact q_iret cx dX9_heaviest_71
    have key24 : ∀ (n : Nat) (w3_24 : Int32) (w4_24 : Int32) (Mw_24 : QM), itr (fun s24 : Int32 × Int32 × QM => lp_X9_heaviest_24 ths p1 s24.1 s24.2.1 s24.2.2) n (w3_24, w4_24, Mw_24) = some r24 → EE p l e rm_X9_heaviest s m args below meth c Q Γ 5 0 0 24 [(0, .ref ths), (1, .int p1), (2, .int x15), (3, .int w3_24), (4, .int w4_24)] [] Mw_24 := by
      intro n
      induction n with
      | zero => intro _ _ _ h; exact (itr_0 h).elim
      | succ n ih =>
        intro w3_24 w4_24 Mw_24 h
        obtain ⟨z24, h, hz24⟩ := itr_i h
        replace h : lp_X9_heaviest_24 ths p1 w3_24 w4_24 Mw_24 = some z24 := h
        unfold lp_X9_heaviest_24 at h
        refine q_iload cx (pc' := 26) 4 rfl dX9_heaviest_24 rfl ?_
        refine q_if_lt cx (pc' := 29) (tgt := 63) dX9_heaviest_26 (by decide) rfl (fun c26 => ?_) (fun c26 => ?_)
        · replace h := ip c26 h
          refine q_sub cx [0, 1, 2, 3] rfl ?_
          exact hk24_0 _ _ (hz24.2 _ h)
        · replace h := ine c26 h
          refine q_iload_n cx (pc' := 30) 3 rfl dX9_heaviest_29 rfl ?_
          refine q_if_ge cx (pc' := 33) (tgt := 63) dX9_heaviest_30 (by decide) rfl (fun c30 => ?_) (fun c30 => ?_)
          · replace h := ip c30 h
            refine q_sub cx [0, 1, 2, 3] rfl ?_
            exact hk24_0 _ _ (hz24.2 _ h)
          · replace h := ine c30 h
            refine q_aload_n cx (pc' := 34) 0 rfl dX9_heaviest_33 rfl ?_
            obtain ⟨ht34, r34, ex34, h⟩ := gR_i h
            refine q_gR cx (pc' := 37) 9 5 fl_X9_26 rfl ht34 ex34 dX9_heaviest_34 rfl ?_
            refine q_iload_n cx (pc' := 38) 1 rfl dX9_heaviest_37 rfl ?_
            refine q_iload cx (pc' := 40) 4 rfl dX9_heaviest_38 rfl ?_
            obtain ⟨ht40, hi40, M40, eM40, h⟩ := wI_i h
            refine q_iast cx (pc' := 41) ht40 hi40 eM40 dX9_heaviest_40 rfl ?_
            refine q_aload_n cx (pc' := 42) 0 rfl dX9_heaviest_41 rfl ?_
            refine q_iload_n cx (pc' := 43) 1 rfl dX9_heaviest_42 rfl ?_
            obtain ⟨hk43, h⟩ := ck_i h
            obtain ⟨⟨c43, M43⟩, hc43, h⟩ := bnd_i h
            replace h := pr2_i h
            refine q_callV cx (pc' := 46) (S := []) (S1 := [.int c43]) (kc' := 0) (ks' := 0) 9 (ct_X9_canCross Γ l M40 ths p1 hk43 _ _ hc43) lki_X9_canCross lkv_X9_canCross lkc_X9_342 hk43 (r := (RX9, TX9, 70)) ⟨rfl, by decide, rfl⟩ rfl rfl (Nat.le_of_ble_eq_true rfl) ⟨(Nat.le_of_ble_eq_true rfl), (Nat.le_of_ble_eq_true rfl)⟩ ⟨(Nat.le_of_ble_eq_true rfl), (Nat.le_of_ble_eq_true rfl)⟩ dX9_heaviest_43 rfl rfl rfl ?_
            refine q_if_eq cx (pc' := 49) (tgt := 54) dX9_heaviest_46 (by decide) rfl (fun c46 => ?_) (fun c46 => ?_)
            · replace h := ip c46 h
              refine q_bipush cx (pc' := 56) kb_m5 dX9_heaviest_54 rfl ?_
              refine q_istore_n cx (pc' := 57) rfl rfl (by decide) (L' := [(3, .int (-5)), (0, .ref ths), (1, .int p1), (2, .int x15), (4, .int w4_24)]) rfl dX9_heaviest_56 rfl ?_
              obtain ⟨v4_57, ev4_57, h⟩ := nm_i h
              refine q_iinc cx (pc' := 60) 4 rfl ki_m1 ev4_57 (by decide) (L' := [(4, .int v4_57), (3, .int (-5)), (0, .ref ths), (1, .int p1), (2, .int x15)]) rfl dX9_heaviest_57 rfl ?_
              refine q_goto cx dX9_heaviest_60 (tgt := 24) (by decide) ?_
              refine q_sub cx [2, 3, 4, 1, 0] rfl ?_
              exact ih _ _ _ (hz24.1 _ h)
            · replace h := ine c46 h
              refine q_iload cx (pc' := 51) 4 rfl dX9_heaviest_49 rfl ?_
              refine q_goto cx dX9_heaviest_51 (tgt := 56) (by decide) ?_
              refine q_istore_n cx (pc' := 57) rfl rfl (by decide) (L' := [(3, .int w4_24), (0, .ref ths), (1, .int p1), (2, .int x15), (4, .int w4_24)]) rfl dX9_heaviest_56 rfl ?_
              obtain ⟨v4_57, ev4_57, h⟩ := nm_i h
              refine q_iinc cx (pc' := 60) 4 rfl ki_m1 ev4_57 (by decide) (L' := [(4, .int v4_57), (3, .int w4_24), (0, .ref ths), (1, .int p1), (2, .int x15)]) rfl dX9_heaviest_57 rfl ?_
              refine q_goto cx dX9_heaviest_60 (tgt := 24) (by decide) ?_
              refine q_sub cx [2, 3, 4, 1, 0] rfl ?_
              exact ih _ _ _ (hz24.1 _ h)
    refine q_sub cx [3, 4, 2, 1, 0] rfl ?_
    exact key24 FU _ _ _ hL24
  · replace h := ip c5 h
    refine q_iconst cx (pc' := 9) ki_m1 dX9_heaviest_8 rfl ?_
    obtain ⟨rfl, rfl⟩ := o2_i h
    rw [hQ]
    exact q_iret cx dX9_heaviest_9

abbrev rm_X9_isCutBy : Room := { frames := 8, cells := 0, slots := 0, locals := 197 }
def fn_X9_isCutBy (M : QM) (ths : Nat) (p1 : Int32) (p2 : Int32) : Option (Int32 × QM) :=
  pI M ths 9 25 p2 fun M2 =>
  ck M2 ths 9 <|
  bnd (fn_X9_canCross M2 ths p1) fun y7 =>
  pr2 y7 fun c7 M7 =>
  if c7 = 0 then
    pI M7 ths 9 25 0 fun M21 =>
    some (1, M21)
  else
    pI M7 ths 9 25 0 fun M21 =>
    some (0, M21)
set_option maxRecDepth 100000 in
set_option maxHeartbeats 4000000 in
theorem ct_X9_isCutBy (Γ : GT) (l : Launch) (M : QM) (ths : Nat) (p1 : Int32) (p2 : Int32) (ht0 : mt M ths = 9) (z : Int32) (M' : QM) (h : fn_X9_isCutBy M ths p1 p2 = some (z, M')) : CT Γ l yX9_isCutBy cX9_isCutBy 4 (some .boolean) rm_X9_isCutBy (.ref ths :: [.int p1, .int p2]) M (some (.int z)) M' := by
  refine ct_intro (own := RX9) (L := [(0, .ref ths), (1, .int p1), (2, .int p2)]) (by decide +kernel) rfl (Nat.le_of_ble_eq_true rfl) rfl ?_
  intro p e s m args below meth c Q hQ cx hnm
  unfold fn_X9_isCutBy at h
  refine q_aload_n cx (pc' := 1) 0 rfl dX9_isCutBy_0 rfl ?_
  refine q_iload_n cx (pc' := 2) 2 rfl dX9_isCutBy_1 rfl ?_
  obtain ⟨ht2, M2, eM2, h⟩ := pI_i h
  refine q_pI cx (pc' := 5) 9 25 fl_X9_87 rfl ht2 (ty := .int) ⟨(RX9, TX9, 70), rfl, by decide +kernel, Or.inl rfl⟩ rfl rfl eM2 dX9_isCutBy_2 rfl ?_
  refine q_aload_n cx (pc' := 6) 0 rfl dX9_isCutBy_5 rfl ?_
  refine q_iload_n cx (pc' := 7) 1 rfl dX9_isCutBy_6 rfl ?_
  obtain ⟨hk7, h⟩ := ck_i h
  obtain ⟨⟨c7, M7⟩, hc7, h⟩ := bnd_i h
  replace h := pr2_i h
  refine q_callV cx (pc' := 10) (S := []) (S1 := [.int c7]) (kc' := 0) (ks' := 0) 9 (ct_X9_canCross Γ l M2 ths p1 hk7 _ _ hc7) lki_X9_canCross lkv_X9_canCross lkc_X9_342 hk7 (r := (RX9, TX9, 70)) ⟨rfl, by decide, rfl⟩ rfl rfl (Nat.le_of_ble_eq_true rfl) ⟨(Nat.le_of_ble_eq_true rfl), (Nat.le_of_ble_eq_true rfl)⟩ ⟨(Nat.le_of_ble_eq_true rfl), (Nat.le_of_ble_eq_true rfl)⟩ dX9_isCutBy_7 rfl rfl rfl ?_
  refine q_if_ne cx (pc' := 13) (tgt := 17) dX9_isCutBy_10 (by decide) rfl (fun c10 => ?_) (fun c10 => ?_)
  · replace h := ine c10 h
    refine q_iconst cx (pc' := 18) ki_0 dX9_isCutBy_17 rfl ?_
    refine q_istore_n cx (pc' := 19) rfl rfl (by decide) (L' := [(3, .int 0), (0, .ref ths), (1, .int p1), (2, .int p2)]) rfl dX9_isCutBy_18 rfl ?_
    refine q_aload_n cx (pc' := 20) 1 rfl dX9_isCutBy_19 rfl ?_
    refine q_iconst cx (pc' := 21) ki_0 dX9_isCutBy_20 rfl ?_
    obtain ⟨ht21, M21, eM21, h⟩ := pI_i h
    refine q_pI cx (pc' := 24) 9 25 fl_X9_87 rfl ht21 (ty := .int) ⟨(RX9, TX9, 70), rfl, by decide +kernel, Or.inl rfl⟩ rfl rfl eM21 dX9_isCutBy_21 rfl ?_
    refine q_iload_n cx (pc' := 25) 0 rfl dX9_isCutBy_24 rfl ?_
    obtain ⟨rfl, rfl⟩ := o2_i h
    rw [hQ]
    exact q_nret cx rfl dX9_isCutBy_25
  · replace h := ip c10 h
    refine q_iconst cx (pc' := 14) ki_1 dX9_isCutBy_13 rfl ?_
    refine q_goto cx dX9_isCutBy_14 (tgt := 18) (by decide) ?_
    refine q_istore_n cx (pc' := 19) rfl rfl (by decide) (L' := [(3, .int 1), (0, .ref ths), (1, .int p1), (2, .int p2)]) rfl dX9_isCutBy_18 rfl ?_
    refine q_aload_n cx (pc' := 20) 1 rfl dX9_isCutBy_19 rfl ?_
    refine q_iconst cx (pc' := 21) ki_0 dX9_isCutBy_20 rfl ?_
    obtain ⟨ht21, M21, eM21, h⟩ := pI_i h
    refine q_pI cx (pc' := 24) 9 25 fl_X9_87 rfl ht21 (ty := .int) ⟨(RX9, TX9, 70), rfl, by decide +kernel, Or.inl rfl⟩ rfl rfl eM21 dX9_isCutBy_21 rfl ?_
    refine q_iload_n cx (pc' := 25) 0 rfl dX9_isCutBy_24 rfl ?_
    obtain ⟨rfl, rfl⟩ := o2_i h
    rw [hQ]
    exact q_nret cx rfl dX9_isCutBy_25

abbrev rm_X9_leastCut : Room := { frames := 9, cells := 0, slots := 0, locals := 220 }
def jn_X9_leastCut_74_58 (ths : Nat) (p1 : Int32) (j4_24 : Int32) (j5_56 : Int32) (j3_74 : Int32) (j6_74 : Int32) (js0_74 : Int32) (js1_74 : Int32) (Mj_74 : QM) : Option ((Int32 × Int32 × QM) ⊕ (Int32 × QM)) :=
  if js0_74 ≤ js1_74 then
    some (.inr (j3_74, Mj_74))
  else
    nm (((1 <<< (j4_24 &&& 31)) ||| (1 <<< (j5_56 &&& 31))) ||| (1 <<< (j6_74 &&& 31))) fun v7_91 =>
    if 0 ≤ j3_74 then
      nm (j6_74 + 1) fun v6_110 =>
      some (.inl (j3_74, v6_110, Mj_74))
    else
      ck Mj_74 ths 9 <|
      bnd (fn_X9_isCutBy Mj_74 ths p1 v7_91) fun y101 =>
      pr2 y101 fun c101 M101 =>
      if c101 = 0 then
        nm (j6_74 + 1) fun v6_110 =>
        some (.inl (j3_74, v6_110, M101))
      else
        nm (j6_74 + 1) fun v6_110 =>
        some (.inl (v7_91, v6_110, M101))
def lp_X9_leastCut_58 (ths : Nat) (p1 : Int32) (p2 : Int32) (j4_24 : Int32) (j5_56 : Int32) (w3_58 : Int32) (w6_58 : Int32) (Mw_58 : QM) : Option ((Int32 × Int32 × QM) ⊕ (Int32 × QM)) :=
  if p2 ≤ 2 then
    jn_X9_leastCut_74_58 ths p1 j4_24 j5_56 w3_58 w6_58 (j5_56 + 1) w6_58 Mw_58
  else
    jn_X9_leastCut_74_58 ths p1 j4_24 j5_56 w3_58 w6_58 j5_56 w6_58 Mw_58
def jn_X9_leastCut_56_26 (ths : Nat) (p1 : Int32) (p2 : Int32) (j4_24 : Int32) (j3_56 : Int32) (j5_56 : Int32) (js0_56 : Int32) (Mj_56 : QM) : Option ((Int32 × Int32 × QM) ⊕ (Int32 × QM)) :=
  bnd (itr (fun s58 : Int32 × Int32 × QM => lp_X9_leastCut_58 ths p1 p2 j4_24 j5_56 s58.1 s58.2.1 s58.2.2) FU (j3_56, js0_56, Mj_56)) fun r58 =>
  pr2 r58 fun e3_58 Me_58 =>
  nm (j5_56 + 1) fun v5_116 =>
  some (.inl (e3_58, v5_116, Me_58))
def jn_X9_leastCut_42_26 (ths : Nat) (p1 : Int32) (p2 : Int32) (j4_24 : Int32) (j3_42 : Int32) (j5_42 : Int32) (js0_42 : Int32) (js1_42 : Int32) (Mj_42 : QM) : Option ((Int32 × Int32 × QM) ⊕ (Int32 × QM)) :=
  if js0_42 ≤ js1_42 then
    some (.inr (j3_42, Mj_42))
  else
    if p2 ≤ 2 then
      jn_X9_leastCut_56_26 ths p1 p2 j4_24 j3_42 j5_42 j5_42 Mj_42
    else
      jn_X9_leastCut_56_26 ths p1 p2 j4_24 j3_42 j5_42 0 Mj_42
def lp_X9_leastCut_26 (ths : Nat) (p1 : Int32) (p2 : Int32) (j4_24 : Int32) (w3_26 : Int32) (w5_26 : Int32) (Mw_26 : QM) : Option ((Int32 × Int32 × QM) ⊕ (Int32 × QM)) :=
  if p2 ≤ 1 then
    jn_X9_leastCut_42_26 ths p1 p2 j4_24 w3_26 w5_26 (j4_24 + 1) w5_26 Mw_26
  else
    jn_X9_leastCut_42_26 ths p1 p2 j4_24 w3_26 w5_26 j4_24 w5_26 Mw_26
def jn_X9_leastCut_24_6 (ths : Nat) (p1 : Int32) (p2 : Int32) (j3_24 : Int32) (j4_24 : Int32) (js0_24 : Int32) (Mj_24 : QM) : Option ((Int32 × Int32 × QM) ⊕ (Int32 × QM)) :=
  bnd (itr (fun s26 : Int32 × Int32 × QM => lp_X9_leastCut_26 ths p1 p2 j4_24 s26.1 s26.2.1 s26.2.2) FU (j3_24, js0_24, Mj_24)) fun r26 =>
  pr2 r26 fun e3_26 Me_26 =>
  nm (j4_24 + 1) fun v4_122 =>
  some (.inl (e3_26, v4_122, Me_26))
def lp_X9_leastCut_6 (ths : Nat) (p1 : Int32) (p2 : Int32) (w3_6 : Int32) (w4_6 : Int32) (Mw_6 : QM) : Option ((Int32 × Int32 × QM) ⊕ (Int32 × QM)) :=
  if 16 ≤ w4_6 then
    some (.inr (w3_6, Mw_6))
  else
    if p2 ≤ 1 then
      jn_X9_leastCut_24_6 ths p1 p2 w3_6 w4_6 w4_6 Mw_6
    else
      jn_X9_leastCut_24_6 ths p1 p2 w3_6 w4_6 0 Mw_6
def fn_X9_leastCut (M : QM) (ths : Nat) (p1 : Int32) (p2 : Int32) : Option (Int32 × QM) :=
  bnd (itr (fun s6 : Int32 × Int32 × QM => lp_X9_leastCut_6 ths p1 p2 s6.1 s6.2.1 s6.2.2) FU ((-5), 0, M)) fun r6 =>
  pr2 r6 fun re_6 Mr_6 =>
  some (re_6, Mr_6)
set_option maxRecDepth 100000 in
set_option maxHeartbeats 4000000 in
theorem ct_X9_leastCut (Γ : GT) (l : Launch) (M : QM) (ths : Nat) (p1 : Int32) (p2 : Int32) (ht0 : mt M ths = 9) (z : Int32) (M' : QM) (h : fn_X9_leastCut M ths p1 p2 = some (z, M')) : CT Γ l yX9_leastCut cX9_leastCut 8 (some .int) rm_X9_leastCut (.ref ths :: [.int p1, .int p2]) M (some (.int z)) M' := by
  refine ct_intro (own := RX9) (L := [(0, .ref ths), (1, .int p1), (2, .int p2)]) (by decide +kernel) rfl (Nat.le_of_ble_eq_true rfl) rfl ?_
  intro p e s m args below meth c Q hQ cx hnm
  unfold fn_X9_leastCut at h
  refine q_bipush cx (pc' := 2) kb_m5 dX9_leastCut_0 rfl ?_
  refine q_istore_n cx (pc' := 3) rfl rfl (by decide) (L' := [(3, .int (-5)), (0, .ref ths), (1, .int p1), (2, .int p2)]) rfl dX9_leastCut_2 rfl ?_
  refine q_iconst cx (pc' := 4) ki_0 dX9_leastCut_3 rfl ?_
  refine q_istore cx (pc' := 6) rfl (by decide) (L' := [(4, .int 0), (3, .int (-5)), (0, .ref ths), (1, .int p1), (2, .int p2)]) rfl dX9_leastCut_4 rfl ?_
  obtain ⟨r6, hL6, h⟩ := bnd_i h
  have hk6_r : ∀ (re_6 : Int32) (Mr_6 : QM), (re_6, Mr_6) = r6 → some (re_6, Mr_6) = some (z, M') := by
    intro re_6 Mr_6 hp
    subst hp
    replace h := pr2_i h
    exact h
  have key6 : ∀ (n : Nat) (w3_6 : Int32) (w4_6 : Int32) (Mw_6 : QM), itr (fun s6 : Int32 × Int32 × QM => lp_X9_leastCut_6 ths p1 p2 s6.1 s6.2.1 s6.2.2) n (w3_6, w4_6, Mw_6) = some r6 → EE p l e rm_X9_leastCut s m args below meth c Q Γ 8 0 0 6 [(0, .ref ths), (1, .int p1), (2, .int p2), (3, .int w3_6), (4, .int w4_6)] [] Mw_6 := by
    intro n
    induction n with
    | zero => intro _ _ _ h; exact (itr_0 h).elim
    | succ n ih =>
      intro w3_6 w4_6 Mw_6 h
      obtain ⟨z6, h, hz6⟩ := itr_i h
      replace h : lp_X9_leastCut_6 ths p1 p2 w3_6 w4_6 Mw_6 = some z6 := h
      unfold lp_X9_leastCut_6 at h
      have hj24 : ∀ (j3_24 : Int32) (j4_24 : Int32) (js0_24 : Int32) (Mj_24 : QM), jn_X9_leastCut_24_6 ths p1 p2 j3_24 j4_24 js0_24 Mj_24 = some z6 → EE p l e rm_X9_leastCut s m args below meth c Q Γ 8 0 0 24 [(0, .ref ths), (1, .int p1), (2, .int p2), (3, .int j3_24), (4, .int j4_24)] [.int js0_24] Mj_24 := by
        intro j3_24 j4_24 js0_24 Mj_24 h
        unfold jn_X9_leastCut_24_6 at h
        refine q_istore cx (pc' := 26) rfl (by decide) (L' := [(5, .int js0_24), (0, .ref ths), (1, .int p1), (2, .int p2), (3, .int j3_24), (4, .int j4_24)]) rfl dX9_leastCut_24 rfl ?_
        obtain ⟨r26, hL26, h⟩ := bnd_i h
        have hk26_0 : ∀ (e3_26 : Int32) (Me_26 : QM), (e3_26, Me_26) = r26 → EE p l e rm_X9_leastCut s m args below meth c Q Γ 8 0 0 122 [(0, .ref ths), (1, .int p1), (2, .int p2), (3, .int e3_26), (4, .int j4_24)] [] Me_26 := by
          intro e3_26 Me_26 hp
          subst hp
          replace h := pr2_i h
          obtain ⟨v4_122, ev4_122, h⟩ := nm_i h
          refine q_iinc cx (pc' := 125) 4 rfl ki_1 ev4_122 (by decide) (L' := [(4, .int v4_122), (0, .ref ths), (1, .int p1), (2, .int p2), (3, .int e3_26)]) rfl dX9_leastCut_122 rfl ?_
          refine q_goto cx dX9_leastCut_125 (tgt := 6) (by decide) ?_
          refine q_sub cx [1, 2, 3, 4, 0] rfl ?_
          exact ih _ _ _ (hz6.1 _ h)
        have key26 : ∀ (n : Nat) (w3_26 : Int32) (w5_26 : Int32) (Mw_26 : QM), itr (fun s26 : Int32 × Int32 × QM => lp_X9_leastCut_26 ths p1 p2 j4_24 s26.1 s26.2.1 s26.2.2) n (w3_26, w5_26, Mw_26) = some r26 → EE p l e rm_X9_leastCut s m args below meth c Q Γ 8 0 0 26 [(0, .ref ths), (1, .int p1), (2, .int p2), (3, .int w3_26), (4, .int j4_24), (5, .int w5_26)] [] Mw_26 := by
          intro n
          induction n with
          | zero => intro _ _ _ h; exact (itr_0 h).elim
          | succ n ih =>
            intro w3_26 w5_26 Mw_26 h
            obtain ⟨z26, h, hz26⟩ := itr_i h
            replace h : lp_X9_leastCut_26 ths p1 p2 j4_24 w3_26 w5_26 Mw_26 = some z26 := h
            unfold lp_X9_leastCut_26 at h
            have hj56 : ∀ (j3_56 : Int32) (j5_56 : Int32) (js0_56 : Int32) (Mj_56 : QM), jn_X9_leastCut_56_26 ths p1 p2 j4_24 j3_56 j5_56 js0_56 Mj_56 = some z26 → EE p l e rm_X9_leastCut s m args below meth c Q Γ 8 0 0 56 [(0, .ref ths), (1, .int p1), (2, .int p2), (3, .int j3_56), (4, .int j4_24), (5, .int j5_56)] [.int js0_56] Mj_56 := by
              intro j3_56 j5_56 js0_56 Mj_56 h
              unfold jn_X9_leastCut_56_26 at h
              refine q_istore cx (pc' := 58) rfl (by decide) (L' := [(6, .int js0_56), (0, .ref ths), (1, .int p1), (2, .int p2), (3, .int j3_56), (4, .int j4_24), (5, .int j5_56)]) rfl dX9_leastCut_56 rfl ?_
              obtain ⟨r58, hL58, h⟩ := bnd_i h
              have hk58_0 : ∀ (e3_58 : Int32) (Me_58 : QM), (e3_58, Me_58) = r58 → EE p l e rm_X9_leastCut s m args below meth c Q Γ 8 0 0 116 [(0, .ref ths), (1, .int p1), (2, .int p2), (3, .int e3_58), (4, .int j4_24), (5, .int j5_56)] [] Me_58 := by
                intro e3_58 Me_58 hp
                subst hp
                replace h := pr2_i h
                obtain ⟨v5_116, ev5_116, h⟩ := nm_i h
                refine q_iinc cx (pc' := 119) 5 rfl ki_1 ev5_116 (by decide) (L' := [(5, .int v5_116), (0, .ref ths), (1, .int p1), (2, .int p2), (3, .int e3_58), (4, .int j4_24)]) rfl dX9_leastCut_116 rfl ?_
                refine q_goto cx dX9_leastCut_119 (tgt := 26) (by decide) ?_
                refine q_sub cx [1, 2, 3, 4, 5, 0] rfl ?_
                exact ih _ _ _ (hz26.1 _ h)
              have key58 : ∀ (n : Nat) (w3_58 : Int32) (w6_58 : Int32) (Mw_58 : QM), itr (fun s58 : Int32 × Int32 × QM => lp_X9_leastCut_58 ths p1 p2 j4_24 j5_56 s58.1 s58.2.1 s58.2.2) n (w3_58, w6_58, Mw_58) = some r58 → EE p l e rm_X9_leastCut s m args below meth c Q Γ 8 0 0 58 [(0, .ref ths), (1, .int p1), (2, .int p2), (3, .int w3_58), (4, .int j4_24), (5, .int j5_56), (6, .int w6_58)] [] Mw_58 := by
                intro n
                induction n with
                | zero => intro _ _ _ h; exact (itr_0 h).elim
                | succ n ih =>
                  intro w3_58 w6_58 Mw_58 h
                  obtain ⟨z58, h, hz58⟩ := itr_i h
                  replace h : lp_X9_leastCut_58 ths p1 p2 j4_24 j5_56 w3_58 w6_58 Mw_58 = some z58 := h
                  unfold lp_X9_leastCut_58 at h
                  have hj74 : ∀ (j3_74 : Int32) (j6_74 : Int32) (js0_74 : Int32) (js1_74 : Int32) (Mj_74 : QM), jn_X9_leastCut_74_58 ths p1 j4_24 j5_56 j3_74 j6_74 js0_74 js1_74 Mj_74 = some z58 → EE p l e rm_X9_leastCut s m args below meth c Q Γ 8 0 0 74 [(0, .ref ths), (1, .int p1), (2, .int p2), (3, .int j3_74), (4, .int j4_24), (5, .int j5_56), (6, .int j6_74)] [.int js0_74, .int js1_74] Mj_74 := by
                    intro j3_74 j6_74 js0_74 js1_74 Mj_74 h
                    unfold jn_X9_leastCut_74_58 at h
                    refine q_icmp_ge cx (pc' := 77) (tgt := 116) dX9_leastCut_74 (by decide) rfl (fun c74 => ?_) (fun c74 => ?_)
                    · replace h := ip c74 h
                      refine q_sub cx [0, 1, 2, 3, 4, 5] rfl ?_
                      exact hk58_0 _ _ (hz58.2 _ h)
                    · replace h := ine c74 h
                      refine q_iconst cx (pc' := 78) ki_1 dX9_leastCut_77 rfl ?_
                      refine q_iload cx (pc' := 80) 4 rfl dX9_leastCut_78 rfl ?_
                      refine q_ishl cx (pc' := 81) dX9_leastCut_80 rfl ?_
                      refine q_iconst cx (pc' := 82) ki_1 dX9_leastCut_81 rfl ?_
                      refine q_iload cx (pc' := 84) 5 rfl dX9_leastCut_82 rfl ?_
                      refine q_ishl cx (pc' := 85) dX9_leastCut_84 rfl ?_
                      refine q_ior cx (pc' := 86) dX9_leastCut_85 rfl ?_
                      refine q_iconst cx (pc' := 87) ki_1 dX9_leastCut_86 rfl ?_
                      refine q_iload cx (pc' := 89) 6 rfl dX9_leastCut_87 rfl ?_
                      refine q_ishl cx (pc' := 90) dX9_leastCut_89 rfl ?_
                      refine q_ior cx (pc' := 91) dX9_leastCut_90 rfl ?_
                      obtain ⟨v7_91, ev7_91, h⟩ := nm_i h
                      refine q_istore cx (pc' := 93) ev7_91 (by decide) (L' := [(7, .int v7_91), (0, .ref ths), (1, .int p1), (2, .int p2), (3, .int j3_74), (4, .int j4_24), (5, .int j5_56), (6, .int j6_74)]) rfl dX9_leastCut_91 rfl ?_
                      refine q_iload_n cx (pc' := 94) 4 rfl dX9_leastCut_93 rfl ?_
                      refine q_if_ge cx (pc' := 97) (tgt := 110) dX9_leastCut_94 (by decide) rfl (fun c94 => ?_) (fun c94 => ?_)
                      · replace h := ip c94 h
                        obtain ⟨v6_110, ev6_110, h⟩ := nm_i h
                        refine q_iinc cx (pc' := 113) 7 rfl ki_1 ev6_110 (by decide) (L' := [(6, .int v6_110), (7, .int v7_91), (0, .ref ths), (1, .int p1), (2, .int p2), (3, .int j3_74), (4, .int j4_24), (5, .int j5_56)]) rfl dX9_leastCut_110 rfl ?_
                        refine q_goto cx dX9_leastCut_113 (tgt := 58) (by decide) ?_
                        refine q_sub cx [2, 3, 4, 5, 6, 7, 0] rfl ?_
                        exact ih _ _ _ (hz58.1 _ h)
                      · replace h := ine c94 h
                        refine q_aload_n cx (pc' := 98) 1 rfl dX9_leastCut_97 rfl ?_
                        refine q_iload_n cx (pc' := 99) 2 rfl dX9_leastCut_98 rfl ?_
                        refine q_iload cx (pc' := 101) 0 rfl dX9_leastCut_99 rfl ?_
                        obtain ⟨hk101, h⟩ := ck_i h
                        obtain ⟨⟨c101, M101⟩, hc101, h⟩ := bnd_i h
                        replace h := pr2_i h
                        refine q_callV cx (pc' := 104) (S := []) (S1 := [.int c101]) (kc' := 0) (ks' := 0) 9 (ct_X9_isCutBy Γ l Mj_74 ths p1 v7_91 hk101 _ _ hc101) lki_X9_isCutBy lkv_X9_isCutBy lkc_X9_382 hk101 (r := (RX9, TX9, 70)) ⟨rfl, by decide, rfl⟩ rfl rfl (Nat.le_of_ble_eq_true rfl) ⟨(Nat.le_of_ble_eq_true rfl), (Nat.le_of_ble_eq_true rfl)⟩ ⟨(Nat.le_of_ble_eq_true rfl), (Nat.le_of_ble_eq_true rfl)⟩ dX9_leastCut_101 rfl rfl rfl ?_
                        refine q_if_eq cx (pc' := 107) (tgt := 110) dX9_leastCut_104 (by decide) rfl (fun c104 => ?_) (fun c104 => ?_)
                        · replace h := ip c104 h
                          obtain ⟨v6_110, ev6_110, h⟩ := nm_i h
                          refine q_iinc cx (pc' := 113) 7 rfl ki_1 ev6_110 (by decide) (L' := [(6, .int v6_110), (7, .int v7_91), (0, .ref ths), (1, .int p1), (2, .int p2), (3, .int j3_74), (4, .int j4_24), (5, .int j5_56)]) rfl dX9_leastCut_110 rfl ?_
                          refine q_goto cx dX9_leastCut_113 (tgt := 58) (by decide) ?_
                          refine q_sub cx [2, 3, 4, 5, 6, 7, 0] rfl ?_
                          exact ih _ _ _ (hz58.1 _ h)
                        · replace h := ine c104 h
                          refine q_iload cx (pc' := 109) 0 rfl dX9_leastCut_107 rfl ?_
                          refine q_istore_n cx (pc' := 110) rfl rfl (by decide) (L' := [(3, .int v7_91), (7, .int v7_91), (0, .ref ths), (1, .int p1), (2, .int p2), (4, .int j4_24), (5, .int j5_56), (6, .int j6_74)]) rfl dX9_leastCut_109 rfl ?_
                          obtain ⟨v6_110, ev6_110, h⟩ := nm_i h
                          refine q_iinc cx (pc' := 113) 7 rfl ki_1 ev6_110 (by decide) (L' := [(6, .int v6_110), (3, .int v7_91), (7, .int v7_91), (0, .ref ths), (1, .int p1), (2, .int p2), (4, .int j4_24), (5, .int j5_56)]) rfl dX9_leastCut_110 rfl ?_
                          refine q_goto cx dX9_leastCut_113 (tgt := 58) (by decide) ?_
                          refine q_sub cx [3, 4, 5, 1, 6, 7, 0] rfl ?_
                          exact ih _ _ _ (hz58.1 _ h)
                  refine q_iload cx (pc' := 60) 6 rfl dX9_leastCut_58 rfl ?_
                  refine q_iload_n cx (pc' := 61) 2 rfl dX9_leastCut_60 rfl ?_
                  refine q_iconst cx (pc' := 62) ki_2 dX9_leastCut_61 rfl ?_
                  refine q_icmp_le cx (pc' := 65) (tgt := 70) dX9_leastCut_62 (by decide) rfl (fun c62 => ?_) (fun c62 => ?_)
                  · replace h := ip c62 h
                    refine q_iload cx (pc' := 72) 5 rfl dX9_leastCut_70 rfl ?_
                    refine q_iconst cx (pc' := 73) ki_1 dX9_leastCut_72 rfl ?_
                    refine q_iadd cx (pc' := 74) dX9_leastCut_73 rfl ?_
                    refine q_sub cx [0, 1, 2, 3, 4, 5, 6] rfl ?_
                    exact hj74 _ _ _ _ _ h
                  · replace h := ine c62 h
                    refine q_iload cx (pc' := 67) 5 rfl dX9_leastCut_65 rfl ?_
                    refine q_goto cx dX9_leastCut_67 (tgt := 74) (by decide) ?_
                    refine q_sub cx [0, 1, 2, 3, 4, 5, 6] rfl ?_
                    exact hj74 _ _ _ _ _ h
              refine q_sub cx [1, 2, 3, 4, 5, 6, 0] rfl ?_
              exact key58 FU _ _ _ hL58
            have hj42 : ∀ (j3_42 : Int32) (j5_42 : Int32) (js0_42 : Int32) (js1_42 : Int32) (Mj_42 : QM), jn_X9_leastCut_42_26 ths p1 p2 j4_24 j3_42 j5_42 js0_42 js1_42 Mj_42 = some z26 → EE p l e rm_X9_leastCut s m args below meth c Q Γ 8 0 0 42 [(0, .ref ths), (1, .int p1), (2, .int p2), (3, .int j3_42), (4, .int j4_24), (5, .int j5_42)] [.int js0_42, .int js1_42] Mj_42 := by
              intro j3_42 j5_42 js0_42 js1_42 Mj_42 h
              unfold jn_X9_leastCut_42_26 at h
              refine q_icmp_ge cx (pc' := 45) (tgt := 122) dX9_leastCut_42 (by decide) rfl (fun c42 => ?_) (fun c42 => ?_)
              · replace h := ip c42 h
                refine q_sub cx [0, 1, 2, 3, 4] rfl ?_
                exact hk26_0 _ _ (hz26.2 _ h)
              · replace h := ine c42 h
                refine q_iload_n cx (pc' := 46) 2 rfl dX9_leastCut_45 rfl ?_
                refine q_iconst cx (pc' := 47) ki_2 dX9_leastCut_46 rfl ?_
                refine q_icmp_le cx (pc' := 50) (tgt := 54) dX9_leastCut_47 (by decide) rfl (fun c47 => ?_) (fun c47 => ?_)
                · replace h := ip c47 h
                  refine q_iload cx (pc' := 56) 5 rfl dX9_leastCut_54 rfl ?_
                  refine q_sub cx [0, 1, 2, 3, 4, 5] rfl ?_
                  exact hj56 _ _ _ _ h
                · replace h := ine c47 h
                  refine q_iconst cx (pc' := 51) ki_0 dX9_leastCut_50 rfl ?_
                  refine q_goto cx dX9_leastCut_51 (tgt := 56) (by decide) ?_
                  refine q_sub cx [0, 1, 2, 3, 4, 5] rfl ?_
                  exact hj56 _ _ _ _ h
            refine q_iload cx (pc' := 28) 5 rfl dX9_leastCut_26 rfl ?_
            refine q_iload_n cx (pc' := 29) 2 rfl dX9_leastCut_28 rfl ?_
            refine q_iconst cx (pc' := 30) ki_1 dX9_leastCut_29 rfl ?_
            refine q_icmp_le cx (pc' := 33) (tgt := 38) dX9_leastCut_30 (by decide) rfl (fun c30 => ?_) (fun c30 => ?_)
            · replace h := ip c30 h
              refine q_iload cx (pc' := 40) 4 rfl dX9_leastCut_38 rfl ?_
              refine q_iconst cx (pc' := 41) ki_1 dX9_leastCut_40 rfl ?_
              refine q_iadd cx (pc' := 42) dX9_leastCut_41 rfl ?_
              refine q_sub cx [0, 1, 2, 3, 4, 5] rfl ?_
              exact hj42 _ _ _ _ _ h
            · replace h := ine c30 h
              refine q_iload cx (pc' := 35) 4 rfl dX9_leastCut_33 rfl ?_
              refine q_goto cx dX9_leastCut_35 (tgt := 42) (by decide) ?_
              refine q_sub cx [0, 1, 2, 3, 4, 5] rfl ?_
              exact hj42 _ _ _ _ _ h
        refine q_sub cx [1, 2, 3, 4, 5, 0] rfl ?_
        exact key26 FU _ _ _ hL26
      refine q_iload cx (pc' := 8) 4 rfl dX9_leastCut_6 rfl ?_
      refine q_bipush cx (pc' := 10) kb_16 dX9_leastCut_8 rfl ?_
      refine q_icmp_ge cx (pc' := 13) (tgt := 128) dX9_leastCut_10 (by decide) rfl (fun c10 => ?_) (fun c10 => ?_)
      · replace h := ip c10 h
        refine q_iload_n cx (pc' := 129) 3 rfl dX9_leastCut_128 rfl ?_
        replace h := hk6_r _ _ (hz6.2 _ h)
        obtain ⟨rfl, rfl⟩ := o2_i h
        rw [hQ]
        exact q_iret cx dX9_leastCut_129
      · replace h := ine c10 h
        refine q_iload_n cx (pc' := 14) 2 rfl dX9_leastCut_13 rfl ?_
        refine q_iconst cx (pc' := 15) ki_1 dX9_leastCut_14 rfl ?_
        refine q_icmp_le cx (pc' := 18) (tgt := 22) dX9_leastCut_15 (by decide) rfl (fun c15 => ?_) (fun c15 => ?_)
        · replace h := ip c15 h
          refine q_iload cx (pc' := 24) 4 rfl dX9_leastCut_22 rfl ?_
          refine q_sub cx [0, 1, 2, 3, 4] rfl ?_
          exact hj24 _ _ _ _ h
        · replace h := ine c15 h
          refine q_iconst cx (pc' := 19) ki_0 dX9_leastCut_18 rfl ?_
          refine q_goto cx dX9_leastCut_19 (tgt := 24) (by decide) ?_
          refine q_sub cx [0, 1, 2, 3, 4] rfl ?_
          exact hj24 _ _ _ _ h
  refine q_sub cx [2, 3, 4, 1, 0] rfl ?_
  exact key6 FU _ _ _ hL6

abbrev rm_X9_cut : Room := { frames := 10, cells := 0, slots := 0, locals := 247 }
def lp_X9_cut_32 (ths : Nat) (p1 : Int32) (w3_32 : Int32) (Mw_32 : QM) : Option ((Int32 × QM) ⊕ ((Int32 × Int32 × QM) ⊕ (Int32 × QM))) :=
  if 4 ≤ w3_32 then
    some (.inr (.inr ((-5), Mw_32)))
  else
    ck Mw_32 ths 9 <|
    bnd (fn_X9_leastCut Mw_32 ths p1 w3_32) fun y40 =>
    pr2 y40 fun c40 M40 =>
    if c40 < 0 then
      nm (w3_32 + 1) fun v3_61 =>
      some (.inl (v3_61, M40))
    else
      some (.inr (.inl (w3_32, c40, M40)))
def fn_X9_cut (M : QM) (ths : Nat) (p1 : Int32) (p2 : Int32) : Option (Int32 × QM) :=
  bnd (fn_X9_isWalker M ths p1) fun c2 =>
  if c2 = 0 then
    some ((-1), M)
  else
    if (fn_X9_in p2 0 1) = 0 then
      some ((-1), M)
    else
      bnd (fn_X9_canCross M ths p1) fun y22 =>
      pr2 y22 fun c22 M22 =>
      if c22 = 0 then
        some (0, M22)
      else
        bnd (itr (fun s32 : Int32 × QM => lp_X9_cut_32 ths p1 s32.1 s32.2) FU (1, M22)) fun r32 =>
        sm r32 (fun q32_0 =>
          pr3 q32_0 fun e3_32_0 e4_32_0 Me_32_0 =>
          if p2 = 0 then
            some (e3_32_0, Me_32_0)
          else
            some (e4_32_0, Me_32_0)) fun t32_0 =>
        pr2 t32_0 fun re_32 Mr_32 =>
        some (re_32, Mr_32)
set_option maxRecDepth 100000 in
set_option maxHeartbeats 4000000 in
theorem ct_X9_cut (Γ : GT) (l : Launch) (M : QM) (ths : Nat) (p1 : Int32) (p2 : Int32) (ht0 : mt M ths = 9) (z : Int32) (M' : QM) (h : fn_X9_cut M ths p1 p2 = some (z, M')) : CT Γ l yX9_cut cX9_cut 5 (some .int) rm_X9_cut (.ref ths :: [.int p1, .int p2]) M (some (.int z)) M' := by
  refine ct_intro (own := RX9) (L := [(0, .ref ths), (1, .int p1), (2, .int p2)]) (by decide +kernel) rfl (Nat.le_of_ble_eq_true rfl) rfl ?_
  intro p e s m args below meth c Q hQ cx hnm
  unfold fn_X9_cut at h
  refine q_aload_n cx (pc' := 1) 0 rfl dX9_cut_0 rfl ?_
  refine q_iload_n cx (pc' := 2) 1 rfl dX9_cut_1 rfl ?_
  obtain ⟨c2, hc2, h⟩ := bnd_i h
  refine q_callV cx (pc' := 5) (S := []) (S1 := [.int c2]) (kc' := 0) (ks' := 0) 9 (ct_X9_isWalker Γ l M ths p1 ht0 _ hc2) lki_X9_isWalker lkv_X9_isWalker lkc_X9_235 ht0 (r := (RX9, TX9, 70)) ⟨rfl, by decide, rfl⟩ rfl rfl (Nat.le_of_ble_eq_true rfl) ⟨(Nat.le_of_ble_eq_true rfl), (Nat.le_of_ble_eq_true rfl)⟩ ⟨(Nat.le_of_ble_eq_true rfl), (Nat.le_of_ble_eq_true rfl)⟩ dX9_cut_2 rfl rfl rfl ?_
  refine q_if_eq cx (pc' := 8) (tgt := 18) dX9_cut_5 (by decide) rfl (fun c5 => ?_) (fun c5 => ?_)
  · replace h := ip c5 h
    refine q_iconst cx (pc' := 19) ki_m1 dX9_cut_18 rfl ?_
    obtain ⟨rfl, rfl⟩ := o2_i h
    rw [hQ]
    exact q_iret cx dX9_cut_19
  · replace h := ine c5 h
    refine q_aload_n cx (pc' := 9) 0 rfl dX9_cut_8 rfl ?_
    refine q_iload_n cx (pc' := 10) 2 rfl dX9_cut_9 rfl ?_
    refine q_iconst cx (pc' := 11) ki_0 dX9_cut_10 rfl ?_
    refine q_iconst cx (pc' := 12) ki_1 dX9_cut_11 rfl ?_
    refine q_callV cx (pc' := 15) (S := []) (S1 := [.int (fn_X9_in p2 0 1)]) (kc' := 0) (ks' := 0) 9 (ct_X9_in Γ l M ths p2 0 1 ht0) lki_X9_in lkv_X9_in lkc_X9_224 ht0 (r := (RX9, TX9, 70)) ⟨rfl, by decide, rfl⟩ rfl rfl (Nat.le_of_ble_eq_true rfl) ⟨(Nat.le_of_ble_eq_true rfl), (Nat.le_of_ble_eq_true rfl)⟩ ⟨(Nat.le_of_ble_eq_true rfl), (Nat.le_of_ble_eq_true rfl)⟩ dX9_cut_12 rfl rfl rfl ?_
    refine q_if_ne cx (pc' := 18) (tgt := 20) dX9_cut_15 (by decide) rfl (fun c15 => ?_) (fun c15 => ?_)
    · replace h := ine c15 h
      refine q_aload_n cx (pc' := 21) 0 rfl dX9_cut_20 rfl ?_
      refine q_iload_n cx (pc' := 22) 1 rfl dX9_cut_21 rfl ?_
      obtain ⟨⟨c22, M22⟩, hc22, h⟩ := bnd_i h
      replace h := pr2_i h
      refine q_callV cx (pc' := 25) (S := []) (S1 := [.int c22]) (kc' := 0) (ks' := 0) 9 (ct_X9_canCross Γ l M ths p1 ht0 _ _ hc22) lki_X9_canCross lkv_X9_canCross lkc_X9_342 ht0 (r := (RX9, TX9, 70)) ⟨rfl, by decide, rfl⟩ rfl rfl (Nat.le_of_ble_eq_true rfl) ⟨(Nat.le_of_ble_eq_true rfl), (Nat.le_of_ble_eq_true rfl)⟩ ⟨(Nat.le_of_ble_eq_true rfl), (Nat.le_of_ble_eq_true rfl)⟩ dX9_cut_22 rfl rfl rfl ?_
      refine q_if_ne cx (pc' := 28) (tgt := 30) dX9_cut_25 (by decide) rfl (fun c25 => ?_) (fun c25 => ?_)
      · replace h := ine c25 h
        refine q_iconst cx (pc' := 31) ki_1 dX9_cut_30 rfl ?_
        refine q_istore_n cx (pc' := 32) rfl rfl (by decide) (L' := [(3, .int 1), (0, .ref ths), (1, .int p1), (2, .int p2)]) rfl dX9_cut_31 rfl ?_
        obtain ⟨r32, hL32, h⟩ := bnd_i h
        have hk32_0 : ∀ (e3_32_0 : Int32) (e4_32_0 : Int32) (Me_32_0 : QM), (.inl (e3_32_0, e4_32_0, Me_32_0)) = r32 → EE p l e rm_X9_cut s m args below meth c Q Γ 5 0 0 50 [(2, .int p2), (3, .int e3_32_0), (4, .int e4_32_0)] [] Me_32_0 := by
          intro e3_32_0 e4_32_0 Me_32_0 hp
          subst hp
          replace h := sm_l h
          replace h := pr3_i h
          refine q_iload_n cx (pc' := 51) 0 rfl dX9_cut_50 rfl ?_
          refine q_if_ne cx (pc' := 54) (tgt := 58) dX9_cut_51 (by decide) rfl (fun c51 => ?_) (fun c51 => ?_)
          · replace h := ine c51 h
            refine q_iload cx (pc' := 60) 2 rfl dX9_cut_58 rfl ?_
            obtain ⟨rfl, rfl⟩ := o2_i h
            rw [hQ]
            exact q_iret cx dX9_cut_60
          · replace h := ip c51 h
            refine q_iload_n cx (pc' := 55) 1 rfl dX9_cut_54 rfl ?_
            refine q_goto cx dX9_cut_55 (tgt := 60) (by decide) ?_
            obtain ⟨rfl, rfl⟩ := o2_i h
            rw [hQ]
            exact q_iret cx dX9_cut_60
        have hk32_r : ∀ (re_32 : Int32) (Mr_32 : QM), (.inr (re_32, Mr_32)) = r32 → some (re_32, Mr_32) = some (z, M') := by
          intro re_32 Mr_32 hp
          subst hp
          replace h := sm_r h
          replace h := pr2_i h
          exact h
        have key32 : ∀ (n : Nat) (w3_32 : Int32) (Mw_32 : QM), itr (fun s32 : Int32 × QM => lp_X9_cut_32 ths p1 s32.1 s32.2) n (w3_32, Mw_32) = some r32 → EE p l e rm_X9_cut s m args below meth c Q Γ 5 0 0 32 [(0, .ref ths), (1, .int p1), (2, .int p2), (3, .int w3_32)] [] Mw_32 := by
          intro n
          induction n with
          | zero => intro _ _ h; exact (itr_0 h).elim
          | succ n ih =>
            intro w3_32 Mw_32 h
            obtain ⟨z32, h, hz32⟩ := itr_i h
            replace h : lp_X9_cut_32 ths p1 w3_32 Mw_32 = some z32 := h
            unfold lp_X9_cut_32 at h
            refine q_iload_n cx (pc' := 33) 3 rfl dX9_cut_32 rfl ?_
            refine q_iconst cx (pc' := 34) ki_4 dX9_cut_33 rfl ?_
            refine q_icmp_ge cx (pc' := 37) (tgt := 67) dX9_cut_34 (by decide) rfl (fun c34 => ?_) (fun c34 => ?_)
            · replace h := ip c34 h
              refine q_bipush cx (pc' := 69) kb_m5 dX9_cut_67 rfl ?_
              replace h := hk32_r _ _ (hz32.2 _ h)
              obtain ⟨rfl, rfl⟩ := o2_i h
              rw [hQ]
              exact q_iret cx dX9_cut_69
            · replace h := ine c34 h
              refine q_aload_n cx (pc' := 38) 0 rfl dX9_cut_37 rfl ?_
              refine q_iload_n cx (pc' := 39) 1 rfl dX9_cut_38 rfl ?_
              refine q_iload_n cx (pc' := 40) 3 rfl dX9_cut_39 rfl ?_
              obtain ⟨hk40, h⟩ := ck_i h
              obtain ⟨⟨c40, M40⟩, hc40, h⟩ := bnd_i h
              replace h := pr2_i h
              refine q_callV cx (pc' := 43) (S := []) (S1 := [.int c40]) (kc' := 0) (ks' := 0) 9 (ct_X9_leastCut Γ l Mw_32 ths p1 w3_32 hk40 _ _ hc40) lki_X9_leastCut lkv_X9_leastCut lkc_X9_385 hk40 (r := (RX9, TX9, 70)) ⟨rfl, by decide, rfl⟩ rfl rfl (Nat.le_of_ble_eq_true rfl) ⟨(Nat.le_of_ble_eq_true rfl), (Nat.le_of_ble_eq_true rfl)⟩ ⟨(Nat.le_of_ble_eq_true rfl), (Nat.le_of_ble_eq_true rfl)⟩ dX9_cut_40 rfl rfl rfl ?_
              refine q_istore cx (pc' := 45) rfl (by decide) (L' := [(4, .int c40), (0, .ref ths), (1, .int p1), (2, .int p2), (3, .int w3_32)]) rfl dX9_cut_43 rfl ?_
              refine q_iload cx (pc' := 47) 0 rfl dX9_cut_45 rfl ?_
              refine q_if_lt cx (pc' := 50) (tgt := 61) dX9_cut_47 (by decide) rfl (fun c47 => ?_) (fun c47 => ?_)
              · replace h := ip c47 h
                obtain ⟨v3_61, ev3_61, h⟩ := nm_i h
                refine q_iinc cx (pc' := 64) 4 rfl ki_1 ev3_61 (by decide) (L' := [(3, .int v3_61), (4, .int c40), (0, .ref ths), (1, .int p1), (2, .int p2)]) rfl dX9_cut_61 rfl ?_
                refine q_goto cx dX9_cut_64 (tgt := 32) (by decide) ?_
                refine q_sub cx [2, 3, 4, 0] rfl ?_
                exact ih _ _ (hz32.1 _ h)
              · replace h := ine c47 h
                refine q_sub cx [3, 4, 0] rfl ?_
                exact hk32_0 _ _ _ (hz32.2 _ h)
        refine q_sub cx [1, 2, 3, 0] rfl ?_
        exact key32 FU _ _ hL32
      · replace h := ip c25 h
        refine q_iconst cx (pc' := 29) ki_0 dX9_cut_28 rfl ?_
        obtain ⟨rfl, rfl⟩ := o2_i h
        rw [hQ]
        exact q_iret cx dX9_cut_29
    · replace h := ip c15 h
      refine q_iconst cx (pc' := 19) ki_m1 dX9_cut_18 rfl ?_
      obtain ⟨rfl, rfl⟩ := o2_i h
      rw [hQ]
      exact q_iret cx dX9_cut_19

abbrev rm_X9_stirred : Room := { frames := 7, cells := 0, slots := 0, locals := 176 }
def lp_X9_stirred_47 (ths : Nat) (p1 : Int32) (w4_34 : Int32) (w2_47 : Int32) (w3_47 : Int32) (w5_47 : Int32) (Mw_47 : QM) : Option ((Int32 × Int32 × Int32 × QM) ⊕ (Int32 × Int32 × QM)) :=
  if 16 ≤ w5_47 then
    some (.inr (w2_47, w3_47, Mw_47))
  else
    ck Mw_47 ths 9 <|
    if (fn_X9_isNext w4_34 w5_47) = 0 then
      nm (w5_47 + 1) fun v5_117 =>
      some (.inl (w2_47, w3_47, v5_117, Mw_47))
    else
      ck Mw_47 ths 9 <|
      bnd (fn_X9_stirs Mw_47 ths w4_34 w5_47) fun M73 =>
      ck M73 ths 9 <|
      bnd (fn_X9_cross M73 ths p1) fun y78 =>
      pr2 y78 fun c78 M78 =>
      ck M78 ths 9 <|
      bnd (fn_X9_stirs M78 ths w4_34 w5_47) fun M88 =>
      if c78 < 0 then
        nm (w5_47 + 1) fun v5_117 =>
        some (.inl (w2_47, w3_47, v5_117, M88))
      else
        if c78 < w2_47 then
          nm ((100 * w4_34) + w5_47) fun v3_113 =>
          nm (w5_47 + 1) fun v5_117 =>
          some (.inl (c78, v3_113, v5_117, M88))
        else
          nm (w5_47 + 1) fun v5_117 =>
          some (.inl (w2_47, w3_47, v5_117, M88))
def lp_X9_stirred_34 (ths : Nat) (p1 : Int32) (w2_34 : Int32) (w3_34 : Int32) (w4_34 : Int32) (Mw_34 : QM) : Option ((Int32 × Int32 × Int32 × QM) ⊕ (Int32 × QM)) :=
  if 16 ≤ w4_34 then
    some (.inr (w3_34, Mw_34))
  else
    nm (w4_34 + 1) fun v5_45 =>
    bnd (itr (fun s47 : Int32 × Int32 × Int32 × QM => lp_X9_stirred_47 ths p1 w4_34 s47.1 s47.2.1 s47.2.2.1 s47.2.2.2) FU (w2_34, w3_34, v5_45, Mw_34)) fun r47 =>
    pr3 r47 fun e2_47 e3_47 Me_47 =>
    nm (w4_34 + 1) fun v4_123 =>
    some (.inl (e2_47, e3_47, v4_123, Me_47))
def jn_X9_stirred_27 (ths : Nat) (p1 : Int32) (js0_27 : Int32) (Mj_27 : QM) : Option (Int32 × QM) :=
  bnd (itr (fun s34 : Int32 × Int32 × Int32 × QM => lp_X9_stirred_34 ths p1 s34.1 s34.2.1 s34.2.2.1 s34.2.2.2) FU (js0_27, (-5), 0, Mj_27)) fun r34 =>
  pr2 r34 fun re_34 Mr_34 =>
  some (re_34, Mr_34)
def fn_X9_stirred (M : QM) (ths : Nat) (p1 : Int32) : Option (Int32 × QM) :=
  bnd (fn_X9_isWalker M ths p1) fun c2 =>
  if c2 = 0 then
    some ((-1), M)
  else
    bnd (fn_X9_cross M ths p1) fun y12 =>
    pr2 y12 fun c12 M12 =>
    if 0 ≤ c12 then
      jn_X9_stirred_27 ths p1 c12 M12
    else
      jn_X9_stirred_27 ths p1 999 M12
set_option maxRecDepth 100000 in
set_option maxHeartbeats 4000000 in
theorem ct_X9_stirred (Γ : GT) (l : Launch) (M : QM) (ths : Nat) (p1 : Int32) (ht0 : mt M ths = 9) (z : Int32) (M' : QM) (h : fn_X9_stirred M ths p1 = some (z, M')) : CT Γ l yX9_stirred cX9_stirred 7 (some .int) rm_X9_stirred (.ref ths :: [.int p1]) M (some (.int z)) M' := by
  refine ct_intro (own := RX9) (L := [(0, .ref ths), (1, .int p1)]) (by decide +kernel) rfl (Nat.le_of_ble_eq_true rfl) rfl ?_
  intro p e s m args below meth c Q hQ cx hnm
  unfold fn_X9_stirred at h
  have hj27 : ∀ (js0_27 : Int32) (Mj_27 : QM), jn_X9_stirred_27 ths p1 js0_27 Mj_27 = some (z, M') → EE p l e rm_X9_stirred s m args below meth c Q Γ 7 0 0 27 [(0, .ref ths), (1, .int p1)] [.int js0_27] Mj_27 := by
    intro js0_27 Mj_27 h
    unfold jn_X9_stirred_27 at h
    refine q_istore_n cx (pc' := 28) rfl rfl (by decide) (L' := [(2, .int js0_27), (0, .ref ths), (1, .int p1)]) rfl dX9_stirred_27 rfl ?_
    refine q_bipush cx (pc' := 30) kb_m5 dX9_stirred_28 rfl ?_
    refine q_istore_n cx (pc' := 31) rfl rfl (by decide) (L' := [(3, .int (-5)), (2, .int js0_27), (0, .ref ths), (1, .int p1)]) rfl dX9_stirred_30 rfl ?_
    refine q_iconst cx (pc' := 32) ki_0 dX9_stirred_31 rfl ?_
    refine q_istore cx (pc' := 34) rfl (by decide) (L' := [(4, .int 0), (3, .int (-5)), (2, .int js0_27), (0, .ref ths), (1, .int p1)]) rfl dX9_stirred_32 rfl ?_
    obtain ⟨r34, hL34, h⟩ := bnd_i h
    have hk34_r : ∀ (re_34 : Int32) (Mr_34 : QM), (re_34, Mr_34) = r34 → some (re_34, Mr_34) = some (z, M') := by
      intro re_34 Mr_34 hp
      subst hp
      replace h := pr2_i h
      exact h
    have key34 : ∀ (n : Nat) (w2_34 : Int32) (w3_34 : Int32) (w4_34 : Int32) (Mw_34 : QM), itr (fun s34 : Int32 × Int32 × Int32 × QM => lp_X9_stirred_34 ths p1 s34.1 s34.2.1 s34.2.2.1 s34.2.2.2) n (w2_34, w3_34, w4_34, Mw_34) = some r34 → EE p l e rm_X9_stirred s m args below meth c Q Γ 7 0 0 34 [(0, .ref ths), (1, .int p1), (2, .int w2_34), (3, .int w3_34), (4, .int w4_34)] [] Mw_34 := by
      intro n
      induction n with
      | zero => intro _ _ _ _ h; exact (itr_0 h).elim
      | succ n ih =>
        intro w2_34 w3_34 w4_34 Mw_34 h
        obtain ⟨z34, h, hz34⟩ := itr_i h
        replace h : lp_X9_stirred_34 ths p1 w2_34 w3_34 w4_34 Mw_34 = some z34 := h
        unfold lp_X9_stirred_34 at h
        refine q_iload cx (pc' := 36) 4 rfl dX9_stirred_34 rfl ?_
        refine q_bipush cx (pc' := 38) kb_16 dX9_stirred_36 rfl ?_
        refine q_icmp_ge cx (pc' := 41) (tgt := 129) dX9_stirred_38 (by decide) rfl (fun c38 => ?_) (fun c38 => ?_)
        · replace h := ip c38 h
          refine q_iload_n cx (pc' := 130) 3 rfl dX9_stirred_129 rfl ?_
          replace h := hk34_r _ _ (hz34.2 _ h)
          obtain ⟨rfl, rfl⟩ := o2_i h
          rw [hQ]
          exact q_iret cx dX9_stirred_130
        · replace h := ine c38 h
          refine q_iload cx (pc' := 43) 4 rfl dX9_stirred_41 rfl ?_
          refine q_iconst cx (pc' := 44) ki_1 dX9_stirred_43 rfl ?_
          refine q_iadd cx (pc' := 45) dX9_stirred_44 rfl ?_
          obtain ⟨v5_45, ev5_45, h⟩ := nm_i h
          refine q_istore cx (pc' := 47) ev5_45 (by decide) (L' := [(5, .int v5_45), (0, .ref ths), (1, .int p1), (2, .int w2_34), (3, .int w3_34), (4, .int w4_34)]) rfl dX9_stirred_45 rfl ?_
          obtain ⟨r47, hL47, h⟩ := bnd_i h
          have hk47_0 : ∀ (e2_47 : Int32) (e3_47 : Int32) (Me_47 : QM), (e2_47, e3_47, Me_47) = r47 → EE p l e rm_X9_stirred s m args below meth c Q Γ 7 0 0 123 [(0, .ref ths), (1, .int p1), (2, .int e2_47), (3, .int e3_47), (4, .int w4_34)] [] Me_47 := by
            intro e2_47 e3_47 Me_47 hp
            subst hp
            replace h := pr3_i h
            obtain ⟨v4_123, ev4_123, h⟩ := nm_i h
            refine q_iinc cx (pc' := 126) 4 rfl ki_1 ev4_123 (by decide) (L' := [(4, .int v4_123), (0, .ref ths), (1, .int p1), (2, .int e2_47), (3, .int e3_47)]) rfl dX9_stirred_123 rfl ?_
            refine q_goto cx dX9_stirred_126 (tgt := 34) (by decide) ?_
            refine q_sub cx [1, 2, 3, 4, 0] rfl ?_
            exact ih _ _ _ _ (hz34.1 _ h)
          have key47 : ∀ (n : Nat) (w2_47 : Int32) (w3_47 : Int32) (w5_47 : Int32) (Mw_47 : QM), itr (fun s47 : Int32 × Int32 × Int32 × QM => lp_X9_stirred_47 ths p1 w4_34 s47.1 s47.2.1 s47.2.2.1 s47.2.2.2) n (w2_47, w3_47, w5_47, Mw_47) = some r47 → EE p l e rm_X9_stirred s m args below meth c Q Γ 7 0 0 47 [(0, .ref ths), (1, .int p1), (2, .int w2_47), (3, .int w3_47), (4, .int w4_34), (5, .int w5_47)] [] Mw_47 := by
            intro n
            induction n with
            | zero => intro _ _ _ _ h; exact (itr_0 h).elim
            | succ n ih =>
              intro w2_47 w3_47 w5_47 Mw_47 h
              obtain ⟨z47, h, hz47⟩ := itr_i h
              replace h : lp_X9_stirred_47 ths p1 w4_34 w2_47 w3_47 w5_47 Mw_47 = some z47 := h
              unfold lp_X9_stirred_47 at h
              refine q_iload cx (pc' := 49) 5 rfl dX9_stirred_47 rfl ?_
              refine q_bipush cx (pc' := 51) kb_16 dX9_stirred_49 rfl ?_
              refine q_icmp_ge cx (pc' := 54) (tgt := 123) dX9_stirred_51 (by decide) rfl (fun c51 => ?_) (fun c51 => ?_)
              · replace h := ip c51 h
                refine q_sub cx [0, 1, 2, 3, 4] rfl ?_
                exact hk47_0 _ _ _ (hz47.2 _ h)
              · replace h := ine c51 h
                refine q_aload_n cx (pc' := 55) 0 rfl dX9_stirred_54 rfl ?_
                refine q_iload cx (pc' := 57) 4 rfl dX9_stirred_55 rfl ?_
                refine q_iload cx (pc' := 59) 5 rfl dX9_stirred_57 rfl ?_
                obtain ⟨hk59, h⟩ := ck_i h
                refine q_callV cx (pc' := 62) (S := []) (S1 := [.int (fn_X9_isNext w4_34 w5_47)]) (kc' := 0) (ks' := 0) 9 (ct_X9_isNext Γ l Mw_47 ths w4_34 w5_47 hk59) lki_X9_isNext lkv_X9_isNext lkc_X9_245 hk59 (r := (RX9, TX9, 70)) ⟨rfl, by decide, rfl⟩ rfl rfl (Nat.le_of_ble_eq_true rfl) ⟨(Nat.le_of_ble_eq_true rfl), (Nat.le_of_ble_eq_true rfl)⟩ ⟨(Nat.le_of_ble_eq_true rfl), (Nat.le_of_ble_eq_true rfl)⟩ dX9_stirred_59 rfl rfl rfl ?_
                refine q_if_ne cx (pc' := 65) (tgt := 68) dX9_stirred_62 (by decide) rfl (fun c62 => ?_) (fun c62 => ?_)
                · replace h := ine c62 h
                  refine q_aload_n cx (pc' := 69) 0 rfl dX9_stirred_68 rfl ?_
                  refine q_iload cx (pc' := 71) 4 rfl dX9_stirred_69 rfl ?_
                  refine q_iload cx (pc' := 73) 5 rfl dX9_stirred_71 rfl ?_
                  obtain ⟨hk73, h⟩ := ck_i h
                  obtain ⟨M73, hc73, h⟩ := bnd_i h
                  refine q_callV cx (pc' := 76) (S := []) (S1 := []) (kc' := 0) (ks' := 0) 9 (ct_X9_stirs Γ l Mw_47 ths w4_34 w5_47 hk73 _ hc73) lki_X9_stirs lkv_X9_stirs lkc_X9_249 hk73 (r := (RX9, TX9, 70)) ⟨rfl, by decide, rfl⟩ rfl rfl (Nat.le_of_ble_eq_true rfl) ⟨(Nat.le_of_ble_eq_true rfl), (Nat.le_of_ble_eq_true rfl)⟩ ⟨(Nat.le_of_ble_eq_true rfl), (Nat.le_of_ble_eq_true rfl)⟩ dX9_stirred_73 rfl rfl rfl ?_
                  refine q_aload_n cx (pc' := 77) 0 rfl dX9_stirred_76 rfl ?_
                  refine q_iload_n cx (pc' := 78) 1 rfl dX9_stirred_77 rfl ?_
                  obtain ⟨hk78, h⟩ := ck_i h
                  obtain ⟨⟨c78, M78⟩, hc78, h⟩ := bnd_i h
                  replace h := pr2_i h
                  refine q_callV cx (pc' := 81) (S := []) (S1 := [.int c78]) (kc' := 0) (ks' := 0) 9 (ct_X9_cross Γ l M73 ths p1 hk78 _ _ hc78) lki_X9_cross lkv_X9_cross lkc_X9_339 hk78 (r := (RX9, TX9, 70)) ⟨rfl, by decide, rfl⟩ rfl rfl (Nat.le_of_ble_eq_true rfl) ⟨(Nat.le_of_ble_eq_true rfl), (Nat.le_of_ble_eq_true rfl)⟩ ⟨(Nat.le_of_ble_eq_true rfl), (Nat.le_of_ble_eq_true rfl)⟩ dX9_stirred_78 rfl rfl rfl ?_
                  refine q_istore cx (pc' := 83) rfl (by decide) (L' := [(6, .int c78), (0, .ref ths), (1, .int p1), (2, .int w2_47), (3, .int w3_47), (4, .int w4_34), (5, .int w5_47)]) rfl dX9_stirred_81 rfl ?_
                  refine q_aload_n cx (pc' := 84) 1 rfl dX9_stirred_83 rfl ?_
                  refine q_iload cx (pc' := 86) 5 rfl dX9_stirred_84 rfl ?_
                  refine q_iload cx (pc' := 88) 6 rfl dX9_stirred_86 rfl ?_
                  obtain ⟨hk88, h⟩ := ck_i h
                  obtain ⟨M88, hc88, h⟩ := bnd_i h
                  refine q_callV cx (pc' := 91) (S := []) (S1 := []) (kc' := 0) (ks' := 0) 9 (ct_X9_stirs Γ l M78 ths w4_34 w5_47 hk88 _ hc88) lki_X9_stirs lkv_X9_stirs lkc_X9_249 hk88 (r := (RX9, TX9, 70)) ⟨rfl, by decide, rfl⟩ rfl rfl (Nat.le_of_ble_eq_true rfl) ⟨(Nat.le_of_ble_eq_true rfl), (Nat.le_of_ble_eq_true rfl)⟩ ⟨(Nat.le_of_ble_eq_true rfl), (Nat.le_of_ble_eq_true rfl)⟩ dX9_stirred_88 rfl rfl rfl ?_
                  refine q_iload cx (pc' := 93) 0 rfl dX9_stirred_91 rfl ?_
                  refine q_if_lt cx (pc' := 96) (tgt := 117) dX9_stirred_93 (by decide) rfl (fun c93 => ?_) (fun c93 => ?_)
                  · replace h := ip c93 h
                    obtain ⟨v5_117, ev5_117, h⟩ := nm_i h
                    refine q_iinc cx (pc' := 120) 6 rfl ki_1 ev5_117 (by decide) (L' := [(5, .int v5_117), (6, .int c78), (0, .ref ths), (1, .int p1), (2, .int w2_47), (3, .int w3_47), (4, .int w4_34)]) rfl dX9_stirred_117 rfl ?_
                    refine q_goto cx dX9_stirred_120 (tgt := 47) (by decide) ?_
                    refine q_sub cx [2, 3, 4, 5, 6, 0] rfl ?_
                    exact ih _ _ _ _ (hz47.1 _ h)
                  · replace h := ine c93 h
                    refine q_iload cx (pc' := 98) 0 rfl dX9_stirred_96 rfl ?_
                    refine q_iload_n cx (pc' := 99) 3 rfl dX9_stirred_98 rfl ?_
                    refine q_icmp_lt cx (pc' := 102) (tgt := 105) dX9_stirred_99 (by decide) rfl (fun c99 => ?_) (fun c99 => ?_)
                    · replace h := ip c99 h
                      refine q_bipush cx (pc' := 107) kb_100 dX9_stirred_105 rfl ?_
                      refine q_iload cx (pc' := 109) 5 rfl dX9_stirred_107 rfl ?_
                      refine q_imul cx (pc' := 110) dX9_stirred_109 rfl ?_
                      refine q_iload cx (pc' := 112) 6 rfl dX9_stirred_110 rfl ?_
                      refine q_iadd cx (pc' := 113) dX9_stirred_112 rfl ?_
                      obtain ⟨v3_113, ev3_113, h⟩ := nm_i h
                      refine q_istore_n cx (pc' := 114) rfl ev3_113 (by decide) (L' := [(3, .int v3_113), (6, .int c78), (0, .ref ths), (1, .int p1), (2, .int w2_47), (4, .int w4_34), (5, .int w5_47)]) rfl dX9_stirred_113 rfl ?_
                      refine q_iload cx (pc' := 116) 1 rfl dX9_stirred_114 rfl ?_
                      refine q_istore_n cx (pc' := 117) rfl rfl (by decide) (L' := [(2, .int c78), (3, .int v3_113), (6, .int c78), (0, .ref ths), (1, .int p1), (4, .int w4_34), (5, .int w5_47)]) rfl dX9_stirred_116 rfl ?_
                      obtain ⟨v5_117, ev5_117, h⟩ := nm_i h
                      refine q_iinc cx (pc' := 120) 6 rfl ki_1 ev5_117 (by decide) (L' := [(5, .int v5_117), (2, .int c78), (3, .int v3_113), (6, .int c78), (0, .ref ths), (1, .int p1), (4, .int w4_34)]) rfl dX9_stirred_117 rfl ?_
                      refine q_goto cx dX9_stirred_120 (tgt := 47) (by decide) ?_
                      refine q_sub cx [4, 5, 1, 2, 6, 0] rfl ?_
                      exact ih _ _ _ _ (hz47.1 _ h)
                    · replace h := ine c99 h
                      refine q_goto cx dX9_stirred_102 (tgt := 117) (by decide) ?_
                      obtain ⟨v5_117, ev5_117, h⟩ := nm_i h
                      refine q_iinc cx (pc' := 120) 6 rfl ki_1 ev5_117 (by decide) (L' := [(5, .int v5_117), (6, .int c78), (0, .ref ths), (1, .int p1), (2, .int w2_47), (3, .int w3_47), (4, .int w4_34)]) rfl dX9_stirred_117 rfl ?_
                      refine q_goto cx dX9_stirred_120 (tgt := 47) (by decide) ?_
                      refine q_sub cx [2, 3, 4, 5, 6, 0] rfl ?_
                      exact ih _ _ _ _ (hz47.1 _ h)
                · replace h := ip c62 h
                  refine q_goto cx dX9_stirred_65 (tgt := 117) (by decide) ?_
                  obtain ⟨v5_117, ev5_117, h⟩ := nm_i h
                  refine q_iinc cx (pc' := 120) 5 rfl ki_1 ev5_117 (by decide) (L' := [(5, .int v5_117), (0, .ref ths), (1, .int p1), (2, .int w2_47), (3, .int w3_47), (4, .int w4_34)]) rfl dX9_stirred_117 rfl ?_
                  refine q_goto cx dX9_stirred_120 (tgt := 47) (by decide) ?_
                  refine q_sub cx [1, 2, 3, 4, 5, 0] rfl ?_
                  exact ih _ _ _ _ (hz47.1 _ h)
          refine q_sub cx [1, 2, 3, 4, 5, 0] rfl ?_
          exact key47 FU _ _ _ _ hL47
    refine q_sub cx [3, 4, 2, 1, 0] rfl ?_
    exact key34 FU _ _ _ _ hL34
  refine q_aload_n cx (pc' := 1) 0 rfl dX9_stirred_0 rfl ?_
  refine q_iload_n cx (pc' := 2) 1 rfl dX9_stirred_1 rfl ?_
  obtain ⟨c2, hc2, h⟩ := bnd_i h
  refine q_callV cx (pc' := 5) (S := []) (S1 := [.int c2]) (kc' := 0) (ks' := 0) 9 (ct_X9_isWalker Γ l M ths p1 ht0 _ hc2) lki_X9_isWalker lkv_X9_isWalker lkc_X9_235 ht0 (r := (RX9, TX9, 70)) ⟨rfl, by decide, rfl⟩ rfl rfl (Nat.le_of_ble_eq_true rfl) ⟨(Nat.le_of_ble_eq_true rfl), (Nat.le_of_ble_eq_true rfl)⟩ ⟨(Nat.le_of_ble_eq_true rfl), (Nat.le_of_ble_eq_true rfl)⟩ dX9_stirred_2 rfl rfl rfl ?_
  refine q_if_ne cx (pc' := 8) (tgt := 10) dX9_stirred_5 (by decide) rfl (fun c5 => ?_) (fun c5 => ?_)
  · replace h := ine c5 h
    refine q_aload_n cx (pc' := 11) 0 rfl dX9_stirred_10 rfl ?_
    refine q_iload_n cx (pc' := 12) 1 rfl dX9_stirred_11 rfl ?_
    obtain ⟨⟨c12, M12⟩, hc12, h⟩ := bnd_i h
    replace h := pr2_i h
    refine q_callV cx (pc' := 15) (S := []) (S1 := [.int c12]) (kc' := 0) (ks' := 0) 9 (ct_X9_cross Γ l M ths p1 ht0 _ _ hc12) lki_X9_cross lkv_X9_cross lkc_X9_339 ht0 (r := (RX9, TX9, 70)) ⟨rfl, by decide, rfl⟩ rfl rfl (Nat.le_of_ble_eq_true rfl) ⟨(Nat.le_of_ble_eq_true rfl), (Nat.le_of_ble_eq_true rfl)⟩ ⟨(Nat.le_of_ble_eq_true rfl), (Nat.le_of_ble_eq_true rfl)⟩ dX9_stirred_12 rfl rfl rfl ?_
    refine q_istore_n cx (pc' := 16) rfl rfl (by decide) (L' := [(2, .int c12), (0, .ref ths), (1, .int p1)]) rfl dX9_stirred_15 rfl ?_
    refine q_iload_n cx (pc' := 17) 0 rfl dX9_stirred_16 rfl ?_
    refine q_if_ge cx (pc' := 20) (tgt := 26) dX9_stirred_17 (by decide) rfl (fun c17 => ?_) (fun c17 => ?_)
    · replace h := ip c17 h
      refine q_iload_n cx (pc' := 27) 0 rfl dX9_stirred_26 rfl ?_
      refine q_sub cx [1, 2] rfl ?_
      exact hj27 _ _ h
    · replace h := ine c17 h
      refine q_sipush cx (pc' := 23) ks_999 dX9_stirred_20 rfl ?_
      refine q_goto cx dX9_stirred_23 (tgt := 27) (by decide) ?_
      refine q_sub cx [1, 2] rfl ?_
      exact hj27 _ _ h
  · replace h := ip c5 h
    refine q_iconst cx (pc' := 9) ki_m1 dX9_stirred_8 rfl ?_
    obtain ⟨rfl, rfl⟩ := o2_i h
    rw [hQ]
    exact q_iret cx dX9_stirred_9

abbrev rm_X9_meet : Room := { frames := 6, cells := 0, slots := 0, locals := 153 }
def lp_X9_meet_37 (ths : Nat) (w3_37 : Int32) (Mw_37 : QM) : Option ((Int32 × QM) ⊕ (QM)) :=
  if 16 ≤ w3_37 then
    some (.inr Mw_37)
  else
    gR Mw_37 ths 9 32 fun r44 =>
    gR Mw_37 ths 9 26 fun r49 =>
    aI Mw_37 20 r49 w3_37 fun x53 =>
    wI Mw_37 20 r44 w3_37 x53 fun M54 =>
    nm (w3_37 + 1) fun v3_55 =>
    some (.inl (v3_55, M54))
def lp_X9_meet_79 (ths : Nat) (M67 : QM) (w3_79 : Int32) (w4_79 : Int32) (w5_79 : Int32) : Option ((Int32 × Int32 × Int32) ⊕ (Int32)) :=
  if 16 ≤ w5_79 then
    some (.inr w3_79)
  else
    gR M67 ths 9 32 fun r87 =>
    aI M67 20 r87 w5_79 fun x92 =>
    if x92 < 0 then
      nm (w5_79 + 1) fun v5_147 =>
      some (.inl (w3_79, w4_79, v5_147))
    else
      gR M67 ths 9 26 fun r97 =>
      aI M67 20 r97 w5_79 fun x102 =>
      if 0 ≤ x102 then
        gR M67 ths 9 32 fun r110 =>
        aI M67 20 r110 w5_79 fun x115 =>
        gR M67 ths 9 26 fun r117 =>
        aI M67 20 r117 w5_79 fun x122 =>
        nm (x115 + x122) fun v6_124 =>
        if w3_79 < 0 then
          nm (w5_79 + 1) fun v5_147 =>
          some (.inl (w5_79, v6_124, v5_147))
        else
          if v6_124 < w4_79 then
            nm (w5_79 + 1) fun v5_147 =>
            some (.inl (w5_79, v6_124, v5_147))
          else
            nm (w5_79 + 1) fun v5_147 =>
            some (.inl (w3_79, w4_79, v5_147))
      else
        nm (w5_79 + 1) fun v5_147 =>
        some (.inl (w3_79, w4_79, v5_147))
def fn_X9_meet (M : QM) (ths : Nat) (p1 : Int32) (p2 : Int32) : Option (Int32 × QM) :=
  bnd (fn_X9_isWalker M ths p1) fun c2 =>
  if c2 = 0 then
    some ((-1), M)
  else
    bnd (fn_X9_isWalker M ths p2) fun c10 =>
    if c10 = 0 then
      some ((-1), M)
    else
      if p1 = p2 then
        some ((-2), M)
      else
        bnd (fn_X9_layFar M ths p1 fn_X9_nearSide) fun M32 =>
        bnd (itr (fun s37 : Int32 × QM => lp_X9_meet_37 ths s37.1 s37.2) FU (0, M32)) fun Me_37 =>
        ck Me_37 ths 9 <|
        ck Me_37 ths 9 <|
        bnd (fn_X9_layFar Me_37 ths p2 fn_X9_nearSide) fun M67 =>
        bnd (itr (fun s79 : Int32 × Int32 × Int32 => lp_X9_meet_79 ths M67 s79.1 s79.2.1 s79.2.2) FU ((-5), 0, 0)) fun re_79 =>
        some (re_79, M67)
set_option maxRecDepth 100000 in
set_option maxHeartbeats 4000000 in
theorem ct_X9_meet (Γ : GT) (l : Launch) (M : QM) (ths : Nat) (p1 : Int32) (p2 : Int32) (ht0 : mt M ths = 9) (z : Int32) (M' : QM) (h : fn_X9_meet M ths p1 p2 = some (z, M')) : CT Γ l yX9_meet cX9_meet 7 (some .int) rm_X9_meet (.ref ths :: [.int p1, .int p2]) M (some (.int z)) M' := by
  refine ct_intro (own := RX9) (L := [(0, .ref ths), (1, .int p1), (2, .int p2)]) (by decide +kernel) rfl (Nat.le_of_ble_eq_true rfl) rfl ?_
  intro p e s m args below meth c Q hQ cx hnm
  unfold fn_X9_meet at h
  refine q_aload_n cx (pc' := 1) 0 rfl dX9_meet_0 rfl ?_
  refine q_iload_n cx (pc' := 2) 1 rfl dX9_meet_1 rfl ?_
  obtain ⟨c2, hc2, h⟩ := bnd_i h
  refine q_callV cx (pc' := 5) (S := []) (S1 := [.int c2]) (kc' := 0) (ks' := 0) 9 (ct_X9_isWalker Γ l M ths p1 ht0 _ hc2) lki_X9_isWalker lkv_X9_isWalker lkc_X9_235 ht0 (r := (RX9, TX9, 70)) ⟨rfl, by decide, rfl⟩ rfl rfl (Nat.le_of_ble_eq_true rfl) ⟨(Nat.le_of_ble_eq_true rfl), (Nat.le_of_ble_eq_true rfl)⟩ ⟨(Nat.le_of_ble_eq_true rfl), (Nat.le_of_ble_eq_true rfl)⟩ dX9_meet_2 rfl rfl rfl ?_
  refine q_if_eq cx (pc' := 8) (tgt := 16) dX9_meet_5 (by decide) rfl (fun c5 => ?_) (fun c5 => ?_)
  · replace h := ip c5 h
    refine q_iconst cx (pc' := 17) ki_m1 dX9_meet_16 rfl ?_
    obtain ⟨rfl, rfl⟩ := o2_i h
    rw [hQ]
    exact q_iret cx dX9_meet_17
  · replace h := ine c5 h
    refine q_aload_n cx (pc' := 9) 0 rfl dX9_meet_8 rfl ?_
    refine q_iload_n cx (pc' := 10) 2 rfl dX9_meet_9 rfl ?_
    obtain ⟨c10, hc10, h⟩ := bnd_i h
    refine q_callV cx (pc' := 13) (S := []) (S1 := [.int c10]) (kc' := 0) (ks' := 0) 9 (ct_X9_isWalker Γ l M ths p2 ht0 _ hc10) lki_X9_isWalker lkv_X9_isWalker lkc_X9_235 ht0 (r := (RX9, TX9, 70)) ⟨rfl, by decide, rfl⟩ rfl rfl (Nat.le_of_ble_eq_true rfl) ⟨(Nat.le_of_ble_eq_true rfl), (Nat.le_of_ble_eq_true rfl)⟩ ⟨(Nat.le_of_ble_eq_true rfl), (Nat.le_of_ble_eq_true rfl)⟩ dX9_meet_10 rfl rfl rfl ?_
    refine q_if_ne cx (pc' := 16) (tgt := 18) dX9_meet_13 (by decide) rfl (fun c13 => ?_) (fun c13 => ?_)
    · replace h := ine c13 h
      refine q_iload_n cx (pc' := 19) 1 rfl dX9_meet_18 rfl ?_
      refine q_iload_n cx (pc' := 20) 2 rfl dX9_meet_19 rfl ?_
      refine q_icmp_ne cx (pc' := 23) (tgt := 26) dX9_meet_20 (by decide) rfl (fun c20 => ?_) (fun c20 => ?_)
      · replace h := ine c20 h
        refine q_aload_n cx (pc' := 27) 0 rfl dX9_meet_26 rfl ?_
        refine q_iload_n cx (pc' := 28) 1 rfl dX9_meet_27 rfl ?_
        refine q_aload_n cx (pc' := 29) 0 rfl dX9_meet_28 rfl ?_
        refine q_callV cx (pc' := 32) (S := [.int p1, .ref ths]) (S1 := [.int fn_X9_nearSide, .int p1, .ref ths]) (kc' := 0) (ks' := 0) 9 (ct_X9_nearSide Γ l M ths ht0) lki_X9_nearSide lkv_X9_nearSide lkc_X9_333 ht0 (r := (RX9, TX9, 70)) ⟨rfl, by decide, rfl⟩ rfl rfl (Nat.le_of_ble_eq_true rfl) ⟨(Nat.le_of_ble_eq_true rfl), (Nat.le_of_ble_eq_true rfl)⟩ ⟨(Nat.le_of_ble_eq_true rfl), (Nat.le_of_ble_eq_true rfl)⟩ dX9_meet_29 rfl rfl rfl ?_
        obtain ⟨M32, hc32, h⟩ := bnd_i h
        refine q_callV cx (pc' := 35) (S := []) (S1 := []) (kc' := 0) (ks' := 0) 9 (ct_X9_layFar Γ l M ths p1 fn_X9_nearSide ht0 _ hc32) lki_X9_layFar lkv_X9_layFar lkc_X9_336 ht0 (r := (RX9, TX9, 70)) ⟨rfl, by decide, rfl⟩ rfl rfl (Nat.le_of_ble_eq_true rfl) ⟨(Nat.le_of_ble_eq_true rfl), (Nat.le_of_ble_eq_true rfl)⟩ ⟨(Nat.le_of_ble_eq_true rfl), (Nat.le_of_ble_eq_true rfl)⟩ dX9_meet_32 rfl rfl rfl ?_
        refine q_iconst cx (pc' := 36) ki_0 dX9_meet_35 rfl ?_
        refine q_istore_n cx (pc' := 37) rfl rfl (by decide) (L' := [(3, .int 0), (0, .ref ths), (1, .int p1), (2, .int p2)]) rfl dX9_meet_36 rfl ?_
        obtain ⟨r37, hL37, h⟩ := bnd_i h
        have hk37_0 : ∀ (Me_37 : QM), Me_37 = r37 → EE p l e rm_X9_meet s m args below meth c Q Γ 7 0 0 61 [(0, .ref ths), (2, .int p2)] [] Me_37 := by
          intro Me_37 hp
          subst hp
          refine q_aload_n cx (pc' := 62) 0 rfl dX9_meet_61 rfl ?_
          refine q_iload_n cx (pc' := 63) 1 rfl dX9_meet_62 rfl ?_
          refine q_aload_n cx (pc' := 64) 0 rfl dX9_meet_63 rfl ?_
          obtain ⟨hk64, h⟩ := ck_i h
          refine q_callV cx (pc' := 67) (S := [.int p2, .ref ths]) (S1 := [.int fn_X9_nearSide, .int p2, .ref ths]) (kc' := 0) (ks' := 0) 9 (ct_X9_nearSide Γ l Me_37 ths hk64) lki_X9_nearSide lkv_X9_nearSide lkc_X9_333 hk64 (r := (RX9, TX9, 70)) ⟨rfl, by decide, rfl⟩ rfl rfl (Nat.le_of_ble_eq_true rfl) ⟨(Nat.le_of_ble_eq_true rfl), (Nat.le_of_ble_eq_true rfl)⟩ ⟨(Nat.le_of_ble_eq_true rfl), (Nat.le_of_ble_eq_true rfl)⟩ dX9_meet_64 rfl rfl rfl ?_
          obtain ⟨hk67, h⟩ := ck_i h
          obtain ⟨M67, hc67, h⟩ := bnd_i h
          refine q_callV cx (pc' := 70) (S := []) (S1 := []) (kc' := 0) (ks' := 0) 9 (ct_X9_layFar Γ l Me_37 ths p2 fn_X9_nearSide hk67 _ hc67) lki_X9_layFar lkv_X9_layFar lkc_X9_336 hk67 (r := (RX9, TX9, 70)) ⟨rfl, by decide, rfl⟩ rfl rfl (Nat.le_of_ble_eq_true rfl) ⟨(Nat.le_of_ble_eq_true rfl), (Nat.le_of_ble_eq_true rfl)⟩ ⟨(Nat.le_of_ble_eq_true rfl), (Nat.le_of_ble_eq_true rfl)⟩ dX9_meet_67 rfl rfl rfl ?_
          refine q_bipush cx (pc' := 72) kb_m5 dX9_meet_70 rfl ?_
          refine q_istore_n cx (pc' := 73) rfl rfl (by decide) (L' := [(3, .int (-5)), (0, .ref ths), (2, .int p2)]) rfl dX9_meet_72 rfl ?_
          refine q_iconst cx (pc' := 74) ki_0 dX9_meet_73 rfl ?_
          refine q_istore cx (pc' := 76) rfl (by decide) (L' := [(4, .int 0), (3, .int (-5)), (0, .ref ths), (2, .int p2)]) rfl dX9_meet_74 rfl ?_
          refine q_iconst cx (pc' := 77) ki_0 dX9_meet_76 rfl ?_
          refine q_istore cx (pc' := 79) rfl (by decide) (L' := [(5, .int 0), (4, .int 0), (3, .int (-5)), (0, .ref ths), (2, .int p2)]) rfl dX9_meet_77 rfl ?_
          obtain ⟨r79, hL79, h⟩ := bnd_i h
          have hk79_r : ∀ (re_79 : Int32), re_79 = r79 → some (re_79, M67) = some (z, M') := by
            intro re_79 hp
            subst hp
            exact h
          have key79 : ∀ (n : Nat) (w3_79 : Int32) (w4_79 : Int32) (w5_79 : Int32), itr (fun s79 : Int32 × Int32 × Int32 => lp_X9_meet_79 ths M67 s79.1 s79.2.1 s79.2.2) n (w3_79, w4_79, w5_79) = some r79 → EE p l e rm_X9_meet s m args below meth c Q Γ 7 0 0 79 [(0, .ref ths), (3, .int w3_79), (4, .int w4_79), (5, .int w5_79)] [] M67 := by
            intro n
            induction n with
            | zero => intro _ _ _ h; exact (itr_0 h).elim
            | succ n ih =>
              intro w3_79 w4_79 w5_79 h
              obtain ⟨z79, h, hz79⟩ := itr_i h
              replace h : lp_X9_meet_79 ths M67 w3_79 w4_79 w5_79 = some z79 := h
              unfold lp_X9_meet_79 at h
              refine q_iload cx (pc' := 81) 3 rfl dX9_meet_79 rfl ?_
              refine q_bipush cx (pc' := 83) kb_16 dX9_meet_81 rfl ?_
              refine q_icmp_ge cx (pc' := 86) (tgt := 153) dX9_meet_83 (by decide) rfl (fun c83 => ?_) (fun c83 => ?_)
              · replace h := ip c83 h
                refine q_iload_n cx (pc' := 154) 1 rfl dX9_meet_153 rfl ?_
                replace h := hk79_r _ (hz79.2 _ h)
                obtain ⟨rfl, rfl⟩ := o2_i h
                rw [hQ]
                exact q_iret cx dX9_meet_154
              · replace h := ine c83 h
                refine q_aload_n cx (pc' := 87) 0 rfl dX9_meet_86 rfl ?_
                obtain ⟨ht87, r87, ex87, h⟩ := gR_i h
                refine q_gR cx (pc' := 90) 9 32 fl_X9_108 rfl ht87 ex87 dX9_meet_87 rfl ?_
                refine q_iload cx (pc' := 92) 3 rfl dX9_meet_90 rfl ?_
                obtain ⟨ht92, hi92, x92, ex92, h⟩ := aI_i h
                refine q_iald cx (pc' := 93) ht92 hi92 ex92 dX9_meet_92 rfl ?_
                refine q_if_lt cx (pc' := 96) (tgt := 147) dX9_meet_93 (by decide) rfl (fun c93 => ?_) (fun c93 => ?_)
                · replace h := ip c93 h
                  obtain ⟨v5_147, ev5_147, h⟩ := nm_i h
                  refine q_iinc cx (pc' := 150) 3 rfl ki_1 ev5_147 (by decide) (L' := [(5, .int v5_147), (0, .ref ths), (3, .int w3_79), (4, .int w4_79)]) rfl dX9_meet_147 rfl ?_
                  refine q_goto cx dX9_meet_150 (tgt := 79) (by decide) ?_
                  refine q_sub cx [1, 2, 3, 0] rfl ?_
                  exact ih _ _ _ (hz79.1 _ h)
                · replace h := ine c93 h
                  refine q_aload_n cx (pc' := 97) 0 rfl dX9_meet_96 rfl ?_
                  obtain ⟨ht97, r97, ex97, h⟩ := gR_i h
                  refine q_gR cx (pc' := 100) 9 26 fl_X9_90 rfl ht97 ex97 dX9_meet_97 rfl ?_
                  refine q_iload cx (pc' := 102) 3 rfl dX9_meet_100 rfl ?_
                  obtain ⟨ht102, hi102, x102, ex102, h⟩ := aI_i h
                  refine q_iald cx (pc' := 103) ht102 hi102 ex102 dX9_meet_102 rfl ?_
                  refine q_if_ge cx (pc' := 106) (tgt := 109) dX9_meet_103 (by decide) rfl (fun c103 => ?_) (fun c103 => ?_)
                  · replace h := ip c103 h
                    refine q_aload_n cx (pc' := 110) 0 rfl dX9_meet_109 rfl ?_
                    obtain ⟨ht110, r110, ex110, h⟩ := gR_i h
                    refine q_gR cx (pc' := 113) 9 32 fl_X9_108 rfl ht110 ex110 dX9_meet_110 rfl ?_
                    refine q_iload cx (pc' := 115) 3 rfl dX9_meet_113 rfl ?_
                    obtain ⟨ht115, hi115, x115, ex115, h⟩ := aI_i h
                    refine q_iald cx (pc' := 116) ht115 hi115 ex115 dX9_meet_115 rfl ?_
                    refine q_aload_n cx (pc' := 117) 0 rfl dX9_meet_116 rfl ?_
                    obtain ⟨ht117, r117, ex117, h⟩ := gR_i h
                    refine q_gR cx (pc' := 120) 9 26 fl_X9_90 rfl ht117 ex117 dX9_meet_117 rfl ?_
                    refine q_iload cx (pc' := 122) 3 rfl dX9_meet_120 rfl ?_
                    obtain ⟨ht122, hi122, x122, ex122, h⟩ := aI_i h
                    refine q_iald cx (pc' := 123) ht122 hi122 ex122 dX9_meet_122 rfl ?_
                    refine q_iadd cx (pc' := 124) dX9_meet_123 rfl ?_
                    obtain ⟨v6_124, ev6_124, h⟩ := nm_i h
                    refine q_istore cx (pc' := 126) ev6_124 (by decide) (L' := [(6, .int v6_124), (0, .ref ths), (3, .int w3_79), (4, .int w4_79), (5, .int w5_79)]) rfl dX9_meet_124 rfl ?_
                    refine q_iload_n cx (pc' := 127) 2 rfl dX9_meet_126 rfl ?_
                    refine q_if_lt cx (pc' := 130) (tgt := 140) dX9_meet_127 (by decide) rfl (fun c127 => ?_) (fun c127 => ?_)
                    · replace h := ip c127 h
                      refine q_iload cx (pc' := 142) 4 rfl dX9_meet_140 rfl ?_
                      refine q_istore_n cx (pc' := 143) rfl rfl (by decide) (L' := [(3, .int w5_79), (6, .int v6_124), (0, .ref ths), (4, .int w4_79), (5, .int w5_79)]) rfl dX9_meet_142 rfl ?_
                      refine q_iload cx (pc' := 145) 1 rfl dX9_meet_143 rfl ?_
                      refine q_istore cx (pc' := 147) rfl (by decide) (L' := [(4, .int v6_124), (3, .int w5_79), (6, .int v6_124), (0, .ref ths), (5, .int w5_79)]) rfl dX9_meet_145 rfl ?_
                      obtain ⟨v5_147, ev5_147, h⟩ := nm_i h
                      refine q_iinc cx (pc' := 150) 4 rfl ki_1 ev5_147 (by decide) (L' := [(5, .int v5_147), (4, .int v6_124), (3, .int w5_79), (6, .int v6_124), (0, .ref ths)]) rfl dX9_meet_147 rfl ?_
                      refine q_goto cx dX9_meet_150 (tgt := 79) (by decide) ?_
                      refine q_sub cx [4, 2, 1, 0] rfl ?_
                      exact ih _ _ _ (hz79.1 _ h)
                    · replace h := ine c127 h
                      refine q_iload cx (pc' := 132) 0 rfl dX9_meet_130 rfl ?_
                      refine q_iload cx (pc' := 134) 3 rfl dX9_meet_132 rfl ?_
                      refine q_icmp_lt cx (pc' := 137) (tgt := 140) dX9_meet_134 (by decide) rfl (fun c134 => ?_) (fun c134 => ?_)
                      · replace h := ip c134 h
                        refine q_iload cx (pc' := 142) 4 rfl dX9_meet_140 rfl ?_
                        refine q_istore_n cx (pc' := 143) rfl rfl (by decide) (L' := [(3, .int w5_79), (6, .int v6_124), (0, .ref ths), (4, .int w4_79), (5, .int w5_79)]) rfl dX9_meet_142 rfl ?_
                        refine q_iload cx (pc' := 145) 1 rfl dX9_meet_143 rfl ?_
                        refine q_istore cx (pc' := 147) rfl (by decide) (L' := [(4, .int v6_124), (3, .int w5_79), (6, .int v6_124), (0, .ref ths), (5, .int w5_79)]) rfl dX9_meet_145 rfl ?_
                        obtain ⟨v5_147, ev5_147, h⟩ := nm_i h
                        refine q_iinc cx (pc' := 150) 4 rfl ki_1 ev5_147 (by decide) (L' := [(5, .int v5_147), (4, .int v6_124), (3, .int w5_79), (6, .int v6_124), (0, .ref ths)]) rfl dX9_meet_147 rfl ?_
                        refine q_goto cx dX9_meet_150 (tgt := 79) (by decide) ?_
                        refine q_sub cx [4, 2, 1, 0] rfl ?_
                        exact ih _ _ _ (hz79.1 _ h)
                      · replace h := ine c134 h
                        refine q_goto cx dX9_meet_137 (tgt := 147) (by decide) ?_
                        obtain ⟨v5_147, ev5_147, h⟩ := nm_i h
                        refine q_iinc cx (pc' := 150) 4 rfl ki_1 ev5_147 (by decide) (L' := [(5, .int v5_147), (6, .int v6_124), (0, .ref ths), (3, .int w3_79), (4, .int w4_79)]) rfl dX9_meet_147 rfl ?_
                        refine q_goto cx dX9_meet_150 (tgt := 79) (by decide) ?_
                        refine q_sub cx [2, 3, 4, 0] rfl ?_
                        exact ih _ _ _ (hz79.1 _ h)
                  · replace h := ine c103 h
                    refine q_goto cx dX9_meet_106 (tgt := 147) (by decide) ?_
                    obtain ⟨v5_147, ev5_147, h⟩ := nm_i h
                    refine q_iinc cx (pc' := 150) 3 rfl ki_1 ev5_147 (by decide) (L' := [(5, .int v5_147), (0, .ref ths), (3, .int w3_79), (4, .int w4_79)]) rfl dX9_meet_147 rfl ?_
                    refine q_goto cx dX9_meet_150 (tgt := 79) (by decide) ?_
                    refine q_sub cx [1, 2, 3, 0] rfl ?_
                    exact ih _ _ _ (hz79.1 _ h)
          refine q_sub cx [3, 2, 1, 0] rfl ?_
          exact key79 FU _ _ _ hL79
        have key37 : ∀ (n : Nat) (w3_37 : Int32) (Mw_37 : QM), itr (fun s37 : Int32 × QM => lp_X9_meet_37 ths s37.1 s37.2) n (w3_37, Mw_37) = some r37 → EE p l e rm_X9_meet s m args below meth c Q Γ 7 0 0 37 [(0, .ref ths), (2, .int p2), (3, .int w3_37)] [] Mw_37 := by
          intro n
          induction n with
          | zero => intro _ _ h; exact (itr_0 h).elim
          | succ n ih =>
            intro w3_37 Mw_37 h
            obtain ⟨z37, h, hz37⟩ := itr_i h
            replace h : lp_X9_meet_37 ths w3_37 Mw_37 = some z37 := h
            unfold lp_X9_meet_37 at h
            refine q_iload_n cx (pc' := 38) 2 rfl dX9_meet_37 rfl ?_
            refine q_bipush cx (pc' := 40) kb_16 dX9_meet_38 rfl ?_
            refine q_icmp_ge cx (pc' := 43) (tgt := 61) dX9_meet_40 (by decide) rfl (fun c40 => ?_) (fun c40 => ?_)
            · replace h := ip c40 h
              refine q_sub cx [0, 1] rfl ?_
              exact hk37_0 _ (hz37.2 _ h)
            · replace h := ine c40 h
              refine q_aload_n cx (pc' := 44) 0 rfl dX9_meet_43 rfl ?_
              obtain ⟨ht44, r44, ex44, h⟩ := gR_i h
              refine q_gR cx (pc' := 47) 9 32 fl_X9_108 rfl ht44 ex44 dX9_meet_44 rfl ?_
              refine q_iload_n cx (pc' := 48) 2 rfl dX9_meet_47 rfl ?_
              refine q_aload_n cx (pc' := 49) 0 rfl dX9_meet_48 rfl ?_
              obtain ⟨ht49, r49, ex49, h⟩ := gR_i h
              refine q_gR cx (pc' := 52) 9 26 fl_X9_90 rfl ht49 ex49 dX9_meet_49 rfl ?_
              refine q_iload_n cx (pc' := 53) 2 rfl dX9_meet_52 rfl ?_
              obtain ⟨ht53, hi53, x53, ex53, h⟩ := aI_i h
              refine q_iald cx (pc' := 54) ht53 hi53 ex53 dX9_meet_53 rfl ?_
              obtain ⟨ht54, hi54, M54, eM54, h⟩ := wI_i h
              refine q_iast cx (pc' := 55) ht54 hi54 eM54 dX9_meet_54 rfl ?_
              obtain ⟨v3_55, ev3_55, h⟩ := nm_i h
              refine q_iinc cx (pc' := 58) 2 rfl ki_1 ev3_55 (by decide) (L' := [(3, .int v3_55), (0, .ref ths), (2, .int p2)]) rfl dX9_meet_55 rfl ?_
              refine q_goto cx dX9_meet_58 (tgt := 37) (by decide) ?_
              refine q_sub cx [1, 2, 0] rfl ?_
              exact ih _ _ (hz37.1 _ h)
        refine q_sub cx [1, 3, 0] rfl ?_
        exact key37 FU _ _ hL37
      · replace h := ip c20 h
        refine q_bipush cx (pc' := 25) kb_m2 dX9_meet_23 rfl ?_
        obtain ⟨rfl, rfl⟩ := o2_i h
        rw [hQ]
        exact q_iret cx dX9_meet_25
    · replace h := ip c13 h
      refine q_iconst cx (pc' := 17) ki_m1 dX9_meet_16 rfl ?_
      obtain ⟨rfl, rfl⟩ := o2_i h
      rw [hQ]
      exact q_iret cx dX9_meet_17

abbrev rm_X9_see : Room := { frames := 3, cells := 0, slots := 0, locals := 84 }
def fn_X9_see (M : QM) (ths : Nat) (p1 : Int32) (p2 : Int32) (p3 : Int32) : Option (Int32 × QM) :=
  if p1 = (-1) then
    pI M ths 9 33 0 fun M7 =>
    some (0, M7)
  else
    bnd (fn_X9_isWalker M ths p1) fun c14 =>
    if c14 = 0 then
      some ((-1), M)
    else
      if (fn_X9_in p3 0 20) = 0 then
        some ((-2), M)
      else
        gI M ths 9 33 fun x37 =>
        if x37 = 5 then
          some ((-4), M)
        else
          gR M ths 9 34 fun r48 =>
          gI M ths 9 33 fun x52 =>
          wI M 20 r48 x52 p1 fun M56 =>
          gR M56 ths 9 37 fun r58 =>
          gI M56 ths 9 33 fun x62 =>
          wI M56 21 r58 x62 (zb p2) fun M66 =>
          gR M66 ths 9 35 fun r68 =>
          gI M66 ths 9 33 fun x72 =>
          wI M66 20 r68 x72 p3 fun M76 =>
          gI M76 ths 9 33 fun x79 =>
          pI M76 ths 9 33 (x79 + 1) fun M84 =>
          gI M84 ths 9 33 fun x88 =>
          some (x88, M84)
set_option maxRecDepth 100000 in
set_option maxHeartbeats 4000000 in
theorem ct_X9_see (Γ : GT) (l : Launch) (M : QM) (ths : Nat) (p1 : Int32) (p2 : Int32) (p3 : Int32) (ht0 : mt M ths = 9) (z : Int32) (M' : QM) (h : fn_X9_see M ths p1 p2 p3 = some (z, M')) : CT Γ l yX9_see cX9_see 4 (some .int) rm_X9_see (.ref ths :: [.int p1, .int p2, .int p3]) M (some (.int z)) M' := by
  refine ct_intro (own := RX9) (L := [(0, .ref ths), (1, .int p1), (2, .int p2), (3, .int p3)]) (by decide +kernel) rfl (Nat.le_of_ble_eq_true rfl) rfl ?_
  intro p e s m args below meth c Q hQ cx hnm
  unfold fn_X9_see at h
  refine q_iload_n cx (pc' := 1) 1 rfl dX9_see_0 rfl ?_
  refine q_iconst cx (pc' := 2) ki_m1 dX9_see_1 rfl ?_
  refine q_icmp_ne cx (pc' := 5) (tgt := 12) dX9_see_2 (by decide) rfl (fun c2 => ?_) (fun c2 => ?_)
  · replace h := ine c2 h
    refine q_aload_n cx (pc' := 13) 0 rfl dX9_see_12 rfl ?_
    refine q_iload_n cx (pc' := 14) 1 rfl dX9_see_13 rfl ?_
    obtain ⟨c14, hc14, h⟩ := bnd_i h
    refine q_callV cx (pc' := 17) (S := []) (S1 := [.int c14]) (kc' := 0) (ks' := 0) 9 (ct_X9_isWalker Γ l M ths p1 ht0 _ hc14) lki_X9_isWalker lkv_X9_isWalker lkc_X9_235 ht0 (r := (RX9, TX9, 70)) ⟨rfl, by decide, rfl⟩ rfl rfl (Nat.le_of_ble_eq_true rfl) ⟨(Nat.le_of_ble_eq_true rfl), (Nat.le_of_ble_eq_true rfl)⟩ ⟨(Nat.le_of_ble_eq_true rfl), (Nat.le_of_ble_eq_true rfl)⟩ dX9_see_14 rfl rfl rfl ?_
    refine q_if_ne cx (pc' := 20) (tgt := 22) dX9_see_17 (by decide) rfl (fun c17 => ?_) (fun c17 => ?_)
    · replace h := ine c17 h
      refine q_aload_n cx (pc' := 23) 0 rfl dX9_see_22 rfl ?_
      refine q_iload_n cx (pc' := 24) 3 rfl dX9_see_23 rfl ?_
      refine q_iconst cx (pc' := 25) ki_0 dX9_see_24 rfl ?_
      refine q_bipush cx (pc' := 27) kb_20 dX9_see_25 rfl ?_
      refine q_callV cx (pc' := 30) (S := []) (S1 := [.int (fn_X9_in p3 0 20)]) (kc' := 0) (ks' := 0) 9 (ct_X9_in Γ l M ths p3 0 20 ht0) lki_X9_in lkv_X9_in lkc_X9_224 ht0 (r := (RX9, TX9, 70)) ⟨rfl, by decide, rfl⟩ rfl rfl (Nat.le_of_ble_eq_true rfl) ⟨(Nat.le_of_ble_eq_true rfl), (Nat.le_of_ble_eq_true rfl)⟩ ⟨(Nat.le_of_ble_eq_true rfl), (Nat.le_of_ble_eq_true rfl)⟩ dX9_see_27 rfl rfl rfl ?_
      refine q_if_ne cx (pc' := 33) (tgt := 36) dX9_see_30 (by decide) rfl (fun c30 => ?_) (fun c30 => ?_)
      · replace h := ine c30 h
        refine q_aload_n cx (pc' := 37) 0 rfl dX9_see_36 rfl ?_
        obtain ⟨ht37, x37, ex37, h⟩ := gI_i h
        refine q_gI cx (pc' := 40) 9 33 fl_X9_111 rfl ht37 ex37 dX9_see_37 rfl ?_
        refine q_iconst cx (pc' := 41) ki_5 dX9_see_40 rfl ?_
        refine q_icmp_ne cx (pc' := 44) (tgt := 47) dX9_see_41 (by decide) rfl (fun c41 => ?_) (fun c41 => ?_)
        · replace h := ine c41 h
          refine q_aload_n cx (pc' := 48) 0 rfl dX9_see_47 rfl ?_
          obtain ⟨ht48, r48, ex48, h⟩ := gR_i h
          refine q_gR cx (pc' := 51) 9 34 fl_X9_114 rfl ht48 ex48 dX9_see_48 rfl ?_
          refine q_aload_n cx (pc' := 52) 0 rfl dX9_see_51 rfl ?_
          obtain ⟨ht52, x52, ex52, h⟩ := gI_i h
          refine q_gI cx (pc' := 55) 9 33 fl_X9_111 rfl ht52 ex52 dX9_see_52 rfl ?_
          refine q_iload_n cx (pc' := 56) 1 rfl dX9_see_55 rfl ?_
          obtain ⟨ht56, hi56, M56, eM56, h⟩ := wI_i h
          refine q_iast cx (pc' := 57) ht56 hi56 eM56 dX9_see_56 rfl ?_
          refine q_aload_n cx (pc' := 58) 0 rfl dX9_see_57 rfl ?_
          obtain ⟨ht58, r58, ex58, h⟩ := gR_i h
          refine q_gR cx (pc' := 61) 9 37 fl_X9_123 rfl ht58 ex58 dX9_see_58 rfl ?_
          refine q_aload_n cx (pc' := 62) 0 rfl dX9_see_61 rfl ?_
          obtain ⟨ht62, x62, ex62, h⟩ := gI_i h
          refine q_gI cx (pc' := 65) 9 33 fl_X9_111 rfl ht62 ex62 dX9_see_62 rfl ?_
          refine q_iload_n cx (pc' := 66) 2 rfl dX9_see_65 rfl ?_
          obtain ⟨ht66, hi66, M66, eM66, h⟩ := wI_i h
          refine q_zast cx (pc' := 67) ht66 hi66 eM66 dX9_see_66 rfl ?_
          refine q_aload_n cx (pc' := 68) 0 rfl dX9_see_67 rfl ?_
          obtain ⟨ht68, r68, ex68, h⟩ := gR_i h
          refine q_gR cx (pc' := 71) 9 35 fl_X9_117 rfl ht68 ex68 dX9_see_68 rfl ?_
          refine q_aload_n cx (pc' := 72) 0 rfl dX9_see_71 rfl ?_
          obtain ⟨ht72, x72, ex72, h⟩ := gI_i h
          refine q_gI cx (pc' := 75) 9 33 fl_X9_111 rfl ht72 ex72 dX9_see_72 rfl ?_
          refine q_iload_n cx (pc' := 76) 3 rfl dX9_see_75 rfl ?_
          obtain ⟨ht76, hi76, M76, eM76, h⟩ := wI_i h
          refine q_iast cx (pc' := 77) ht76 hi76 eM76 dX9_see_76 rfl ?_
          refine q_aload_n cx (pc' := 78) 0 rfl dX9_see_77 rfl ?_
          refine q_dup cx (pc' := 79) rfl dX9_see_78 rfl ?_
          obtain ⟨ht79, x79, ex79, h⟩ := gI_i h
          refine q_gI cx (pc' := 82) 9 33 fl_X9_111 rfl ht79 ex79 dX9_see_79 rfl ?_
          refine q_iconst cx (pc' := 83) ki_1 dX9_see_82 rfl ?_
          refine q_iadd cx (pc' := 84) dX9_see_83 rfl ?_
          obtain ⟨ht84, M84, eM84, h⟩ := pI_i h
          refine q_pI cx (pc' := 87) 9 33 fl_X9_111 rfl ht84 (ty := .int) ⟨(RX9, TX9, 70), rfl, by decide +kernel, Or.inl rfl⟩ rfl rfl eM84 dX9_see_84 rfl ?_
          refine q_aload_n cx (pc' := 88) 0 rfl dX9_see_87 rfl ?_
          obtain ⟨ht88, x88, ex88, h⟩ := gI_i h
          refine q_gI cx (pc' := 91) 9 33 fl_X9_111 rfl ht88 ex88 dX9_see_88 rfl ?_
          obtain ⟨rfl, rfl⟩ := o2_i h
          rw [hQ]
          exact q_iret cx dX9_see_91
        · replace h := ip c41 h
          refine q_bipush cx (pc' := 46) kb_m4 dX9_see_44 rfl ?_
          obtain ⟨rfl, rfl⟩ := o2_i h
          rw [hQ]
          exact q_iret cx dX9_see_46
      · replace h := ip c30 h
        refine q_bipush cx (pc' := 35) kb_m2 dX9_see_33 rfl ?_
        obtain ⟨rfl, rfl⟩ := o2_i h
        rw [hQ]
        exact q_iret cx dX9_see_35
    · replace h := ip c17 h
      refine q_iconst cx (pc' := 21) ki_m1 dX9_see_20 rfl ?_
      obtain ⟨rfl, rfl⟩ := o2_i h
      rw [hQ]
      exact q_iret cx dX9_see_21
  · replace h := ip c2 h
    refine q_aload_n cx (pc' := 6) 0 rfl dX9_see_5 rfl ?_
    refine q_iconst cx (pc' := 7) ki_0 dX9_see_6 rfl ?_
    obtain ⟨ht7, M7, eM7, h⟩ := pI_i h
    refine q_pI cx (pc' := 10) 9 33 fl_X9_111 rfl ht7 (ty := .int) ⟨(RX9, TX9, 70), rfl, by decide +kernel, Or.inl rfl⟩ rfl rfl eM7 dX9_see_7 rfl ?_
    refine q_iconst cx (pc' := 11) ki_0 dX9_see_10 rfl ?_
    obtain ⟨rfl, rfl⟩ := o2_i h
    rw [hQ]
    exact q_iret cx dX9_see_11

abbrev rm_X9_layThen : Room := { frames := 7, cells := 0, slots := 0, locals := 177 }
def lp_X9_layThen_26 (ths : Nat) (w1_2 : Int32) (w2_26 : Int32) (Mw_26 : QM) : Option ((Int32 × QM) ⊕ (QM)) :=
  if 16 ≤ w2_26 then
    some (.inr Mw_26)
  else
    gR Mw_26 ths 9 36 fun r33 =>
    gR Mw_26 ths 9 2 fun r43 =>
    aI Mw_26 20 r43 w2_26 fun x47 =>
    wI Mw_26 20 r33 ((16 * w1_2) + w2_26) x47 fun M48 =>
    nm (w2_26 + 1) fun v2_49 =>
    some (.inl (v2_49, M48))
def lp_X9_layThen_2 (ths : Nat) (w1_2 : Int32) (Mw_2 : QM) : Option ((Int32 × QM) ⊕ (QM)) :=
  gI Mw_2 ths 9 33 fun x4 =>
  if x4 ≤ w1_2 then
    some (.inr Mw_2)
  else
    ck Mw_2 ths 9 <|
    bnd (fn_X9_save Mw_2 ths) fun M11 =>
    gR M11 ths 9 35 fun r16 =>
    aI M11 20 r16 w1_2 fun x20 =>
    ck M11 ths 9 <|
    bnd (fn_X9_goMinutes M11 ths x20) fun M21 =>
    bnd (itr (fun s26 : Int32 × QM => lp_X9_layThen_26 ths w1_2 s26.1 s26.2) FU (0, M21)) fun Me_26 =>
    ck Me_26 ths 9 <|
    bnd (fn_X9_putBack Me_26 ths) fun M56 =>
    nm (w1_2 + 1) fun v1_59 =>
    some (.inl (v1_59, M56))
def fn_X9_layThen (M : QM) (ths : Nat) : Option QM :=
  bnd (itr (fun s2 : Int32 × QM => lp_X9_layThen_2 ths s2.1 s2.2) FU (0, M)) fun Mr_2 =>
  some Mr_2
set_option maxRecDepth 100000 in
set_option maxHeartbeats 4000000 in
theorem ct_X9_layThen (Γ : GT) (l : Launch) (M : QM) (ths : Nat) (ht0 : mt M ths = 9) (M' : QM) (h : fn_X9_layThen M ths = some M') : CT Γ l yX9_layThen cX9_layThen 3 none rm_X9_layThen (.ref ths :: []) M none M' := by
  refine ct_intro (own := RX9) (L := [(0, .ref ths)]) (by decide +kernel) rfl (Nat.le_of_ble_eq_true rfl) rfl ?_
  intro p e s m args below meth c Q hQ cx hnm
  unfold fn_X9_layThen at h
  refine q_iconst cx (pc' := 1) ki_0 dX9_layThen_0 rfl ?_
  refine q_istore_n cx (pc' := 2) rfl rfl (by decide) (L' := [(1, .int 0), (0, .ref ths)]) rfl dX9_layThen_1 rfl ?_
  obtain ⟨r2, hL2, h⟩ := bnd_i h
  have hk2_r : ∀ (Mr_2 : QM), Mr_2 = r2 → some Mr_2 = some M' := by
    intro Mr_2 hp
    subst hp
    exact h
  have key2 : ∀ (n : Nat) (w1_2 : Int32) (Mw_2 : QM), itr (fun s2 : Int32 × QM => lp_X9_layThen_2 ths s2.1 s2.2) n (w1_2, Mw_2) = some r2 → EE p l e rm_X9_layThen s m args below meth c Q Γ 3 0 0 2 [(0, .ref ths), (1, .int w1_2)] [] Mw_2 := by
    intro n
    induction n with
    | zero => intro _ _ h; exact (itr_0 h).elim
    | succ n ih =>
      intro w1_2 Mw_2 h
      obtain ⟨z2, h, hz2⟩ := itr_i h
      replace h : lp_X9_layThen_2 ths w1_2 Mw_2 = some z2 := h
      unfold lp_X9_layThen_2 at h
      refine q_iload_n cx (pc' := 3) 1 rfl dX9_layThen_2 rfl ?_
      refine q_aload_n cx (pc' := 4) 0 rfl dX9_layThen_3 rfl ?_
      obtain ⟨ht4, x4, ex4, h⟩ := gI_i h
      refine q_gI cx (pc' := 7) 9 33 fl_X9_111 rfl ht4 ex4 dX9_layThen_4 rfl ?_
      refine q_icmp_ge cx (pc' := 10) (tgt := 65) dX9_layThen_7 (by decide) rfl (fun c7 => ?_) (fun c7 => ?_)
      · replace h := ip c7 h
        replace h := hk2_r _ (hz2.2 _ h)
        obtain rfl := o1_i h
        rw [hQ]
        exact q_vret cx dX9_layThen_65
      · replace h := ine c7 h
        refine q_aload_n cx (pc' := 11) 0 rfl dX9_layThen_10 rfl ?_
        obtain ⟨hk11, h⟩ := ck_i h
        obtain ⟨M11, hc11, h⟩ := bnd_i h
        refine q_callV cx (pc' := 14) (S := []) (S1 := []) (kc' := 0) (ks' := 0) 9 (ct_X9_save Γ l Mw_2 ths hk11 _ hc11) lki_X9_save lkv_X9_save lkc_X9_373 hk11 (r := (RX9, TX9, 70)) ⟨rfl, by decide, rfl⟩ rfl rfl (Nat.le_of_ble_eq_true rfl) ⟨(Nat.le_of_ble_eq_true rfl), (Nat.le_of_ble_eq_true rfl)⟩ ⟨(Nat.le_of_ble_eq_true rfl), (Nat.le_of_ble_eq_true rfl)⟩ dX9_layThen_11 rfl rfl rfl ?_
        refine q_aload_n cx (pc' := 15) 0 rfl dX9_layThen_14 rfl ?_
        refine q_aload_n cx (pc' := 16) 0 rfl dX9_layThen_15 rfl ?_
        obtain ⟨ht16, r16, ex16, h⟩ := gR_i h
        refine q_gR cx (pc' := 19) 9 35 fl_X9_117 rfl ht16 ex16 dX9_layThen_16 rfl ?_
        refine q_iload_n cx (pc' := 20) 1 rfl dX9_layThen_19 rfl ?_
        obtain ⟨ht20, hi20, x20, ex20, h⟩ := aI_i h
        refine q_iald cx (pc' := 21) ht20 hi20 ex20 dX9_layThen_20 rfl ?_
        obtain ⟨hk21, h⟩ := ck_i h
        obtain ⟨M21, hc21, h⟩ := bnd_i h
        refine q_callV cx (pc' := 24) (S := []) (S1 := []) (kc' := 0) (ks' := 0) 9 (ct_X9_goMinutes Γ l M11 ths x20 hk21 _ hc21) lki_X9_goMinutes lkv_X9_goMinutes lkc_X9_370 hk21 (r := (RX9, TX9, 70)) ⟨rfl, by decide, rfl⟩ rfl rfl (Nat.le_of_ble_eq_true rfl) ⟨(Nat.le_of_ble_eq_true rfl), (Nat.le_of_ble_eq_true rfl)⟩ ⟨(Nat.le_of_ble_eq_true rfl), (Nat.le_of_ble_eq_true rfl)⟩ dX9_layThen_21 rfl rfl rfl ?_
        refine q_iconst cx (pc' := 25) ki_0 dX9_layThen_24 rfl ?_
        refine q_istore_n cx (pc' := 26) rfl rfl (by decide) (L' := [(2, .int 0), (0, .ref ths), (1, .int w1_2)]) rfl dX9_layThen_25 rfl ?_
        obtain ⟨r26, hL26, h⟩ := bnd_i h
        have hk26_0 : ∀ (Me_26 : QM), Me_26 = r26 → EE p l e rm_X9_layThen s m args below meth c Q Γ 3 0 0 55 [(0, .ref ths), (1, .int w1_2)] [] Me_26 := by
          intro Me_26 hp
          subst hp
          refine q_aload_n cx (pc' := 56) 0 rfl dX9_layThen_55 rfl ?_
          obtain ⟨hk56, h⟩ := ck_i h
          obtain ⟨M56, hc56, h⟩ := bnd_i h
          refine q_callV cx (pc' := 59) (S := []) (S1 := []) (kc' := 0) (ks' := 0) 9 (ct_X9_putBack Γ l Me_26 ths hk56 _ hc56) lki_X9_putBack lkv_X9_putBack lkc_X9_376 hk56 (r := (RX9, TX9, 70)) ⟨rfl, by decide, rfl⟩ rfl rfl (Nat.le_of_ble_eq_true rfl) ⟨(Nat.le_of_ble_eq_true rfl), (Nat.le_of_ble_eq_true rfl)⟩ ⟨(Nat.le_of_ble_eq_true rfl), (Nat.le_of_ble_eq_true rfl)⟩ dX9_layThen_56 rfl rfl rfl ?_
          obtain ⟨v1_59, ev1_59, h⟩ := nm_i h
          refine q_iinc cx (pc' := 62) 1 rfl ki_1 ev1_59 (by decide) (L' := [(1, .int v1_59), (0, .ref ths)]) rfl dX9_layThen_59 rfl ?_
          refine q_goto cx dX9_layThen_62 (tgt := 2) (by decide) ?_
          refine q_sub cx [1, 0] rfl ?_
          exact ih _ _ (hz2.1 _ h)
        have key26 : ∀ (n : Nat) (w2_26 : Int32) (Mw_26 : QM), itr (fun s26 : Int32 × QM => lp_X9_layThen_26 ths w1_2 s26.1 s26.2) n (w2_26, Mw_26) = some r26 → EE p l e rm_X9_layThen s m args below meth c Q Γ 3 0 0 26 [(0, .ref ths), (1, .int w1_2), (2, .int w2_26)] [] Mw_26 := by
          intro n
          induction n with
          | zero => intro _ _ h; exact (itr_0 h).elim
          | succ n ih =>
            intro w2_26 Mw_26 h
            obtain ⟨z26, h, hz26⟩ := itr_i h
            replace h : lp_X9_layThen_26 ths w1_2 w2_26 Mw_26 = some z26 := h
            unfold lp_X9_layThen_26 at h
            refine q_iload_n cx (pc' := 27) 2 rfl dX9_layThen_26 rfl ?_
            refine q_bipush cx (pc' := 29) kb_16 dX9_layThen_27 rfl ?_
            refine q_icmp_ge cx (pc' := 32) (tgt := 55) dX9_layThen_29 (by decide) rfl (fun c29 => ?_) (fun c29 => ?_)
            · replace h := ip c29 h
              refine q_sub cx [0, 1] rfl ?_
              exact hk26_0 _ (hz26.2 _ h)
            · replace h := ine c29 h
              refine q_aload_n cx (pc' := 33) 0 rfl dX9_layThen_32 rfl ?_
              obtain ⟨ht33, r33, ex33, h⟩ := gR_i h
              refine q_gR cx (pc' := 36) 9 36 fl_X9_120 rfl ht33 ex33 dX9_layThen_33 rfl ?_
              refine q_bipush cx (pc' := 38) kb_16 dX9_layThen_36 rfl ?_
              refine q_iload_n cx (pc' := 39) 1 rfl dX9_layThen_38 rfl ?_
              refine q_imul cx (pc' := 40) dX9_layThen_39 rfl ?_
              refine q_iload_n cx (pc' := 41) 2 rfl dX9_layThen_40 rfl ?_
              refine q_iadd cx (pc' := 42) dX9_layThen_41 rfl ?_
              refine q_aload_n cx (pc' := 43) 0 rfl dX9_layThen_42 rfl ?_
              obtain ⟨ht43, r43, ex43, h⟩ := gR_i h
              refine q_gR cx (pc' := 46) 9 2 fl_X9_16 rfl ht43 ex43 dX9_layThen_43 rfl ?_
              refine q_iload_n cx (pc' := 47) 2 rfl dX9_layThen_46 rfl ?_
              obtain ⟨ht47, hi47, x47, ex47, h⟩ := aI_i h
              refine q_iald cx (pc' := 48) ht47 hi47 ex47 dX9_layThen_47 rfl ?_
              obtain ⟨ht48, hi48, M48, eM48, h⟩ := wI_i h
              refine q_iast cx (pc' := 49) ht48 hi48 eM48 dX9_layThen_48 rfl ?_
              obtain ⟨v2_49, ev2_49, h⟩ := nm_i h
              refine q_iinc cx (pc' := 52) 2 rfl ki_1 ev2_49 (by decide) (L' := [(2, .int v2_49), (0, .ref ths), (1, .int w1_2)]) rfl dX9_layThen_49 rfl ?_
              refine q_goto cx dX9_layThen_52 (tgt := 26) (by decide) ?_
              refine q_sub cx [1, 2, 0] rfl ?_
              exact ih _ _ (hz26.1 _ h)
        refine q_sub cx [1, 2, 0] rfl ?_
        exact key26 FU _ _ hL26
  refine q_sub cx [1, 0] rfl ?_
  exact key2 FU _ _ hL2

abbrev rm_X9_isSeen : Room := { frames := 8, cells := 0, slots := 0, locals := 197 }
def lp_X9_isSeen_22 (ths : Nat) (w2_8 : Int32) (w3_22 : Int32) (Mw_22 : QM) : Option ((Int32 × QM) ⊕ (QM)) :=
  if 16 ≤ w3_22 then
    some (.inr Mw_22)
  else
    gR Mw_22 ths 9 2 fun r29 =>
    gR Mw_22 ths 9 36 fun r34 =>
    aI Mw_22 20 r34 ((16 * w2_8) + w3_22) fun x43 =>
    wI Mw_22 20 r29 w3_22 x43 fun M44 =>
    nm (w3_22 + 1) fun v3_45 =>
    some (.inl (v3_45, M44))
def lp_X9_isSeen_8 (ths : Nat) (w1_8 : Int32) (w2_8 : Int32) (Mw_8 : QM) : Option ((Int32 × Int32 × QM) ⊕ (Int32 × QM)) :=
  gI Mw_8 ths 9 33 fun x10 =>
  if x10 ≤ w2_8 then
    some (.inr (w1_8, Mw_8))
  else
    if w1_8 = 0 then
      some (.inr (w1_8, Mw_8))
    else
      bnd (itr (fun s22 : Int32 × QM => lp_X9_isSeen_22 ths w2_8 s22.1 s22.2) FU (0, Mw_8)) fun Me_22 =>
      gR Me_22 ths 9 34 fun r53 =>
      aI Me_22 20 r53 w2_8 fun x57 =>
      ck Me_22 ths 9 <|
      bnd (fn_X9_canCross Me_22 ths x57) fun y58 =>
      pr2 y58 fun c58 M58 =>
      gR M58 ths 9 37 fun r62 =>
      aI M58 21 r62 w2_8 fun x66 =>
      if c58 = x66 then
        nm (w2_8 + 1) fun v2_76 =>
        some (.inl (1, v2_76, M58))
      else
        nm (w2_8 + 1) fun v2_76 =>
        some (.inl (0, v2_76, M58))
def fn_X9_isSeen (M : QM) (ths : Nat) : Option (Int32 × QM) :=
  bnd (fn_X9_save M ths) fun M1 =>
  bnd (itr (fun s8 : Int32 × Int32 × QM => lp_X9_isSeen_8 ths s8.1 s8.2.1 s8.2.2) FU (1, 0, M1)) fun r8 =>
  pr2 r8 fun e1_8 Me_8 =>
  ck Me_8 ths 9 <|
  bnd (fn_X9_putBack Me_8 ths) fun M83 =>
  some (zb e1_8, M83)
set_option maxRecDepth 100000 in
set_option maxHeartbeats 4000000 in
theorem ct_X9_isSeen (Γ : GT) (l : Launch) (M : QM) (ths : Nat) (ht0 : mt M ths = 9) (z : Int32) (M' : QM) (h : fn_X9_isSeen M ths = some (z, M')) : CT Γ l yX9_isSeen cX9_isSeen 4 (some .boolean) rm_X9_isSeen (.ref ths :: []) M (some (.int z)) M' := by
  refine ct_intro (own := RX9) (L := [(0, .ref ths)]) (by decide +kernel) rfl (Nat.le_of_ble_eq_true rfl) rfl ?_
  intro p e s m args below meth c Q hQ cx hnm
  unfold fn_X9_isSeen at h
  refine q_aload_n cx (pc' := 1) 0 rfl dX9_isSeen_0 rfl ?_
  obtain ⟨M1, hc1, h⟩ := bnd_i h
  refine q_callV cx (pc' := 4) (S := []) (S1 := []) (kc' := 0) (ks' := 0) 9 (ct_X9_save Γ l M ths ht0 _ hc1) lki_X9_save lkv_X9_save lkc_X9_373 ht0 (r := (RX9, TX9, 70)) ⟨rfl, by decide, rfl⟩ rfl rfl (Nat.le_of_ble_eq_true rfl) ⟨(Nat.le_of_ble_eq_true rfl), (Nat.le_of_ble_eq_true rfl)⟩ ⟨(Nat.le_of_ble_eq_true rfl), (Nat.le_of_ble_eq_true rfl)⟩ dX9_isSeen_1 rfl rfl rfl ?_
  refine q_iconst cx (pc' := 5) ki_1 dX9_isSeen_4 rfl ?_
  refine q_istore_n cx (pc' := 6) rfl rfl (by decide) (L' := [(1, .int 1), (0, .ref ths)]) rfl dX9_isSeen_5 rfl ?_
  refine q_iconst cx (pc' := 7) ki_0 dX9_isSeen_6 rfl ?_
  refine q_istore_n cx (pc' := 8) rfl rfl (by decide) (L' := [(2, .int 0), (1, .int 1), (0, .ref ths)]) rfl dX9_isSeen_7 rfl ?_
  obtain ⟨r8, hL8, h⟩ := bnd_i h
  have hk8_0 : ∀ (e1_8 : Int32) (Me_8 : QM), (e1_8, Me_8) = r8 → EE p l e rm_X9_isSeen s m args below meth c Q Γ 4 0 0 82 [(0, .ref ths), (1, .int e1_8)] [] Me_8 := by
    intro e1_8 Me_8 hp
    subst hp
    replace h := pr2_i h
    refine q_aload_n cx (pc' := 83) 0 rfl dX9_isSeen_82 rfl ?_
    obtain ⟨hk83, h⟩ := ck_i h
    obtain ⟨M83, hc83, h⟩ := bnd_i h
    refine q_callV cx (pc' := 86) (S := []) (S1 := []) (kc' := 0) (ks' := 0) 9 (ct_X9_putBack Γ l Me_8 ths hk83 _ hc83) lki_X9_putBack lkv_X9_putBack lkc_X9_376 hk83 (r := (RX9, TX9, 70)) ⟨rfl, by decide, rfl⟩ rfl rfl (Nat.le_of_ble_eq_true rfl) ⟨(Nat.le_of_ble_eq_true rfl), (Nat.le_of_ble_eq_true rfl)⟩ ⟨(Nat.le_of_ble_eq_true rfl), (Nat.le_of_ble_eq_true rfl)⟩ dX9_isSeen_83 rfl rfl rfl ?_
    refine q_iload_n cx (pc' := 87) 1 rfl dX9_isSeen_86 rfl ?_
    obtain ⟨rfl, rfl⟩ := o2_i h
    rw [hQ]
    exact q_nret cx rfl dX9_isSeen_87
  have key8 : ∀ (n : Nat) (w1_8 : Int32) (w2_8 : Int32) (Mw_8 : QM), itr (fun s8 : Int32 × Int32 × QM => lp_X9_isSeen_8 ths s8.1 s8.2.1 s8.2.2) n (w1_8, w2_8, Mw_8) = some r8 → EE p l e rm_X9_isSeen s m args below meth c Q Γ 4 0 0 8 [(0, .ref ths), (1, .int w1_8), (2, .int w2_8)] [] Mw_8 := by
    intro n
    induction n with
    | zero => intro _ _ _ h; exact (itr_0 h).elim
    | succ n ih =>
      intro w1_8 w2_8 Mw_8 h
      obtain ⟨z8, h, hz8⟩ := itr_i h
      replace h : lp_X9_isSeen_8 ths w1_8 w2_8 Mw_8 = some z8 := h
      unfold lp_X9_isSeen_8 at h
      refine q_iload_n cx (pc' := 9) 2 rfl dX9_isSeen_8 rfl ?_
      refine q_aload_n cx (pc' := 10) 0 rfl dX9_isSeen_9 rfl ?_
      obtain ⟨ht10, x10, ex10, h⟩ := gI_i h
      refine q_gI cx (pc' := 13) 9 33 fl_X9_111 rfl ht10 ex10 dX9_isSeen_10 rfl ?_
      refine q_icmp_ge cx (pc' := 16) (tgt := 82) dX9_isSeen_13 (by decide) rfl (fun c13 => ?_) (fun c13 => ?_)
      · replace h := ip c13 h
        refine q_sub cx [0, 1] rfl ?_
        exact hk8_0 _ _ (hz8.2 _ h)
      · replace h := ine c13 h
        refine q_iload_n cx (pc' := 17) 1 rfl dX9_isSeen_16 rfl ?_
        refine q_if_eq cx (pc' := 20) (tgt := 82) dX9_isSeen_17 (by decide) rfl (fun c17 => ?_) (fun c17 => ?_)
        · replace h := ip c17 h
          refine q_sub cx [0, 1] rfl ?_
          exact hk8_0 _ _ (hz8.2 _ h)
        · replace h := ine c17 h
          refine q_iconst cx (pc' := 21) ki_0 dX9_isSeen_20 rfl ?_
          refine q_istore_n cx (pc' := 22) rfl rfl (by decide) (L' := [(3, .int 0), (0, .ref ths), (1, .int w1_8), (2, .int w2_8)]) rfl dX9_isSeen_21 rfl ?_
          obtain ⟨r22, hL22, h⟩ := bnd_i h
          have hk22_0 : ∀ (Me_22 : QM), Me_22 = r22 → EE p l e rm_X9_isSeen s m args below meth c Q Γ 4 0 0 51 [(0, .ref ths), (2, .int w2_8)] [] Me_22 := by
            intro Me_22 hp
            subst hp
            refine q_aload_n cx (pc' := 52) 0 rfl dX9_isSeen_51 rfl ?_
            refine q_aload_n cx (pc' := 53) 0 rfl dX9_isSeen_52 rfl ?_
            obtain ⟨ht53, r53, ex53, h⟩ := gR_i h
            refine q_gR cx (pc' := 56) 9 34 fl_X9_114 rfl ht53 ex53 dX9_isSeen_53 rfl ?_
            refine q_iload_n cx (pc' := 57) 1 rfl dX9_isSeen_56 rfl ?_
            obtain ⟨ht57, hi57, x57, ex57, h⟩ := aI_i h
            refine q_iald cx (pc' := 58) ht57 hi57 ex57 dX9_isSeen_57 rfl ?_
            obtain ⟨hk58, h⟩ := ck_i h
            obtain ⟨⟨c58, M58⟩, hc58, h⟩ := bnd_i h
            replace h := pr2_i h
            refine q_callV cx (pc' := 61) (S := []) (S1 := [.int c58]) (kc' := 0) (ks' := 0) 9 (ct_X9_canCross Γ l Me_22 ths x57 hk58 _ _ hc58) lki_X9_canCross lkv_X9_canCross lkc_X9_342 hk58 (r := (RX9, TX9, 70)) ⟨rfl, by decide, rfl⟩ rfl rfl (Nat.le_of_ble_eq_true rfl) ⟨(Nat.le_of_ble_eq_true rfl), (Nat.le_of_ble_eq_true rfl)⟩ ⟨(Nat.le_of_ble_eq_true rfl), (Nat.le_of_ble_eq_true rfl)⟩ dX9_isSeen_58 rfl rfl rfl ?_
            refine q_aload_n cx (pc' := 62) 0 rfl dX9_isSeen_61 rfl ?_
            obtain ⟨ht62, r62, ex62, h⟩ := gR_i h
            refine q_gR cx (pc' := 65) 9 37 fl_X9_123 rfl ht62 ex62 dX9_isSeen_62 rfl ?_
            refine q_iload_n cx (pc' := 66) 1 rfl dX9_isSeen_65 rfl ?_
            obtain ⟨ht66, hi66, x66, ex66, h⟩ := aI_i h
            refine q_zald cx (pc' := 67) ht66 hi66 ex66 dX9_isSeen_66 rfl ?_
            refine q_icmp_ne cx (pc' := 70) (tgt := 74) dX9_isSeen_67 (by decide) rfl (fun c67 => ?_) (fun c67 => ?_)
            · replace h := ine c67 h
              refine q_iconst cx (pc' := 75) ki_0 dX9_isSeen_74 rfl ?_
              refine q_istore_n cx (pc' := 76) rfl rfl (by decide) (L' := [(1, .int 0), (0, .ref ths), (2, .int w2_8)]) rfl dX9_isSeen_75 rfl ?_
              obtain ⟨v2_76, ev2_76, h⟩ := nm_i h
              refine q_iinc cx (pc' := 79) 2 rfl ki_1 ev2_76 (by decide) (L' := [(2, .int v2_76), (1, .int 0), (0, .ref ths)]) rfl dX9_isSeen_76 rfl ?_
              refine q_goto cx dX9_isSeen_79 (tgt := 8) (by decide) ?_
              refine q_sub cx [2, 1, 0] rfl ?_
              exact ih _ _ _ (hz8.1 _ h)
            · replace h := ip c67 h
              refine q_iconst cx (pc' := 71) ki_1 dX9_isSeen_70 rfl ?_
              refine q_goto cx dX9_isSeen_71 (tgt := 75) (by decide) ?_
              refine q_istore_n cx (pc' := 76) rfl rfl (by decide) (L' := [(1, .int 1), (0, .ref ths), (2, .int w2_8)]) rfl dX9_isSeen_75 rfl ?_
              obtain ⟨v2_76, ev2_76, h⟩ := nm_i h
              refine q_iinc cx (pc' := 79) 2 rfl ki_1 ev2_76 (by decide) (L' := [(2, .int v2_76), (1, .int 1), (0, .ref ths)]) rfl dX9_isSeen_76 rfl ?_
              refine q_goto cx dX9_isSeen_79 (tgt := 8) (by decide) ?_
              refine q_sub cx [2, 1, 0] rfl ?_
              exact ih _ _ _ (hz8.1 _ h)
          have key22 : ∀ (n : Nat) (w3_22 : Int32) (Mw_22 : QM), itr (fun s22 : Int32 × QM => lp_X9_isSeen_22 ths w2_8 s22.1 s22.2) n (w3_22, Mw_22) = some r22 → EE p l e rm_X9_isSeen s m args below meth c Q Γ 4 0 0 22 [(0, .ref ths), (2, .int w2_8), (3, .int w3_22)] [] Mw_22 := by
            intro n
            induction n with
            | zero => intro _ _ h; exact (itr_0 h).elim
            | succ n ih =>
              intro w3_22 Mw_22 h
              obtain ⟨z22, h, hz22⟩ := itr_i h
              replace h : lp_X9_isSeen_22 ths w2_8 w3_22 Mw_22 = some z22 := h
              unfold lp_X9_isSeen_22 at h
              refine q_iload_n cx (pc' := 23) 2 rfl dX9_isSeen_22 rfl ?_
              refine q_bipush cx (pc' := 25) kb_16 dX9_isSeen_23 rfl ?_
              refine q_icmp_ge cx (pc' := 28) (tgt := 51) dX9_isSeen_25 (by decide) rfl (fun c25 => ?_) (fun c25 => ?_)
              · replace h := ip c25 h
                refine q_sub cx [0, 1] rfl ?_
                exact hk22_0 _ (hz22.2 _ h)
              · replace h := ine c25 h
                refine q_aload_n cx (pc' := 29) 0 rfl dX9_isSeen_28 rfl ?_
                obtain ⟨ht29, r29, ex29, h⟩ := gR_i h
                refine q_gR cx (pc' := 32) 9 2 fl_X9_16 rfl ht29 ex29 dX9_isSeen_29 rfl ?_
                refine q_iload_n cx (pc' := 33) 2 rfl dX9_isSeen_32 rfl ?_
                refine q_aload_n cx (pc' := 34) 0 rfl dX9_isSeen_33 rfl ?_
                obtain ⟨ht34, r34, ex34, h⟩ := gR_i h
                refine q_gR cx (pc' := 37) 9 36 fl_X9_120 rfl ht34 ex34 dX9_isSeen_34 rfl ?_
                refine q_bipush cx (pc' := 39) kb_16 dX9_isSeen_37 rfl ?_
                refine q_iload_n cx (pc' := 40) 1 rfl dX9_isSeen_39 rfl ?_
                refine q_imul cx (pc' := 41) dX9_isSeen_40 rfl ?_
                refine q_iload_n cx (pc' := 42) 2 rfl dX9_isSeen_41 rfl ?_
                refine q_iadd cx (pc' := 43) dX9_isSeen_42 rfl ?_
                obtain ⟨ht43, hi43, x43, ex43, h⟩ := aI_i h
                refine q_iald cx (pc' := 44) ht43 hi43 ex43 dX9_isSeen_43 rfl ?_
                obtain ⟨ht44, hi44, M44, eM44, h⟩ := wI_i h
                refine q_iast cx (pc' := 45) ht44 hi44 eM44 dX9_isSeen_44 rfl ?_
                obtain ⟨v3_45, ev3_45, h⟩ := nm_i h
                refine q_iinc cx (pc' := 48) 2 rfl ki_1 ev3_45 (by decide) (L' := [(3, .int v3_45), (0, .ref ths), (2, .int w2_8)]) rfl dX9_isSeen_45 rfl ?_
                refine q_goto cx dX9_isSeen_48 (tgt := 22) (by decide) ?_
                refine q_sub cx [1, 2, 0] rfl ?_
                exact ih _ _ (hz22.1 _ h)
          refine q_sub cx [1, 3, 0] rfl ?_
          exact key22 FU _ _ hL22
  refine q_sub cx [2, 1, 0] rfl ?_
  exact key8 FU _ _ _ hL8

abbrev rm_X9_heft : Room := { frames := 9, cells := 0, slots := 0, locals := 220 }
def lp_X9_heft_42 (ths : Nat) (p1 : Int32) (w4_42 : Int32) (w5_42 : Int32) (w6_42 : Int32) (Mw_42 : QM) : Option ((Int32 × Int32 × Int32 × QM) ⊕ (Int32 × Int32 × QM)) :=
  if w6_42 < 0 then
    some (.inr (w4_42, w5_42, Mw_42))
  else
    gR Mw_42 ths 9 5 fun r48 =>
    wI Mw_42 20 r48 p1 w6_42 fun M54 =>
    ck M54 ths 9 <|
    bnd (fn_X9_isSeen M54 ths) fun y56 =>
    pr2 y56 fun c56 M56 =>
    if c56 = 0 then
      nm (w6_42 + (-1)) fun v6_72 =>
      some (.inl (w4_42, w5_42, v6_72, M56))
    else
      nm (w4_42 + 1) fun v4_65 =>
      nm (w6_42 + (-1)) fun v6_72 =>
      some (.inl (v4_65, w6_42, v6_72, M56))
def fn_X9_heft (M : QM) (ths : Nat) (p1 : Int32) (p2 : Int32) : Option (Int32 × QM) :=
  bnd (fn_X9_isWalker M ths p1) fun c2 =>
  if c2 = 0 then
    some ((-1), M)
  else
    if (fn_X9_in p2 0 1) = 0 then
      some ((-1), M)
    else
      bnd (fn_X9_layThen M ths) fun M21 =>
      gR M21 ths 9 5 fun r25 =>
      aI M21 20 r25 p1 fun x29 =>
      bnd (itr (fun s42 : Int32 × Int32 × Int32 × QM => lp_X9_heft_42 ths p1 s42.1 s42.2.1 s42.2.2.1 s42.2.2.2) FU (0, (-5), 99, M21)) fun r42 =>
      pr3 r42 fun e4_42 e5_42 Me_42 =>
      gR Me_42 ths 9 5 fun r79 =>
      wI Me_42 20 r79 p1 x29 fun M84 =>
      if p2 = 0 then
        some (e4_42, M84)
      else
        some (e5_42, M84)
set_option maxRecDepth 100000 in
set_option maxHeartbeats 4000000 in
theorem ct_X9_heft (Γ : GT) (l : Launch) (M : QM) (ths : Nat) (p1 : Int32) (p2 : Int32) (ht0 : mt M ths = 9) (z : Int32) (M' : QM) (h : fn_X9_heft M ths p1 p2 = some (z, M')) : CT Γ l yX9_heft cX9_heft 7 (some .int) rm_X9_heft (.ref ths :: [.int p1, .int p2]) M (some (.int z)) M' := by
  refine ct_intro (own := RX9) (L := [(0, .ref ths), (1, .int p1), (2, .int p2)]) (by decide +kernel) rfl (Nat.le_of_ble_eq_true rfl) rfl ?_
  intro p e s m args below meth c Q hQ cx hnm
  unfold fn_X9_heft at h
  refine q_aload_n cx (pc' := 1) 0 rfl dX9_heft_0 rfl ?_
  refine q_iload_n cx (pc' := 2) 1 rfl dX9_heft_1 rfl ?_
  obtain ⟨c2, hc2, h⟩ := bnd_i h
  refine q_callV cx (pc' := 5) (S := []) (S1 := [.int c2]) (kc' := 0) (ks' := 0) 9 (ct_X9_isWalker Γ l M ths p1 ht0 _ hc2) lki_X9_isWalker lkv_X9_isWalker lkc_X9_235 ht0 (r := (RX9, TX9, 70)) ⟨rfl, by decide, rfl⟩ rfl rfl (Nat.le_of_ble_eq_true rfl) ⟨(Nat.le_of_ble_eq_true rfl), (Nat.le_of_ble_eq_true rfl)⟩ ⟨(Nat.le_of_ble_eq_true rfl), (Nat.le_of_ble_eq_true rfl)⟩ dX9_heft_2 rfl rfl rfl ?_
  refine q_if_eq cx (pc' := 8) (tgt := 18) dX9_heft_5 (by decide) rfl (fun c5 => ?_) (fun c5 => ?_)
  · replace h := ip c5 h
    refine q_iconst cx (pc' := 19) ki_m1 dX9_heft_18 rfl ?_
    obtain ⟨rfl, rfl⟩ := o2_i h
    rw [hQ]
    exact q_iret cx dX9_heft_19
  · replace h := ine c5 h
    refine q_aload_n cx (pc' := 9) 0 rfl dX9_heft_8 rfl ?_
    refine q_iload_n cx (pc' := 10) 2 rfl dX9_heft_9 rfl ?_
    refine q_iconst cx (pc' := 11) ki_0 dX9_heft_10 rfl ?_
    refine q_iconst cx (pc' := 12) ki_1 dX9_heft_11 rfl ?_
    refine q_callV cx (pc' := 15) (S := []) (S1 := [.int (fn_X9_in p2 0 1)]) (kc' := 0) (ks' := 0) 9 (ct_X9_in Γ l M ths p2 0 1 ht0) lki_X9_in lkv_X9_in lkc_X9_224 ht0 (r := (RX9, TX9, 70)) ⟨rfl, by decide, rfl⟩ rfl rfl (Nat.le_of_ble_eq_true rfl) ⟨(Nat.le_of_ble_eq_true rfl), (Nat.le_of_ble_eq_true rfl)⟩ ⟨(Nat.le_of_ble_eq_true rfl), (Nat.le_of_ble_eq_true rfl)⟩ dX9_heft_12 rfl rfl rfl ?_
    refine q_if_ne cx (pc' := 18) (tgt := 20) dX9_heft_15 (by decide) rfl (fun c15 => ?_) (fun c15 => ?_)
    · replace h := ine c15 h
      refine q_aload_n cx (pc' := 21) 0 rfl dX9_heft_20 rfl ?_
      obtain ⟨M21, hc21, h⟩ := bnd_i h
      refine q_callV cx (pc' := 24) (S := []) (S1 := []) (kc' := 0) (ks' := 0) 9 (ct_X9_layThen Γ l M ths ht0 _ hc21) lki_X9_layThen lkv_X9_layThen lkc_X9_388 ht0 (r := (RX9, TX9, 70)) ⟨rfl, by decide, rfl⟩ rfl rfl (Nat.le_of_ble_eq_true rfl) ⟨(Nat.le_of_ble_eq_true rfl), (Nat.le_of_ble_eq_true rfl)⟩ ⟨(Nat.le_of_ble_eq_true rfl), (Nat.le_of_ble_eq_true rfl)⟩ dX9_heft_21 rfl rfl rfl ?_
      refine q_aload_n cx (pc' := 25) 0 rfl dX9_heft_24 rfl ?_
      obtain ⟨ht25, r25, ex25, h⟩ := gR_i h
      refine q_gR cx (pc' := 28) 9 5 fl_X9_26 rfl ht25 ex25 dX9_heft_25 rfl ?_
      refine q_iload_n cx (pc' := 29) 1 rfl dX9_heft_28 rfl ?_
      obtain ⟨ht29, hi29, x29, ex29, h⟩ := aI_i h
      refine q_iald cx (pc' := 30) ht29 hi29 ex29 dX9_heft_29 rfl ?_
      refine q_istore_n cx (pc' := 31) rfl rfl (by decide) (L' := [(3, .int x29), (0, .ref ths), (1, .int p1), (2, .int p2)]) rfl dX9_heft_30 rfl ?_
      refine q_iconst cx (pc' := 32) ki_0 dX9_heft_31 rfl ?_
      refine q_istore cx (pc' := 34) rfl (by decide) (L' := [(4, .int 0), (3, .int x29), (0, .ref ths), (1, .int p1), (2, .int p2)]) rfl dX9_heft_32 rfl ?_
      refine q_bipush cx (pc' := 36) kb_m5 dX9_heft_34 rfl ?_
      refine q_istore cx (pc' := 38) rfl (by decide) (L' := [(5, .int (-5)), (4, .int 0), (3, .int x29), (0, .ref ths), (1, .int p1), (2, .int p2)]) rfl dX9_heft_36 rfl ?_
      refine q_bipush cx (pc' := 40) kb_99 dX9_heft_38 rfl ?_
      refine q_istore cx (pc' := 42) rfl (by decide) (L' := [(6, .int 99), (5, .int (-5)), (4, .int 0), (3, .int x29), (0, .ref ths), (1, .int p1), (2, .int p2)]) rfl dX9_heft_40 rfl ?_
      obtain ⟨r42, hL42, h⟩ := bnd_i h
      have hk42_0 : ∀ (e4_42 : Int32) (e5_42 : Int32) (Me_42 : QM), (e4_42, e5_42, Me_42) = r42 → EE p l e rm_X9_heft s m args below meth c Q Γ 7 0 0 78 [(0, .ref ths), (1, .int p1), (2, .int p2), (3, .int x29), (4, .int e4_42), (5, .int e5_42)] [] Me_42 := by
        intro e4_42 e5_42 Me_42 hp
        subst hp
        replace h := pr3_i h
        refine q_aload_n cx (pc' := 79) 0 rfl dX9_heft_78 rfl ?_
        obtain ⟨ht79, r79, ex79, h⟩ := gR_i h
        refine q_gR cx (pc' := 82) 9 5 fl_X9_26 rfl ht79 ex79 dX9_heft_79 rfl ?_
        refine q_iload_n cx (pc' := 83) 1 rfl dX9_heft_82 rfl ?_
        refine q_iload_n cx (pc' := 84) 3 rfl dX9_heft_83 rfl ?_
        obtain ⟨ht84, hi84, M84, eM84, h⟩ := wI_i h
        refine q_iast cx (pc' := 85) ht84 hi84 eM84 dX9_heft_84 rfl ?_
        refine q_iload_n cx (pc' := 86) 2 rfl dX9_heft_85 rfl ?_
        refine q_if_ne cx (pc' := 89) (tgt := 94) dX9_heft_86 (by decide) rfl (fun c86 => ?_) (fun c86 => ?_)
        · replace h := ine c86 h
          refine q_iload cx (pc' := 96) 5 rfl dX9_heft_94 rfl ?_
          obtain ⟨rfl, rfl⟩ := o2_i h
          rw [hQ]
          exact q_iret cx dX9_heft_96
        · replace h := ip c86 h
          refine q_iload cx (pc' := 91) 4 rfl dX9_heft_89 rfl ?_
          refine q_goto cx dX9_heft_91 (tgt := 96) (by decide) ?_
          obtain ⟨rfl, rfl⟩ := o2_i h
          rw [hQ]
          exact q_iret cx dX9_heft_96
      have key42 : ∀ (n : Nat) (w4_42 : Int32) (w5_42 : Int32) (w6_42 : Int32) (Mw_42 : QM), itr (fun s42 : Int32 × Int32 × Int32 × QM => lp_X9_heft_42 ths p1 s42.1 s42.2.1 s42.2.2.1 s42.2.2.2) n (w4_42, w5_42, w6_42, Mw_42) = some r42 → EE p l e rm_X9_heft s m args below meth c Q Γ 7 0 0 42 [(0, .ref ths), (1, .int p1), (2, .int p2), (3, .int x29), (4, .int w4_42), (5, .int w5_42), (6, .int w6_42)] [] Mw_42 := by
        intro n
        induction n with
        | zero => intro _ _ _ _ h; exact (itr_0 h).elim
        | succ n ih =>
          intro w4_42 w5_42 w6_42 Mw_42 h
          obtain ⟨z42, h, hz42⟩ := itr_i h
          replace h : lp_X9_heft_42 ths p1 w4_42 w5_42 w6_42 Mw_42 = some z42 := h
          unfold lp_X9_heft_42 at h
          refine q_iload cx (pc' := 44) 6 rfl dX9_heft_42 rfl ?_
          refine q_if_lt cx (pc' := 47) (tgt := 78) dX9_heft_44 (by decide) rfl (fun c44 => ?_) (fun c44 => ?_)
          · replace h := ip c44 h
            refine q_sub cx [0, 1, 2, 3, 4, 5] rfl ?_
            exact hk42_0 _ _ _ (hz42.2 _ h)
          · replace h := ine c44 h
            refine q_aload_n cx (pc' := 48) 0 rfl dX9_heft_47 rfl ?_
            obtain ⟨ht48, r48, ex48, h⟩ := gR_i h
            refine q_gR cx (pc' := 51) 9 5 fl_X9_26 rfl ht48 ex48 dX9_heft_48 rfl ?_
            refine q_iload_n cx (pc' := 52) 1 rfl dX9_heft_51 rfl ?_
            refine q_iload cx (pc' := 54) 6 rfl dX9_heft_52 rfl ?_
            obtain ⟨ht54, hi54, M54, eM54, h⟩ := wI_i h
            refine q_iast cx (pc' := 55) ht54 hi54 eM54 dX9_heft_54 rfl ?_
            refine q_aload_n cx (pc' := 56) 0 rfl dX9_heft_55 rfl ?_
            obtain ⟨hk56, h⟩ := ck_i h
            obtain ⟨⟨c56, M56⟩, hc56, h⟩ := bnd_i h
            replace h := pr2_i h
            refine q_callV cx (pc' := 59) (S := []) (S1 := [.int c56]) (kc' := 0) (ks' := 0) 9 (ct_X9_isSeen Γ l M54 ths hk56 _ _ hc56) lki_X9_isSeen lkv_X9_isSeen lkc_X9_391 hk56 (r := (RX9, TX9, 70)) ⟨rfl, by decide, rfl⟩ rfl rfl (Nat.le_of_ble_eq_true rfl) ⟨(Nat.le_of_ble_eq_true rfl), (Nat.le_of_ble_eq_true rfl)⟩ ⟨(Nat.le_of_ble_eq_true rfl), (Nat.le_of_ble_eq_true rfl)⟩ dX9_heft_56 rfl rfl rfl ?_
            refine q_if_ne cx (pc' := 62) (tgt := 65) dX9_heft_59 (by decide) rfl (fun c59 => ?_) (fun c59 => ?_)
            · replace h := ine c59 h
              obtain ⟨v4_65, ev4_65, h⟩ := nm_i h
              refine q_iinc cx (pc' := 68) 4 rfl ki_1 ev4_65 (by decide) (L' := [(4, .int v4_65), (0, .ref ths), (1, .int p1), (2, .int p2), (3, .int x29), (5, .int w5_42), (6, .int w6_42)]) rfl dX9_heft_65 rfl ?_
              refine q_iload cx (pc' := 70) 6 rfl dX9_heft_68 rfl ?_
              refine q_istore cx (pc' := 72) rfl (by decide) (L' := [(5, .int w6_42), (4, .int v4_65), (0, .ref ths), (1, .int p1), (2, .int p2), (3, .int x29), (6, .int w6_42)]) rfl dX9_heft_70 rfl ?_
              obtain ⟨v6_72, ev6_72, h⟩ := nm_i h
              refine q_iinc cx (pc' := 75) 6 rfl ki_m1 ev6_72 (by decide) (L' := [(6, .int v6_72), (5, .int w6_42), (4, .int v4_65), (0, .ref ths), (1, .int p1), (2, .int p2), (3, .int x29)]) rfl dX9_heft_72 rfl ?_
              refine q_goto cx dX9_heft_75 (tgt := 42) (by decide) ?_
              refine q_sub cx [3, 4, 5, 6, 2, 1, 0] rfl ?_
              exact ih _ _ _ _ (hz42.1 _ h)
            · replace h := ip c59 h
              refine q_goto cx dX9_heft_62 (tgt := 72) (by decide) ?_
              obtain ⟨v6_72, ev6_72, h⟩ := nm_i h
              refine q_iinc cx (pc' := 75) 6 rfl ki_m1 ev6_72 (by decide) (L' := [(6, .int v6_72), (0, .ref ths), (1, .int p1), (2, .int p2), (3, .int x29), (4, .int w4_42), (5, .int w5_42)]) rfl dX9_heft_72 rfl ?_
              refine q_goto cx dX9_heft_75 (tgt := 42) (by decide) ?_
              refine q_sub cx [1, 2, 3, 4, 5, 6, 0] rfl ?_
              exact ih _ _ _ _ (hz42.1 _ h)
      refine q_sub cx [4, 5, 6, 3, 2, 1, 0] rfl ?_
      exact key42 FU _ _ _ _ hL42
    · replace h := ip c15 h
      refine q_iconst cx (pc' := 19) ki_m1 dX9_heft_18 rfl ?_
      obtain ⟨rfl, rfl⟩ := o2_i h
      rw [hQ]
      exact q_iret cx dX9_heft_19

abbrev rm_X9_can : Room := { frames := 9, cells := 0, slots := 0, locals := 220 }
def lp_X9_can_42 (ths : Nat) (p1 : Int32) (w4_42 : Int32) (w5_42 : Int32) (w6_42 : Int32) (Mw_42 : QM) : Option ((Int32 × Int32 × Int32 × QM) ⊕ (Int32 × Int32 × QM)) :=
  if w6_42 < 0 then
    some (.inr (w4_42, w5_42, Mw_42))
  else
    gR Mw_42 ths 9 4 fun r48 =>
    wI Mw_42 20 r48 p1 w6_42 fun M54 =>
    ck M54 ths 9 <|
    bnd (fn_X9_isSeen M54 ths) fun y56 =>
    pr2 y56 fun c56 M56 =>
    if c56 = 0 then
      nm (w6_42 + (-1)) fun v6_72 =>
      some (.inl (w4_42, w5_42, v6_72, M56))
    else
      nm (w4_42 + 1) fun v4_65 =>
      nm (w6_42 + (-1)) fun v6_72 =>
      some (.inl (v4_65, w6_42, v6_72, M56))
def fn_X9_can (M : QM) (ths : Nat) (p1 : Int32) (p2 : Int32) : Option (Int32 × QM) :=
  bnd (fn_X9_isWalker M ths p1) fun c2 =>
  if c2 = 0 then
    some ((-1), M)
  else
    if (fn_X9_in p2 0 1) = 0 then
      some ((-1), M)
    else
      bnd (fn_X9_layThen M ths) fun M21 =>
      gR M21 ths 9 4 fun r25 =>
      aI M21 20 r25 p1 fun x29 =>
      bnd (itr (fun s42 : Int32 × Int32 × Int32 × QM => lp_X9_can_42 ths p1 s42.1 s42.2.1 s42.2.2.1 s42.2.2.2) FU (0, (-5), 9, M21)) fun r42 =>
      pr3 r42 fun e4_42 e5_42 Me_42 =>
      gR Me_42 ths 9 4 fun r79 =>
      wI Me_42 20 r79 p1 x29 fun M84 =>
      if p2 = 0 then
        some (e4_42, M84)
      else
        some (e5_42, M84)
set_option maxRecDepth 100000 in
set_option maxHeartbeats 4000000 in
theorem ct_X9_can (Γ : GT) (l : Launch) (M : QM) (ths : Nat) (p1 : Int32) (p2 : Int32) (ht0 : mt M ths = 9) (z : Int32) (M' : QM) (h : fn_X9_can M ths p1 p2 = some (z, M')) : CT Γ l yX9_can cX9_can 7 (some .int) rm_X9_can (.ref ths :: [.int p1, .int p2]) M (some (.int z)) M' := by
  refine ct_intro (own := RX9) (L := [(0, .ref ths), (1, .int p1), (2, .int p2)]) (by decide +kernel) rfl (Nat.le_of_ble_eq_true rfl) rfl ?_
  intro p e s m args below meth c Q hQ cx hnm
  unfold fn_X9_can at h
  refine q_aload_n cx (pc' := 1) 0 rfl dX9_can_0 rfl ?_
  refine q_iload_n cx (pc' := 2) 1 rfl dX9_can_1 rfl ?_
  obtain ⟨c2, hc2, h⟩ := bnd_i h
  refine q_callV cx (pc' := 5) (S := []) (S1 := [.int c2]) (kc' := 0) (ks' := 0) 9 (ct_X9_isWalker Γ l M ths p1 ht0 _ hc2) lki_X9_isWalker lkv_X9_isWalker lkc_X9_235 ht0 (r := (RX9, TX9, 70)) ⟨rfl, by decide, rfl⟩ rfl rfl (Nat.le_of_ble_eq_true rfl) ⟨(Nat.le_of_ble_eq_true rfl), (Nat.le_of_ble_eq_true rfl)⟩ ⟨(Nat.le_of_ble_eq_true rfl), (Nat.le_of_ble_eq_true rfl)⟩ dX9_can_2 rfl rfl rfl ?_
  refine q_if_eq cx (pc' := 8) (tgt := 18) dX9_can_5 (by decide) rfl (fun c5 => ?_) (fun c5 => ?_)
  · replace h := ip c5 h
    refine q_iconst cx (pc' := 19) ki_m1 dX9_can_18 rfl ?_
    obtain ⟨rfl, rfl⟩ := o2_i h
    rw [hQ]
    exact q_iret cx dX9_can_19
  · replace h := ine c5 h
    refine q_aload_n cx (pc' := 9) 0 rfl dX9_can_8 rfl ?_
    refine q_iload_n cx (pc' := 10) 2 rfl dX9_can_9 rfl ?_
    refine q_iconst cx (pc' := 11) ki_0 dX9_can_10 rfl ?_
    refine q_iconst cx (pc' := 12) ki_1 dX9_can_11 rfl ?_
    refine q_callV cx (pc' := 15) (S := []) (S1 := [.int (fn_X9_in p2 0 1)]) (kc' := 0) (ks' := 0) 9 (ct_X9_in Γ l M ths p2 0 1 ht0) lki_X9_in lkv_X9_in lkc_X9_224 ht0 (r := (RX9, TX9, 70)) ⟨rfl, by decide, rfl⟩ rfl rfl (Nat.le_of_ble_eq_true rfl) ⟨(Nat.le_of_ble_eq_true rfl), (Nat.le_of_ble_eq_true rfl)⟩ ⟨(Nat.le_of_ble_eq_true rfl), (Nat.le_of_ble_eq_true rfl)⟩ dX9_can_12 rfl rfl rfl ?_
    refine q_if_ne cx (pc' := 18) (tgt := 20) dX9_can_15 (by decide) rfl (fun c15 => ?_) (fun c15 => ?_)
    · replace h := ine c15 h
      refine q_aload_n cx (pc' := 21) 0 rfl dX9_can_20 rfl ?_
      obtain ⟨M21, hc21, h⟩ := bnd_i h
      refine q_callV cx (pc' := 24) (S := []) (S1 := []) (kc' := 0) (ks' := 0) 9 (ct_X9_layThen Γ l M ths ht0 _ hc21) lki_X9_layThen lkv_X9_layThen lkc_X9_388 ht0 (r := (RX9, TX9, 70)) ⟨rfl, by decide, rfl⟩ rfl rfl (Nat.le_of_ble_eq_true rfl) ⟨(Nat.le_of_ble_eq_true rfl), (Nat.le_of_ble_eq_true rfl)⟩ ⟨(Nat.le_of_ble_eq_true rfl), (Nat.le_of_ble_eq_true rfl)⟩ dX9_can_21 rfl rfl rfl ?_
      refine q_aload_n cx (pc' := 25) 0 rfl dX9_can_24 rfl ?_
      obtain ⟨ht25, r25, ex25, h⟩ := gR_i h
      refine q_gR cx (pc' := 28) 9 4 fl_X9_23 rfl ht25 ex25 dX9_can_25 rfl ?_
      refine q_iload_n cx (pc' := 29) 1 rfl dX9_can_28 rfl ?_
      obtain ⟨ht29, hi29, x29, ex29, h⟩ := aI_i h
      refine q_iald cx (pc' := 30) ht29 hi29 ex29 dX9_can_29 rfl ?_
      refine q_istore_n cx (pc' := 31) rfl rfl (by decide) (L' := [(3, .int x29), (0, .ref ths), (1, .int p1), (2, .int p2)]) rfl dX9_can_30 rfl ?_
      refine q_iconst cx (pc' := 32) ki_0 dX9_can_31 rfl ?_
      refine q_istore cx (pc' := 34) rfl (by decide) (L' := [(4, .int 0), (3, .int x29), (0, .ref ths), (1, .int p1), (2, .int p2)]) rfl dX9_can_32 rfl ?_
      refine q_bipush cx (pc' := 36) kb_m5 dX9_can_34 rfl ?_
      refine q_istore cx (pc' := 38) rfl (by decide) (L' := [(5, .int (-5)), (4, .int 0), (3, .int x29), (0, .ref ths), (1, .int p1), (2, .int p2)]) rfl dX9_can_36 rfl ?_
      refine q_bipush cx (pc' := 40) kb_9 dX9_can_38 rfl ?_
      refine q_istore cx (pc' := 42) rfl (by decide) (L' := [(6, .int 9), (5, .int (-5)), (4, .int 0), (3, .int x29), (0, .ref ths), (1, .int p1), (2, .int p2)]) rfl dX9_can_40 rfl ?_
      obtain ⟨r42, hL42, h⟩ := bnd_i h
      have hk42_0 : ∀ (e4_42 : Int32) (e5_42 : Int32) (Me_42 : QM), (e4_42, e5_42, Me_42) = r42 → EE p l e rm_X9_can s m args below meth c Q Γ 7 0 0 78 [(0, .ref ths), (1, .int p1), (2, .int p2), (3, .int x29), (4, .int e4_42), (5, .int e5_42)] [] Me_42 := by
        intro e4_42 e5_42 Me_42 hp
        subst hp
        replace h := pr3_i h
        refine q_aload_n cx (pc' := 79) 0 rfl dX9_can_78 rfl ?_
        obtain ⟨ht79, r79, ex79, h⟩ := gR_i h
        refine q_gR cx (pc' := 82) 9 4 fl_X9_23 rfl ht79 ex79 dX9_can_79 rfl ?_
        refine q_iload_n cx (pc' := 83) 1 rfl dX9_can_82 rfl ?_
        refine q_iload_n cx (pc' := 84) 3 rfl dX9_can_83 rfl ?_
        obtain ⟨ht84, hi84, M84, eM84, h⟩ := wI_i h
        refine q_iast cx (pc' := 85) ht84 hi84 eM84 dX9_can_84 rfl ?_
        refine q_iload_n cx (pc' := 86) 2 rfl dX9_can_85 rfl ?_
        refine q_if_ne cx (pc' := 89) (tgt := 94) dX9_can_86 (by decide) rfl (fun c86 => ?_) (fun c86 => ?_)
        · replace h := ine c86 h
          refine q_iload cx (pc' := 96) 5 rfl dX9_can_94 rfl ?_
          obtain ⟨rfl, rfl⟩ := o2_i h
          rw [hQ]
          exact q_iret cx dX9_can_96
        · replace h := ip c86 h
          refine q_iload cx (pc' := 91) 4 rfl dX9_can_89 rfl ?_
          refine q_goto cx dX9_can_91 (tgt := 96) (by decide) ?_
          obtain ⟨rfl, rfl⟩ := o2_i h
          rw [hQ]
          exact q_iret cx dX9_can_96
      have key42 : ∀ (n : Nat) (w4_42 : Int32) (w5_42 : Int32) (w6_42 : Int32) (Mw_42 : QM), itr (fun s42 : Int32 × Int32 × Int32 × QM => lp_X9_can_42 ths p1 s42.1 s42.2.1 s42.2.2.1 s42.2.2.2) n (w4_42, w5_42, w6_42, Mw_42) = some r42 → EE p l e rm_X9_can s m args below meth c Q Γ 7 0 0 42 [(0, .ref ths), (1, .int p1), (2, .int p2), (3, .int x29), (4, .int w4_42), (5, .int w5_42), (6, .int w6_42)] [] Mw_42 := by
        intro n
        induction n with
        | zero => intro _ _ _ _ h; exact (itr_0 h).elim
        | succ n ih =>
          intro w4_42 w5_42 w6_42 Mw_42 h
          obtain ⟨z42, h, hz42⟩ := itr_i h
          replace h : lp_X9_can_42 ths p1 w4_42 w5_42 w6_42 Mw_42 = some z42 := h
          unfold lp_X9_can_42 at h
          refine q_iload cx (pc' := 44) 6 rfl dX9_can_42 rfl ?_
          refine q_if_lt cx (pc' := 47) (tgt := 78) dX9_can_44 (by decide) rfl (fun c44 => ?_) (fun c44 => ?_)
          · replace h := ip c44 h
            refine q_sub cx [0, 1, 2, 3, 4, 5] rfl ?_
            exact hk42_0 _ _ _ (hz42.2 _ h)
          · replace h := ine c44 h
            refine q_aload_n cx (pc' := 48) 0 rfl dX9_can_47 rfl ?_
            obtain ⟨ht48, r48, ex48, h⟩ := gR_i h
            refine q_gR cx (pc' := 51) 9 4 fl_X9_23 rfl ht48 ex48 dX9_can_48 rfl ?_
            refine q_iload_n cx (pc' := 52) 1 rfl dX9_can_51 rfl ?_
            refine q_iload cx (pc' := 54) 6 rfl dX9_can_52 rfl ?_
            obtain ⟨ht54, hi54, M54, eM54, h⟩ := wI_i h
            refine q_iast cx (pc' := 55) ht54 hi54 eM54 dX9_can_54 rfl ?_
            refine q_aload_n cx (pc' := 56) 0 rfl dX9_can_55 rfl ?_
            obtain ⟨hk56, h⟩ := ck_i h
            obtain ⟨⟨c56, M56⟩, hc56, h⟩ := bnd_i h
            replace h := pr2_i h
            refine q_callV cx (pc' := 59) (S := []) (S1 := [.int c56]) (kc' := 0) (ks' := 0) 9 (ct_X9_isSeen Γ l M54 ths hk56 _ _ hc56) lki_X9_isSeen lkv_X9_isSeen lkc_X9_391 hk56 (r := (RX9, TX9, 70)) ⟨rfl, by decide, rfl⟩ rfl rfl (Nat.le_of_ble_eq_true rfl) ⟨(Nat.le_of_ble_eq_true rfl), (Nat.le_of_ble_eq_true rfl)⟩ ⟨(Nat.le_of_ble_eq_true rfl), (Nat.le_of_ble_eq_true rfl)⟩ dX9_can_56 rfl rfl rfl ?_
            refine q_if_ne cx (pc' := 62) (tgt := 65) dX9_can_59 (by decide) rfl (fun c59 => ?_) (fun c59 => ?_)
            · replace h := ine c59 h
              obtain ⟨v4_65, ev4_65, h⟩ := nm_i h
              refine q_iinc cx (pc' := 68) 4 rfl ki_1 ev4_65 (by decide) (L' := [(4, .int v4_65), (0, .ref ths), (1, .int p1), (2, .int p2), (3, .int x29), (5, .int w5_42), (6, .int w6_42)]) rfl dX9_can_65 rfl ?_
              refine q_iload cx (pc' := 70) 6 rfl dX9_can_68 rfl ?_
              refine q_istore cx (pc' := 72) rfl (by decide) (L' := [(5, .int w6_42), (4, .int v4_65), (0, .ref ths), (1, .int p1), (2, .int p2), (3, .int x29), (6, .int w6_42)]) rfl dX9_can_70 rfl ?_
              obtain ⟨v6_72, ev6_72, h⟩ := nm_i h
              refine q_iinc cx (pc' := 75) 6 rfl ki_m1 ev6_72 (by decide) (L' := [(6, .int v6_72), (5, .int w6_42), (4, .int v4_65), (0, .ref ths), (1, .int p1), (2, .int p2), (3, .int x29)]) rfl dX9_can_72 rfl ?_
              refine q_goto cx dX9_can_75 (tgt := 42) (by decide) ?_
              refine q_sub cx [3, 4, 5, 6, 2, 1, 0] rfl ?_
              exact ih _ _ _ _ (hz42.1 _ h)
            · replace h := ip c59 h
              refine q_goto cx dX9_can_62 (tgt := 72) (by decide) ?_
              obtain ⟨v6_72, ev6_72, h⟩ := nm_i h
              refine q_iinc cx (pc' := 75) 6 rfl ki_m1 ev6_72 (by decide) (L' := [(6, .int v6_72), (0, .ref ths), (1, .int p1), (2, .int p2), (3, .int x29), (4, .int w4_42), (5, .int w5_42)]) rfl dX9_can_72 rfl ?_
              refine q_goto cx dX9_can_75 (tgt := 42) (by decide) ?_
              refine q_sub cx [1, 2, 3, 4, 5, 6, 0] rfl ?_
              exact ih _ _ _ _ (hz42.1 _ h)
      refine q_sub cx [4, 5, 6, 3, 2, 1, 0] rfl ?_
      exact key42 FU _ _ _ _ hL42
    · replace h := ip c15 h
      refine q_iconst cx (pc' := 19) ki_m1 dX9_can_18 rfl ?_
      obtain ⟨rfl, rfl⟩ := o2_i h
      rw [hQ]
      exact q_iret cx dX9_can_19

abbrev rm_X9_strongThen : Room := { frames := 5, cells := 0, slots := 0, locals := 134 }
def lp_X9_strongThen_10 (ths : Nat) (p1 : Int32) (p3 : Int32) (w4_10 : Int32) (Mw_10 : QM) : Option ((Int32 × QM) ⊕ (QM)) :=
  if p3 ≤ w4_10 then
    some (.inr Mw_10)
  else
    ck Mw_10 ths 9 <|
    bnd (fn_X9_goCell Mw_10 ths p1) fun M18 =>
    gI M18 ths 9 1 fun x23 =>
    pI M18 ths 9 1 (x23 + 1) fun M28 =>
    nm (w4_10 + 1) fun v4_31 =>
    some (.inl (v4_31, M28))
def fn_X9_strongThen (M : QM) (ths : Nat) (p1 : Int32) (p2 : Int32) (p3 : Int32) : Option (Int32 × QM) :=
  gR M ths 9 2 fun r1 =>
  wI M 20 r1 p1 p2 fun M6 =>
  bnd (itr (fun s10 : Int32 × QM => lp_X9_strongThen_10 ths p1 p3 s10.1 s10.2) FU (0, M6)) fun Me_10 =>
  gI Me_10 ths 9 1 fun x39 =>
  pI Me_10 ths 9 1 (x39 - p3) fun M44 =>
  gR M44 ths 9 2 fun r48 =>
  aI M44 20 r48 p1 fun x52 =>
  some (x52, M44)
set_option maxRecDepth 100000 in
set_option maxHeartbeats 4000000 in
theorem ct_X9_strongThen (Γ : GT) (l : Launch) (M : QM) (ths : Nat) (p1 : Int32) (p2 : Int32) (p3 : Int32) (ht0 : mt M ths = 9) (z : Int32) (M' : QM) (h : fn_X9_strongThen M ths p1 p2 p3 = some (z, M')) : CT Γ l yX9_strongThen cX9_strongThen 5 (some .int) rm_X9_strongThen (.ref ths :: [.int p1, .int p2, .int p3]) M (some (.int z)) M' := by
  refine ct_intro (own := RX9) (L := [(0, .ref ths), (1, .int p1), (2, .int p2), (3, .int p3)]) (by decide +kernel) rfl (Nat.le_of_ble_eq_true rfl) rfl ?_
  intro p e s m args below meth c Q hQ cx hnm
  unfold fn_X9_strongThen at h
  refine q_aload_n cx (pc' := 1) 0 rfl dX9_strongThen_0 rfl ?_
  obtain ⟨ht1, r1, ex1, h⟩ := gR_i h
  refine q_gR cx (pc' := 4) 9 2 fl_X9_16 rfl ht1 ex1 dX9_strongThen_1 rfl ?_
  refine q_iload_n cx (pc' := 5) 1 rfl dX9_strongThen_4 rfl ?_
  refine q_iload_n cx (pc' := 6) 2 rfl dX9_strongThen_5 rfl ?_
  obtain ⟨ht6, hi6, M6, eM6, h⟩ := wI_i h
  refine q_iast cx (pc' := 7) ht6 hi6 eM6 dX9_strongThen_6 rfl ?_
  refine q_iconst cx (pc' := 8) ki_0 dX9_strongThen_7 rfl ?_
  refine q_istore cx (pc' := 10) rfl (by decide) (L' := [(4, .int 0), (0, .ref ths), (1, .int p1), (2, .int p2), (3, .int p3)]) rfl dX9_strongThen_8 rfl ?_
  obtain ⟨r10, hL10, h⟩ := bnd_i h
  have hk10_0 : ∀ (Me_10 : QM), Me_10 = r10 → EE p l e rm_X9_strongThen s m args below meth c Q Γ 5 0 0 37 [(0, .ref ths), (1, .int p1), (3, .int p3)] [] Me_10 := by
    intro Me_10 hp
    subst hp
    refine q_aload_n cx (pc' := 38) 0 rfl dX9_strongThen_37 rfl ?_
    refine q_dup cx (pc' := 39) rfl dX9_strongThen_38 rfl ?_
    obtain ⟨ht39, x39, ex39, h⟩ := gI_i h
    refine q_gI cx (pc' := 42) 9 1 fl_X9_13 rfl ht39 ex39 dX9_strongThen_39 rfl ?_
    refine q_iload_n cx (pc' := 43) 2 rfl dX9_strongThen_42 rfl ?_
    refine q_isub cx (pc' := 44) dX9_strongThen_43 rfl ?_
    obtain ⟨ht44, M44, eM44, h⟩ := pI_i h
    refine q_pI cx (pc' := 47) 9 1 fl_X9_13 rfl ht44 (ty := .int) ⟨(RX9, TX9, 70), rfl, by decide +kernel, Or.inl rfl⟩ rfl rfl eM44 dX9_strongThen_44 rfl ?_
    refine q_aload_n cx (pc' := 48) 0 rfl dX9_strongThen_47 rfl ?_
    obtain ⟨ht48, r48, ex48, h⟩ := gR_i h
    refine q_gR cx (pc' := 51) 9 2 fl_X9_16 rfl ht48 ex48 dX9_strongThen_48 rfl ?_
    refine q_iload_n cx (pc' := 52) 1 rfl dX9_strongThen_51 rfl ?_
    obtain ⟨ht52, hi52, x52, ex52, h⟩ := aI_i h
    refine q_iald cx (pc' := 53) ht52 hi52 ex52 dX9_strongThen_52 rfl ?_
    obtain ⟨rfl, rfl⟩ := o2_i h
    rw [hQ]
    exact q_iret cx dX9_strongThen_53
  have key10 : ∀ (n : Nat) (w4_10 : Int32) (Mw_10 : QM), itr (fun s10 : Int32 × QM => lp_X9_strongThen_10 ths p1 p3 s10.1 s10.2) n (w4_10, Mw_10) = some r10 → EE p l e rm_X9_strongThen s m args below meth c Q Γ 5 0 0 10 [(0, .ref ths), (1, .int p1), (3, .int p3), (4, .int w4_10)] [] Mw_10 := by
    intro n
    induction n with
    | zero => intro _ _ h; exact (itr_0 h).elim
    | succ n ih =>
      intro w4_10 Mw_10 h
      obtain ⟨z10, h, hz10⟩ := itr_i h
      replace h : lp_X9_strongThen_10 ths p1 p3 w4_10 Mw_10 = some z10 := h
      unfold lp_X9_strongThen_10 at h
      refine q_iload cx (pc' := 12) 3 rfl dX9_strongThen_10 rfl ?_
      refine q_iload_n cx (pc' := 13) 2 rfl dX9_strongThen_12 rfl ?_
      refine q_icmp_ge cx (pc' := 16) (tgt := 37) dX9_strongThen_13 (by decide) rfl (fun c13 => ?_) (fun c13 => ?_)
      · replace h := ip c13 h
        refine q_sub cx [0, 1, 2] rfl ?_
        exact hk10_0 _ (hz10.2 _ h)
      · replace h := ine c13 h
        refine q_aload_n cx (pc' := 17) 0 rfl dX9_strongThen_16 rfl ?_
        refine q_iload_n cx (pc' := 18) 1 rfl dX9_strongThen_17 rfl ?_
        obtain ⟨hk18, h⟩ := ck_i h
        obtain ⟨M18, hc18, h⟩ := bnd_i h
        refine q_callV cx (pc' := 21) (S := []) (S1 := []) (kc' := 0) (ks' := 0) 9 (ct_X9_goCell Γ l Mw_10 ths p1 hk18 _ hc18) lki_X9_goCell lkv_X9_goCell lkc_X9_361 hk18 (r := (RX9, TX9, 70)) ⟨rfl, by decide, rfl⟩ rfl rfl (Nat.le_of_ble_eq_true rfl) ⟨(Nat.le_of_ble_eq_true rfl), (Nat.le_of_ble_eq_true rfl)⟩ ⟨(Nat.le_of_ble_eq_true rfl), (Nat.le_of_ble_eq_true rfl)⟩ dX9_strongThen_18 rfl rfl rfl ?_
        refine q_aload_n cx (pc' := 22) 0 rfl dX9_strongThen_21 rfl ?_
        refine q_dup cx (pc' := 23) rfl dX9_strongThen_22 rfl ?_
        obtain ⟨ht23, x23, ex23, h⟩ := gI_i h
        refine q_gI cx (pc' := 26) 9 1 fl_X9_13 rfl ht23 ex23 dX9_strongThen_23 rfl ?_
        refine q_iconst cx (pc' := 27) ki_1 dX9_strongThen_26 rfl ?_
        refine q_iadd cx (pc' := 28) dX9_strongThen_27 rfl ?_
        obtain ⟨ht28, M28, eM28, h⟩ := pI_i h
        refine q_pI cx (pc' := 31) 9 1 fl_X9_13 rfl ht28 (ty := .int) ⟨(RX9, TX9, 70), rfl, by decide +kernel, Or.inl rfl⟩ rfl rfl eM28 dX9_strongThen_28 rfl ?_
        obtain ⟨v4_31, ev4_31, h⟩ := nm_i h
        refine q_iinc cx (pc' := 34) 3 rfl ki_1 ev4_31 (by decide) (L' := [(4, .int v4_31), (0, .ref ths), (1, .int p1), (3, .int p3)]) rfl dX9_strongThen_31 rfl ?_
        refine q_goto cx dX9_strongThen_34 (tgt := 10) (by decide) ?_
        refine q_sub cx [1, 2, 3, 0] rfl ?_
        exact ih _ _ (hz10.1 _ h)
  refine q_sub cx [1, 2, 4, 0] rfl ?_
  exact key10 FU _ _ hL10

abbrev rm_X9_was : Room := { frames := 6, cells := 0, slots := 0, locals := 158 }
def lp_X9_was_62 (ths : Nat) (p1 : Int32) (p2 : Int32) (p3 : Int32) (w6_62 : Int32) (w7_62 : Int32) (w8_62 : Int32) (Mw_62 : QM) : Option ((Int32 × Int32 × Int32 × QM) ⊕ (Int32 × Int32 × QM)) :=
  if w8_62 < 0 then
    some (.inr (w6_62, w7_62, Mw_62))
  else
    ck Mw_62 ths 9 <|
    bnd (fn_X9_strongThen Mw_62 ths p1 w8_62 p3) fun y72 =>
    pr2 y72 fun c72 M72 =>
    if c72 = p2 then
      nm (w6_62 + 1) fun v6_82 =>
      nm (w8_62 + (-1)) fun v8_89 =>
      some (.inl (v6_82, w8_62, v8_89, M72))
    else
      nm (w8_62 + (-1)) fun v8_89 =>
      some (.inl (w6_62, w7_62, v8_89, M72))
def fn_X9_was (M : QM) (ths : Nat) (p1 : Int32) (p2 : Int32) (p3 : Int32) (p4 : Int32) : Option (Int32 × QM) :=
  if (fn_X9_isCell p1) = 0 then
    some ((-1), M)
  else
    if (fn_X9_in p4 0 1) = 0 then
      some ((-1), M)
    else
      if (fn_X9_isStrength p2) = 0 then
        some ((-2), M)
      else
        if (fn_X9_in p3 0 20) = 0 then
          some ((-2), M)
        else
          gR M ths 9 2 fun r44 =>
          aI M 20 r44 p1 fun x48 =>
          bnd (itr (fun s62 : Int32 × Int32 × Int32 × QM => lp_X9_was_62 ths p1 p2 p3 s62.1 s62.2.1 s62.2.2.1 s62.2.2.2) FU (0, (-5), 99, M)) fun r62 =>
          pr3 r62 fun e6_62 e7_62 Me_62 =>
          gR Me_62 ths 9 2 fun r96 =>
          wI Me_62 20 r96 p1 x48 fun M102 =>
          if p4 = 0 then
            some (e6_62, M102)
          else
            some (e7_62, M102)
set_option maxRecDepth 100000 in
set_option maxHeartbeats 4000000 in
theorem ct_X9_was (Γ : GT) (l : Launch) (M : QM) (ths : Nat) (p1 : Int32) (p2 : Int32) (p3 : Int32) (p4 : Int32) (ht0 : mt M ths = 9) (z : Int32) (M' : QM) (h : fn_X9_was M ths p1 p2 p3 p4 = some (z, M')) : CT Γ l yX9_was cX9_was 9 (some .int) rm_X9_was (.ref ths :: [.int p1, .int p2, .int p3, .int p4]) M (some (.int z)) M' := by
  refine ct_intro (own := RX9) (L := [(0, .ref ths), (1, .int p1), (2, .int p2), (3, .int p3), (4, .int p4)]) (by decide +kernel) rfl (Nat.le_of_ble_eq_true rfl) rfl ?_
  intro p e s m args below meth c Q hQ cx hnm
  unfold fn_X9_was at h
  refine q_aload_n cx (pc' := 1) 0 rfl dX9_was_0 rfl ?_
  refine q_iload_n cx (pc' := 2) 1 rfl dX9_was_1 rfl ?_
  refine q_callV cx (pc' := 5) (S := []) (S1 := [.int (fn_X9_isCell p1)]) (kc' := 0) (ks' := 0) 9 (ct_X9_isCell Γ l M ths p1 ht0) lki_X9_isCell lkv_X9_isCell lkc_X9_232 ht0 (r := (RX9, TX9, 70)) ⟨rfl, by decide, rfl⟩ rfl rfl (Nat.le_of_ble_eq_true rfl) ⟨(Nat.le_of_ble_eq_true rfl), (Nat.le_of_ble_eq_true rfl)⟩ ⟨(Nat.le_of_ble_eq_true rfl), (Nat.le_of_ble_eq_true rfl)⟩ dX9_was_2 rfl rfl rfl ?_
  refine q_if_eq cx (pc' := 8) (tgt := 19) dX9_was_5 (by decide) rfl (fun c5 => ?_) (fun c5 => ?_)
  · replace h := ip c5 h
    refine q_iconst cx (pc' := 20) ki_m1 dX9_was_19 rfl ?_
    obtain ⟨rfl, rfl⟩ := o2_i h
    rw [hQ]
    exact q_iret cx dX9_was_20
  · replace h := ine c5 h
    refine q_aload_n cx (pc' := 9) 0 rfl dX9_was_8 rfl ?_
    refine q_iload cx (pc' := 11) 4 rfl dX9_was_9 rfl ?_
    refine q_iconst cx (pc' := 12) ki_0 dX9_was_11 rfl ?_
    refine q_iconst cx (pc' := 13) ki_1 dX9_was_12 rfl ?_
    refine q_callV cx (pc' := 16) (S := []) (S1 := [.int (fn_X9_in p4 0 1)]) (kc' := 0) (ks' := 0) 9 (ct_X9_in Γ l M ths p4 0 1 ht0) lki_X9_in lkv_X9_in lkc_X9_224 ht0 (r := (RX9, TX9, 70)) ⟨rfl, by decide, rfl⟩ rfl rfl (Nat.le_of_ble_eq_true rfl) ⟨(Nat.le_of_ble_eq_true rfl), (Nat.le_of_ble_eq_true rfl)⟩ ⟨(Nat.le_of_ble_eq_true rfl), (Nat.le_of_ble_eq_true rfl)⟩ dX9_was_13 rfl rfl rfl ?_
    refine q_if_ne cx (pc' := 19) (tgt := 21) dX9_was_16 (by decide) rfl (fun c16 => ?_) (fun c16 => ?_)
    · replace h := ine c16 h
      refine q_aload_n cx (pc' := 22) 0 rfl dX9_was_21 rfl ?_
      refine q_iload_n cx (pc' := 23) 2 rfl dX9_was_22 rfl ?_
      refine q_callV cx (pc' := 26) (S := []) (S1 := [.int (fn_X9_isStrength p2)]) (kc' := 0) (ks' := 0) 9 (ct_X9_isStrength Γ l M ths p2 ht0) lki_X9_isStrength lkv_X9_isStrength lkc_X9_228 ht0 (r := (RX9, TX9, 70)) ⟨rfl, by decide, rfl⟩ rfl rfl (Nat.le_of_ble_eq_true rfl) ⟨(Nat.le_of_ble_eq_true rfl), (Nat.le_of_ble_eq_true rfl)⟩ ⟨(Nat.le_of_ble_eq_true rfl), (Nat.le_of_ble_eq_true rfl)⟩ dX9_was_23 rfl rfl rfl ?_
      refine q_if_eq cx (pc' := 29) (tgt := 40) dX9_was_26 (by decide) rfl (fun c26 => ?_) (fun c26 => ?_)
      · replace h := ip c26 h
        refine q_bipush cx (pc' := 42) kb_m2 dX9_was_40 rfl ?_
        obtain ⟨rfl, rfl⟩ := o2_i h
        rw [hQ]
        exact q_iret cx dX9_was_42
      · replace h := ine c26 h
        refine q_aload_n cx (pc' := 30) 0 rfl dX9_was_29 rfl ?_
        refine q_iload_n cx (pc' := 31) 3 rfl dX9_was_30 rfl ?_
        refine q_iconst cx (pc' := 32) ki_0 dX9_was_31 rfl ?_
        refine q_bipush cx (pc' := 34) kb_20 dX9_was_32 rfl ?_
        refine q_callV cx (pc' := 37) (S := []) (S1 := [.int (fn_X9_in p3 0 20)]) (kc' := 0) (ks' := 0) 9 (ct_X9_in Γ l M ths p3 0 20 ht0) lki_X9_in lkv_X9_in lkc_X9_224 ht0 (r := (RX9, TX9, 70)) ⟨rfl, by decide, rfl⟩ rfl rfl (Nat.le_of_ble_eq_true rfl) ⟨(Nat.le_of_ble_eq_true rfl), (Nat.le_of_ble_eq_true rfl)⟩ ⟨(Nat.le_of_ble_eq_true rfl), (Nat.le_of_ble_eq_true rfl)⟩ dX9_was_34 rfl rfl rfl ?_
        refine q_if_ne cx (pc' := 40) (tgt := 43) dX9_was_37 (by decide) rfl (fun c37 => ?_) (fun c37 => ?_)
        · replace h := ine c37 h
          refine q_aload_n cx (pc' := 44) 0 rfl dX9_was_43 rfl ?_
          obtain ⟨ht44, r44, ex44, h⟩ := gR_i h
          refine q_gR cx (pc' := 47) 9 2 fl_X9_16 rfl ht44 ex44 dX9_was_44 rfl ?_
          refine q_iload_n cx (pc' := 48) 1 rfl dX9_was_47 rfl ?_
          obtain ⟨ht48, hi48, x48, ex48, h⟩ := aI_i h
          refine q_iald cx (pc' := 49) ht48 hi48 ex48 dX9_was_48 rfl ?_
          refine q_istore cx (pc' := 51) rfl (by decide) (L' := [(5, .int x48), (0, .ref ths), (1, .int p1), (2, .int p2), (3, .int p3), (4, .int p4)]) rfl dX9_was_49 rfl ?_
          refine q_iconst cx (pc' := 52) ki_0 dX9_was_51 rfl ?_
          refine q_istore cx (pc' := 54) rfl (by decide) (L' := [(6, .int 0), (5, .int x48), (0, .ref ths), (1, .int p1), (2, .int p2), (3, .int p3), (4, .int p4)]) rfl dX9_was_52 rfl ?_
          refine q_bipush cx (pc' := 56) kb_m5 dX9_was_54 rfl ?_
          refine q_istore cx (pc' := 58) rfl (by decide) (L' := [(7, .int (-5)), (6, .int 0), (5, .int x48), (0, .ref ths), (1, .int p1), (2, .int p2), (3, .int p3), (4, .int p4)]) rfl dX9_was_56 rfl ?_
          refine q_bipush cx (pc' := 60) kb_99 dX9_was_58 rfl ?_
          refine q_istore cx (pc' := 62) rfl (by decide) (L' := [(8, .int 99), (7, .int (-5)), (6, .int 0), (5, .int x48), (0, .ref ths), (1, .int p1), (2, .int p2), (3, .int p3), (4, .int p4)]) rfl dX9_was_60 rfl ?_
          obtain ⟨r62, hL62, h⟩ := bnd_i h
          have hk62_0 : ∀ (e6_62 : Int32) (e7_62 : Int32) (Me_62 : QM), (e6_62, e7_62, Me_62) = r62 → EE p l e rm_X9_was s m args below meth c Q Γ 9 0 0 95 [(0, .ref ths), (1, .int p1), (4, .int p4), (5, .int x48), (6, .int e6_62), (7, .int e7_62)] [] Me_62 := by
            intro e6_62 e7_62 Me_62 hp
            subst hp
            replace h := pr3_i h
            refine q_aload_n cx (pc' := 96) 0 rfl dX9_was_95 rfl ?_
            obtain ⟨ht96, r96, ex96, h⟩ := gR_i h
            refine q_gR cx (pc' := 99) 9 2 fl_X9_16 rfl ht96 ex96 dX9_was_96 rfl ?_
            refine q_iload_n cx (pc' := 100) 1 rfl dX9_was_99 rfl ?_
            refine q_iload cx (pc' := 102) 3 rfl dX9_was_100 rfl ?_
            obtain ⟨ht102, hi102, M102, eM102, h⟩ := wI_i h
            refine q_iast cx (pc' := 103) ht102 hi102 eM102 dX9_was_102 rfl ?_
            refine q_iload cx (pc' := 105) 2 rfl dX9_was_103 rfl ?_
            refine q_if_ne cx (pc' := 108) (tgt := 113) dX9_was_105 (by decide) rfl (fun c105 => ?_) (fun c105 => ?_)
            · replace h := ine c105 h
              refine q_iload cx (pc' := 115) 5 rfl dX9_was_113 rfl ?_
              obtain ⟨rfl, rfl⟩ := o2_i h
              rw [hQ]
              exact q_iret cx dX9_was_115
            · replace h := ip c105 h
              refine q_iload cx (pc' := 110) 4 rfl dX9_was_108 rfl ?_
              refine q_goto cx dX9_was_110 (tgt := 115) (by decide) ?_
              obtain ⟨rfl, rfl⟩ := o2_i h
              rw [hQ]
              exact q_iret cx dX9_was_115
          have key62 : ∀ (n : Nat) (w6_62 : Int32) (w7_62 : Int32) (w8_62 : Int32) (Mw_62 : QM), itr (fun s62 : Int32 × Int32 × Int32 × QM => lp_X9_was_62 ths p1 p2 p3 s62.1 s62.2.1 s62.2.2.1 s62.2.2.2) n (w6_62, w7_62, w8_62, Mw_62) = some r62 → EE p l e rm_X9_was s m args below meth c Q Γ 9 0 0 62 [(0, .ref ths), (1, .int p1), (2, .int p2), (3, .int p3), (4, .int p4), (5, .int x48), (6, .int w6_62), (7, .int w7_62), (8, .int w8_62)] [] Mw_62 := by
            intro n
            induction n with
            | zero => intro _ _ _ _ h; exact (itr_0 h).elim
            | succ n ih =>
              intro w6_62 w7_62 w8_62 Mw_62 h
              obtain ⟨z62, h, hz62⟩ := itr_i h
              replace h : lp_X9_was_62 ths p1 p2 p3 w6_62 w7_62 w8_62 Mw_62 = some z62 := h
              unfold lp_X9_was_62 at h
              refine q_iload cx (pc' := 64) 8 rfl dX9_was_62 rfl ?_
              refine q_if_lt cx (pc' := 67) (tgt := 95) dX9_was_64 (by decide) rfl (fun c64 => ?_) (fun c64 => ?_)
              · replace h := ip c64 h
                refine q_sub cx [0, 1, 4, 5, 6, 7] rfl ?_
                exact hk62_0 _ _ _ (hz62.2 _ h)
              · replace h := ine c64 h
                refine q_aload_n cx (pc' := 68) 0 rfl dX9_was_67 rfl ?_
                refine q_iload_n cx (pc' := 69) 1 rfl dX9_was_68 rfl ?_
                refine q_iload cx (pc' := 71) 8 rfl dX9_was_69 rfl ?_
                refine q_iload_n cx (pc' := 72) 3 rfl dX9_was_71 rfl ?_
                obtain ⟨hk72, h⟩ := ck_i h
                obtain ⟨⟨c72, M72⟩, hc72, h⟩ := bnd_i h
                replace h := pr2_i h
                refine q_callV cx (pc' := 75) (S := []) (S1 := [.int c72]) (kc' := 0) (ks' := 0) 9 (ct_X9_strongThen Γ l Mw_62 ths p1 w8_62 p3 hk72 _ _ hc72) lki_X9_strongThen lkv_X9_strongThen lkc_X9_394 hk72 (r := (RX9, TX9, 70)) ⟨rfl, by decide, rfl⟩ rfl rfl (Nat.le_of_ble_eq_true rfl) ⟨(Nat.le_of_ble_eq_true rfl), (Nat.le_of_ble_eq_true rfl)⟩ ⟨(Nat.le_of_ble_eq_true rfl), (Nat.le_of_ble_eq_true rfl)⟩ dX9_was_72 rfl rfl rfl ?_
                refine q_iload_n cx (pc' := 76) 2 rfl dX9_was_75 rfl ?_
                refine q_icmp_eq cx (pc' := 79) (tgt := 82) dX9_was_76 (by decide) rfl (fun c76 => ?_) (fun c76 => ?_)
                · replace h := ip c76 h
                  obtain ⟨v6_82, ev6_82, h⟩ := nm_i h
                  refine q_iinc cx (pc' := 85) 6 rfl ki_1 ev6_82 (by decide) (L' := [(6, .int v6_82), (0, .ref ths), (1, .int p1), (2, .int p2), (3, .int p3), (4, .int p4), (5, .int x48), (7, .int w7_62), (8, .int w8_62)]) rfl dX9_was_82 rfl ?_
                  refine q_iload cx (pc' := 87) 8 rfl dX9_was_85 rfl ?_
                  refine q_istore cx (pc' := 89) rfl (by decide) (L' := [(7, .int w8_62), (6, .int v6_82), (0, .ref ths), (1, .int p1), (2, .int p2), (3, .int p3), (4, .int p4), (5, .int x48), (8, .int w8_62)]) rfl dX9_was_87 rfl ?_
                  obtain ⟨v8_89, ev8_89, h⟩ := nm_i h
                  refine q_iinc cx (pc' := 92) 8 rfl ki_m1 ev8_89 (by decide) (L' := [(8, .int v8_89), (7, .int w8_62), (6, .int v6_82), (0, .ref ths), (1, .int p1), (2, .int p2), (3, .int p3), (4, .int p4), (5, .int x48)]) rfl dX9_was_89 rfl ?_
                  refine q_goto cx dX9_was_92 (tgt := 62) (by decide) ?_
                  refine q_sub cx [3, 4, 5, 6, 7, 8, 2, 1, 0] rfl ?_
                  exact ih _ _ _ _ (hz62.1 _ h)
                · replace h := ine c76 h
                  refine q_goto cx dX9_was_79 (tgt := 89) (by decide) ?_
                  obtain ⟨v8_89, ev8_89, h⟩ := nm_i h
                  refine q_iinc cx (pc' := 92) 8 rfl ki_m1 ev8_89 (by decide) (L' := [(8, .int v8_89), (0, .ref ths), (1, .int p1), (2, .int p2), (3, .int p3), (4, .int p4), (5, .int x48), (6, .int w6_62), (7, .int w7_62)]) rfl dX9_was_89 rfl ?_
                  refine q_goto cx dX9_was_92 (tgt := 62) (by decide) ?_
                  refine q_sub cx [1, 2, 3, 4, 5, 6, 7, 8, 0] rfl ?_
                  exact ih _ _ _ _ (hz62.1 _ h)
          refine q_sub cx [4, 5, 6, 7, 8, 3, 2, 1, 0] rfl ?_
          exact key62 FU _ _ _ _ hL62
        · replace h := ip c37 h
          refine q_bipush cx (pc' := 42) kb_m2 dX9_was_40 rfl ?_
          obtain ⟨rfl, rfl⟩ := o2_i h
          rw [hQ]
          exact q_iret cx dX9_was_42
    · replace h := ip c16 h
      refine q_iconst cx (pc' := 20) ki_m1 dX9_was_19 rfl ?_
      obtain ⟨rfl, rfl⟩ := o2_i h
      rw [hQ]
      exact q_iret cx dX9_was_20

abbrev rm_X9_divisor : Room := { frames := 1, cells := 0, slots := 0, locals := 40 }
def lp_X9_divisor_5 (w3_5 : Int32) (w4_5 : Int32) : Option ((Int32 × Int32) ⊕ (Int32)) :=
  if w4_5 = 0 then
    some (.inr w3_5)
  else
    dv w4_5 <|
    nm (w3_5 - w3_5 / w4_5 * w4_5) fun v5_14 =>
    some (.inl (w4_5, v5_14))
def fn_X9_divisor (p1 : Int32) (p2 : Int32) : Option Int32 :=
  bnd (itr (fun s5 : Int32 × Int32 => lp_X9_divisor_5 s5.1 s5.2) FU (p1, p2)) fun re_5 =>
  some re_5
set_option maxRecDepth 100000 in
set_option maxHeartbeats 4000000 in
theorem ct_X9_divisor (Γ : GT) (l : Launch) (M : QM) (ths : Nat) (p1 : Int32) (p2 : Int32) (ht0 : mt M ths = 9) (z : Int32) (h : fn_X9_divisor p1 p2 = some z) : CT Γ l yX9_divisor cX9_divisor 6 (some .int) rm_X9_divisor (.ref ths :: [.int p1, .int p2]) M (some (.int z)) M := by
  refine ct_intro (own := RX9) (L := [(0, .ref ths), (1, .int p1), (2, .int p2)]) (by decide +kernel) rfl (Nat.le_of_ble_eq_true rfl) rfl ?_
  intro p e s m args below meth c Q hQ cx hnm
  unfold fn_X9_divisor at h
  refine q_iload_n cx (pc' := 1) 1 rfl dX9_divisor_0 rfl ?_
  refine q_istore_n cx (pc' := 2) rfl rfl (by decide) (L' := [(3, .int p1), (0, .ref ths), (1, .int p1), (2, .int p2)]) rfl dX9_divisor_1 rfl ?_
  refine q_iload_n cx (pc' := 3) 3 rfl dX9_divisor_2 rfl ?_
  refine q_istore cx (pc' := 5) rfl (by decide) (L' := [(4, .int p2), (3, .int p1), (0, .ref ths), (1, .int p1), (2, .int p2)]) rfl dX9_divisor_3 rfl ?_
  obtain ⟨r5, hL5, h⟩ := bnd_i h
  have hk5_r : ∀ (re_5 : Int32), re_5 = r5 → some re_5 = some z := by
    intro re_5 hp
    subst hp
    exact h
  have key5 : ∀ (n : Nat) (w3_5 : Int32) (w4_5 : Int32), itr (fun s5 : Int32 × Int32 => lp_X9_divisor_5 s5.1 s5.2) n (w3_5, w4_5) = some r5 → EE p l e rm_X9_divisor s m args below meth c Q Γ 6 0 0 5 [(3, .int w3_5), (4, .int w4_5)] [] M := by
    intro n
    induction n with
    | zero => intro _ _ h; exact (itr_0 h).elim
    | succ n ih =>
      intro w3_5 w4_5 h
      obtain ⟨z5, h, hz5⟩ := itr_i h
      replace h : lp_X9_divisor_5 w3_5 w4_5 = some z5 := h
      unfold lp_X9_divisor_5 at h
      refine q_iload cx (pc' := 7) 1 rfl dX9_divisor_5 rfl ?_
      refine q_if_eq cx (pc' := 10) (tgt := 26) dX9_divisor_7 (by decide) rfl (fun c7 => ?_) (fun c7 => ?_)
      · replace h := ip c7 h
        refine q_iload_n cx (pc' := 27) 0 rfl dX9_divisor_26 rfl ?_
        replace h := hk5_r _ (hz5.2 _ h)
        obtain rfl := o1_i h
        rw [hQ]
        exact q_iret cx dX9_divisor_27
      · replace h := ine c7 h
        refine q_iload_n cx (pc' := 11) 0 rfl dX9_divisor_10 rfl ?_
        refine q_iload cx (pc' := 13) 1 rfl dX9_divisor_11 rfl ?_
        obtain ⟨hne13, h⟩ := dv_i h
        refine q_irem cx (pc' := 14) hne13 dX9_divisor_13 rfl ?_
        obtain ⟨v5_14, ev5_14, h⟩ := nm_i h
        refine q_istore cx (pc' := 16) ev5_14 (by decide) (L' := [(5, .int v5_14), (3, .int w3_5), (4, .int w4_5)]) rfl dX9_divisor_14 rfl ?_
        refine q_iload cx (pc' := 18) 2 rfl dX9_divisor_16 rfl ?_
        refine q_istore_n cx (pc' := 19) rfl rfl (by decide) (L' := [(3, .int w4_5), (5, .int v5_14), (4, .int w4_5)]) rfl dX9_divisor_18 rfl ?_
        refine q_iload cx (pc' := 21) 1 rfl dX9_divisor_19 rfl ?_
        refine q_istore cx (pc' := 23) rfl (by decide) (L' := [(4, .int v5_14), (3, .int w4_5), (5, .int v5_14)]) rfl dX9_divisor_21 rfl ?_
        refine q_goto cx dX9_divisor_23 (tgt := 5) (by decide) ?_
        refine q_sub cx [1, 0] rfl ?_
        exact ih _ _ (hz5.1 _ h)
  refine q_sub cx [1, 0] rfl ?_
  exact key5 FU _ _ hL5

abbrev rm_X9_lowest : Room := { frames := 2, cells := 0, slots := 0, locals := 65 }
def fn_X9_lowest (p1 : Int32) (p2 : Int32) (p3 : Int32) : Option Int64 :=
  bnd (fn_X9_divisor p1 p2) fun c3 =>
  if p3 = 0 then
    dv c3 <|
    some ((p1 / c3).toInt64)
  else
    dv c3 <|
    some ((p2 / c3).toInt64)
set_option maxRecDepth 100000 in
set_option maxHeartbeats 4000000 in
theorem ct_X9_lowest (Γ : GT) (l : Launch) (M : QM) (ths : Nat) (p1 : Int32) (p2 : Int32) (p3 : Int32) (ht0 : mt M ths = 9) (z : Int64) (h : fn_X9_lowest p1 p2 p3 = some z) : CT Γ l yX9_lowest cX9_lowest 5 (some .long) rm_X9_lowest (.ref ths :: [.int p1, .int p2, .int p3]) M (some (.long z)) M := by
  refine ct_intro (own := RX9) (L := [(0, .ref ths), (1, .int p1), (2, .int p2), (3, .int p3)]) (by decide +kernel) rfl (Nat.le_of_ble_eq_true rfl) rfl ?_
  intro p e s m args below meth c Q hQ cx hnm
  unfold fn_X9_lowest at h
  refine q_aload_n cx (pc' := 1) 0 rfl dX9_lowest_0 rfl ?_
  refine q_iload_n cx (pc' := 2) 1 rfl dX9_lowest_1 rfl ?_
  refine q_iload_n cx (pc' := 3) 2 rfl dX9_lowest_2 rfl ?_
  obtain ⟨c3, hc3, h⟩ := bnd_i h
  refine q_callV cx (pc' := 6) (S := []) (S1 := [.int c3]) (kc' := 0) (ks' := 0) 9 (ct_X9_divisor Γ l M ths p1 p2 ht0 _ hc3) lki_X9_divisor lkv_X9_divisor lkc_X9_398 ht0 (r := (RX9, TX9, 70)) ⟨rfl, by decide, rfl⟩ rfl rfl (Nat.le_of_ble_eq_true rfl) ⟨(Nat.le_of_ble_eq_true rfl), (Nat.le_of_ble_eq_true rfl)⟩ ⟨(Nat.le_of_ble_eq_true rfl), (Nat.le_of_ble_eq_true rfl)⟩ dX9_lowest_3 rfl rfl rfl ?_
  refine q_istore cx (pc' := 8) rfl (by decide) (L' := [(4, .int c3), (0, .ref ths), (1, .int p1), (2, .int p2), (3, .int p3)]) rfl dX9_lowest_6 rfl ?_
  refine q_iload_n cx (pc' := 9) 4 rfl dX9_lowest_8 rfl ?_
  refine q_if_ne cx (pc' := 12) (tgt := 20) dX9_lowest_9 (by decide) rfl (fun c9 => ?_) (fun c9 => ?_)
  · replace h := ine c9 h
    refine q_iload_n cx (pc' := 21) 3 rfl dX9_lowest_20 rfl ?_
    refine q_iload cx (pc' := 23) 0 rfl dX9_lowest_21 rfl ?_
    obtain ⟨hne23, h⟩ := dv_i h
    refine q_idiv cx (pc' := 24) hne23 dX9_lowest_23 rfl ?_
    refine q_i2l cx (pc' := 25) dX9_lowest_24 rfl ?_
    obtain rfl := o1_i h
    rw [hQ]
    exact q_lret cx dX9_lowest_25
  · replace h := ip c9 h
    refine q_iload_n cx (pc' := 13) 2 rfl dX9_lowest_12 rfl ?_
    refine q_iload cx (pc' := 15) 0 rfl dX9_lowest_13 rfl ?_
    obtain ⟨hne15, h⟩ := dv_i h
    refine q_idiv cx (pc' := 16) hne15 dX9_lowest_15 rfl ?_
    refine q_i2l cx (pc' := 17) dX9_lowest_16 rfl ?_
    refine q_goto cx dX9_lowest_17 (tgt := 25) (by decide) ?_
    obtain rfl := o1_i h
    rw [hQ]
    exact q_lret cx dX9_lowest_25

abbrev rm_X9_odds : Room := { frames := 8, cells := 0, slots := 0, locals := 197 }
def jn_X9_odds_70_27 (ths : Nat) (j4_70 : Int32) (j5_70 : Int32) (js0_70 : Int32) (js1_70 : Int32) (Mj_70 : QM) : Option ((Int32 × Int32 × QM) ⊕ (Int32 × QM)) :=
  nm (js1_70 + js0_70) fun v3_71 =>
  gR Mj_70 ths 9 2 fun r73 =>
  wI Mj_70 20 r73 j4_70 j5_70 fun M80 =>
  nm (j4_70 + 1) fun v4_81 =>
  some (.inl (v3_71, v4_81, M80))
def lp_X9_odds_27 (ths : Nat) (p1 : Int32) (w3_27 : Int32) (w4_27 : Int32) (Mw_27 : QM) : Option ((Int32 × Int32 × QM) ⊕ (Int32 × QM)) :=
  if 16 ≤ w4_27 then
    some (.inr (w3_27, Mw_27))
  else
    gR Mw_27 ths 9 2 fun r35 =>
    aI Mw_27 20 r35 w4_27 fun x40 =>
    gR Mw_27 ths 9 2 fun r44 =>
    ck Mw_27 ths 9 <|
    bnd (fn_X9_milkOf Mw_27 ths w4_27) fun c52 =>
    wI Mw_27 20 r44 w4_27 c52 fun M55 =>
    ck M55 ths 9 <|
    bnd (fn_X9_canCross M55 ths p1) fun y59 =>
    pr2 y59 fun c59 M59 =>
    if c59 = 0 then
      jn_X9_odds_70_27 ths w4_27 x40 0 w3_27 M59
    else
      jn_X9_odds_70_27 ths w4_27 x40 1 w3_27 M59
def fn_X9_odds (M : QM) (ths : Nat) (p1 : Int32) (p2 : Int32) : Option (Int64 × QM) :=
  bnd (fn_X9_isWalker M ths p1) fun c2 =>
  if c2 = 0 then
    some ((-9223372036854775808), M)
  else
    if (fn_X9_in p2 0 1) = 0 then
      some ((-9223372036854775808), M)
    else
      bnd (itr (fun s27 : Int32 × Int32 × QM => lp_X9_odds_27 ths p1 s27.1 s27.2.1 s27.2.2) FU (0, 0, M)) fun r27 =>
      pr2 r27 fun e3_27 Me_27 =>
      ck Me_27 ths 9 <|
      bnd (fn_X9_lowest e3_27 16 p2) fun c92 =>
      some (c92, Me_27)
set_option maxRecDepth 100000 in
set_option maxHeartbeats 4000000 in
theorem ct_X9_odds (Γ : GT) (l : Launch) (M : QM) (ths : Nat) (p1 : Int32) (p2 : Int32) (ht0 : mt M ths = 9) (z : Int64) (M' : QM) (h : fn_X9_odds M ths p1 p2 = some (z, M')) : CT Γ l yX9_odds cX9_odds 6 (some .long) rm_X9_odds (.ref ths :: [.int p1, .int p2]) M (some (.long z)) M' := by
  refine ct_intro (own := RX9) (L := [(0, .ref ths), (1, .int p1), (2, .int p2)]) (by decide +kernel) rfl (Nat.le_of_ble_eq_true rfl) rfl ?_
  intro p e s m args below meth c Q hQ cx hnm
  unfold fn_X9_odds at h
  refine q_aload_n cx (pc' := 1) 0 rfl dX9_odds_0 rfl ?_
  refine q_iload_n cx (pc' := 2) 1 rfl dX9_odds_1 rfl ?_
  obtain ⟨c2, hc2, h⟩ := bnd_i h
  refine q_callV cx (pc' := 5) (S := []) (S1 := [.int c2]) (kc' := 0) (ks' := 0) 9 (ct_X9_isWalker Γ l M ths p1 ht0 _ hc2) lki_X9_isWalker lkv_X9_isWalker lkc_X9_235 ht0 (r := (RX9, TX9, 70)) ⟨rfl, by decide, rfl⟩ rfl rfl (Nat.le_of_ble_eq_true rfl) ⟨(Nat.le_of_ble_eq_true rfl), (Nat.le_of_ble_eq_true rfl)⟩ ⟨(Nat.le_of_ble_eq_true rfl), (Nat.le_of_ble_eq_true rfl)⟩ dX9_odds_2 rfl rfl rfl ?_
  refine q_if_eq cx (pc' := 8) (tgt := 18) dX9_odds_5 (by decide) rfl (fun c5 => ?_) (fun c5 => ?_)
  · replace h := ip c5 h
    refine q_ldc2 cx (pc' := 21) aw_154 dX9_odds_18 rfl ?_
    obtain ⟨rfl, rfl⟩ := o2_i h
    rw [hQ]
    exact q_lret cx dX9_odds_21
  · replace h := ine c5 h
    refine q_aload_n cx (pc' := 9) 0 rfl dX9_odds_8 rfl ?_
    refine q_iload_n cx (pc' := 10) 2 rfl dX9_odds_9 rfl ?_
    refine q_iconst cx (pc' := 11) ki_0 dX9_odds_10 rfl ?_
    refine q_iconst cx (pc' := 12) ki_1 dX9_odds_11 rfl ?_
    refine q_callV cx (pc' := 15) (S := []) (S1 := [.int (fn_X9_in p2 0 1)]) (kc' := 0) (ks' := 0) 9 (ct_X9_in Γ l M ths p2 0 1 ht0) lki_X9_in lkv_X9_in lkc_X9_224 ht0 (r := (RX9, TX9, 70)) ⟨rfl, by decide, rfl⟩ rfl rfl (Nat.le_of_ble_eq_true rfl) ⟨(Nat.le_of_ble_eq_true rfl), (Nat.le_of_ble_eq_true rfl)⟩ ⟨(Nat.le_of_ble_eq_true rfl), (Nat.le_of_ble_eq_true rfl)⟩ dX9_odds_12 rfl rfl rfl ?_
    refine q_if_ne cx (pc' := 18) (tgt := 22) dX9_odds_15 (by decide) rfl (fun c15 => ?_) (fun c15 => ?_)
    · replace h := ine c15 h
      refine q_iconst cx (pc' := 23) ki_0 dX9_odds_22 rfl ?_
      refine q_istore_n cx (pc' := 24) rfl rfl (by decide) (L' := [(3, .int 0), (0, .ref ths), (1, .int p1), (2, .int p2)]) rfl dX9_odds_23 rfl ?_
      refine q_iconst cx (pc' := 25) ki_0 dX9_odds_24 rfl ?_
      refine q_istore cx (pc' := 27) rfl (by decide) (L' := [(4, .int 0), (3, .int 0), (0, .ref ths), (1, .int p1), (2, .int p2)]) rfl dX9_odds_25 rfl ?_
      obtain ⟨r27, hL27, h⟩ := bnd_i h
      have hk27_0 : ∀ (e3_27 : Int32) (Me_27 : QM), (e3_27, Me_27) = r27 → EE p l e rm_X9_odds s m args below meth c Q Γ 6 0 0 87 [(0, .ref ths), (2, .int p2), (3, .int e3_27)] [] Me_27 := by
        intro e3_27 Me_27 hp
        subst hp
        replace h := pr2_i h
        refine q_aload_n cx (pc' := 88) 0 rfl dX9_odds_87 rfl ?_
        refine q_iload_n cx (pc' := 89) 2 rfl dX9_odds_88 rfl ?_
        refine q_bipush cx (pc' := 91) kb_16 dX9_odds_89 rfl ?_
        refine q_iload_n cx (pc' := 92) 1 rfl dX9_odds_91 rfl ?_
        obtain ⟨hk92, h⟩ := ck_i h
        obtain ⟨c92, hc92, h⟩ := bnd_i h
        refine q_callV cx (pc' := 95) (S := []) (S1 := [.long c92]) (kc' := 0) (ks' := 0) 9 (ct_X9_lowest Γ l Me_27 ths e3_27 16 p2 hk92 _ hc92) lki_X9_lowest lkv_X9_lowest lkc_X9_403 hk92 (r := (RX9, TX9, 70)) ⟨rfl, by decide, rfl⟩ rfl rfl (Nat.le_of_ble_eq_true rfl) ⟨(Nat.le_of_ble_eq_true rfl), (Nat.le_of_ble_eq_true rfl)⟩ ⟨(Nat.le_of_ble_eq_true rfl), (Nat.le_of_ble_eq_true rfl)⟩ dX9_odds_92 rfl rfl rfl ?_
        obtain ⟨rfl, rfl⟩ := o2_i h
        rw [hQ]
        exact q_lret cx dX9_odds_95
      have key27 : ∀ (n : Nat) (w3_27 : Int32) (w4_27 : Int32) (Mw_27 : QM), itr (fun s27 : Int32 × Int32 × QM => lp_X9_odds_27 ths p1 s27.1 s27.2.1 s27.2.2) n (w3_27, w4_27, Mw_27) = some r27 → EE p l e rm_X9_odds s m args below meth c Q Γ 6 0 0 27 [(0, .ref ths), (1, .int p1), (2, .int p2), (3, .int w3_27), (4, .int w4_27)] [] Mw_27 := by
        intro n
        induction n with
        | zero => intro _ _ _ h; exact (itr_0 h).elim
        | succ n ih =>
          intro w3_27 w4_27 Mw_27 h
          obtain ⟨z27, h, hz27⟩ := itr_i h
          replace h : lp_X9_odds_27 ths p1 w3_27 w4_27 Mw_27 = some z27 := h
          unfold lp_X9_odds_27 at h
          have hj70 : ∀ (j4_70 : Int32) (j5_70 : Int32) (js0_70 : Int32) (js1_70 : Int32) (Mj_70 : QM), jn_X9_odds_70_27 ths j4_70 j5_70 js0_70 js1_70 Mj_70 = some z27 → EE p l e rm_X9_odds s m args below meth c Q Γ 6 0 0 70 [(0, .ref ths), (1, .int p1), (2, .int p2), (4, .int j4_70), (5, .int j5_70)] [.int js0_70, .int js1_70] Mj_70 := by
            intro j4_70 j5_70 js0_70 js1_70 Mj_70 h
            unfold jn_X9_odds_70_27 at h
            refine q_iadd cx (pc' := 71) dX9_odds_70 rfl ?_
            obtain ⟨v3_71, ev3_71, h⟩ := nm_i h
            refine q_istore_n cx (pc' := 72) rfl ev3_71 (by decide) (L' := [(3, .int v3_71), (0, .ref ths), (1, .int p1), (2, .int p2), (4, .int j4_70), (5, .int j5_70)]) rfl dX9_odds_71 rfl ?_
            refine q_aload_n cx (pc' := 73) 1 rfl dX9_odds_72 rfl ?_
            obtain ⟨ht73, r73, ex73, h⟩ := gR_i h
            refine q_gR cx (pc' := 76) 9 2 fl_X9_16 rfl ht73 ex73 dX9_odds_73 rfl ?_
            refine q_iload cx (pc' := 78) 4 rfl dX9_odds_76 rfl ?_
            refine q_iload cx (pc' := 80) 5 rfl dX9_odds_78 rfl ?_
            obtain ⟨ht80, hi80, M80, eM80, h⟩ := wI_i h
            refine q_iast cx (pc' := 81) ht80 hi80 eM80 dX9_odds_80 rfl ?_
            obtain ⟨v4_81, ev4_81, h⟩ := nm_i h
            refine q_iinc cx (pc' := 84) 4 rfl ki_1 ev4_81 (by decide) (L' := [(4, .int v4_81), (3, .int v3_71), (0, .ref ths), (1, .int p1), (2, .int p2), (5, .int j5_70)]) rfl dX9_odds_81 rfl ?_
            refine q_goto cx dX9_odds_84 (tgt := 27) (by decide) ?_
            refine q_sub cx [2, 3, 4, 1, 0] rfl ?_
            exact ih _ _ _ (hz27.1 _ h)
          refine q_iload cx (pc' := 29) 4 rfl dX9_odds_27 rfl ?_
          refine q_bipush cx (pc' := 31) kb_16 dX9_odds_29 rfl ?_
          refine q_icmp_ge cx (pc' := 34) (tgt := 87) dX9_odds_31 (by decide) rfl (fun c31 => ?_) (fun c31 => ?_)
          · replace h := ip c31 h
            refine q_sub cx [0, 2, 3] rfl ?_
            exact hk27_0 _ _ (hz27.2 _ h)
          · replace h := ine c31 h
            refine q_aload_n cx (pc' := 35) 0 rfl dX9_odds_34 rfl ?_
            obtain ⟨ht35, r35, ex35, h⟩ := gR_i h
            refine q_gR cx (pc' := 38) 9 2 fl_X9_16 rfl ht35 ex35 dX9_odds_35 rfl ?_
            refine q_iload cx (pc' := 40) 4 rfl dX9_odds_38 rfl ?_
            obtain ⟨ht40, hi40, x40, ex40, h⟩ := aI_i h
            refine q_iald cx (pc' := 41) ht40 hi40 ex40 dX9_odds_40 rfl ?_
            refine q_istore cx (pc' := 43) rfl (by decide) (L' := [(5, .int x40), (0, .ref ths), (1, .int p1), (2, .int p2), (3, .int w3_27), (4, .int w4_27)]) rfl dX9_odds_41 rfl ?_
            refine q_aload_n cx (pc' := 44) 1 rfl dX9_odds_43 rfl ?_
            obtain ⟨ht44, r44, ex44, h⟩ := gR_i h
            refine q_gR cx (pc' := 47) 9 2 fl_X9_16 rfl ht44 ex44 dX9_odds_44 rfl ?_
            refine q_iload cx (pc' := 49) 5 rfl dX9_odds_47 rfl ?_
            refine q_aload_n cx (pc' := 50) 1 rfl dX9_odds_49 rfl ?_
            refine q_iload cx (pc' := 52) 5 rfl dX9_odds_50 rfl ?_
            obtain ⟨hk52, h⟩ := ck_i h
            obtain ⟨c52, hc52, h⟩ := bnd_i h
            refine q_callV cx (pc' := 55) (S := [.int w4_27, .ref r44]) (S1 := [.int c52, .int w4_27, .ref r44]) (kc' := 0) (ks' := 0) 9 (ct_X9_milkOf Γ l Mw_27 ths w4_27 hk52 _ hc52) lki_X9_milkOf lkv_X9_milkOf lkc_X9_348 hk52 (r := (RX9, TX9, 70)) ⟨rfl, by decide, rfl⟩ rfl rfl (Nat.le_of_ble_eq_true rfl) ⟨(Nat.le_of_ble_eq_true rfl), (Nat.le_of_ble_eq_true rfl)⟩ ⟨(Nat.le_of_ble_eq_true rfl), (Nat.le_of_ble_eq_true rfl)⟩ dX9_odds_52 rfl rfl rfl ?_
            obtain ⟨ht55, hi55, M55, eM55, h⟩ := wI_i h
            refine q_iast cx (pc' := 56) ht55 hi55 eM55 dX9_odds_55 rfl ?_
            refine q_iload_n cx (pc' := 57) 4 rfl dX9_odds_56 rfl ?_
            refine q_aload_n cx (pc' := 58) 1 rfl dX9_odds_57 rfl ?_
            refine q_iload_n cx (pc' := 59) 2 rfl dX9_odds_58 rfl ?_
            obtain ⟨hk59, h⟩ := ck_i h
            obtain ⟨⟨c59, M59⟩, hc59, h⟩ := bnd_i h
            replace h := pr2_i h
            refine q_callV cx (pc' := 62) (S := [.int w3_27]) (S1 := [.int c59, .int w3_27]) (kc' := 0) (ks' := 0) 9 (ct_X9_canCross Γ l M55 ths p1 hk59 _ _ hc59) lki_X9_canCross lkv_X9_canCross lkc_X9_342 hk59 (r := (RX9, TX9, 70)) ⟨rfl, by decide, rfl⟩ rfl rfl (Nat.le_of_ble_eq_true rfl) ⟨(Nat.le_of_ble_eq_true rfl), (Nat.le_of_ble_eq_true rfl)⟩ ⟨(Nat.le_of_ble_eq_true rfl), (Nat.le_of_ble_eq_true rfl)⟩ dX9_odds_59 rfl rfl rfl ?_
            refine q_if_eq cx (pc' := 65) (tgt := 69) dX9_odds_62 (by decide) rfl (fun c62 => ?_) (fun c62 => ?_)
            · replace h := ip c62 h
              refine q_iconst cx (pc' := 70) ki_0 dX9_odds_69 rfl ?_
              refine q_sub cx [1, 2, 3, 5, 0] rfl ?_
              exact hj70 _ _ _ _ _ h
            · replace h := ine c62 h
              refine q_iconst cx (pc' := 66) ki_1 dX9_odds_65 rfl ?_
              refine q_goto cx dX9_odds_66 (tgt := 70) (by decide) ?_
              refine q_sub cx [1, 2, 3, 5, 0] rfl ?_
              exact hj70 _ _ _ _ _ h
      refine q_sub cx [2, 3, 4, 1, 0] rfl ?_
      exact key27 FU _ _ _ hL27
    · replace h := ip c15 h
      refine q_ldc2 cx (pc' := 21) aw_154 dX9_odds_18 rfl ?_
      obtain ⟨rfl, rfl⟩ := o2_i h
      rw [hQ]
      exact q_lret cx dX9_odds_21

abbrev rm_X9_mean : Room := { frames := 7, cells := 0, slots := 0, locals := 177 }
def fn_X9_mean (M : QM) (ths : Nat) (p1 : Int32) (p2 : Int32) : Option (Int64 × QM) :=
  if (fn_X9_isMinutes p1) = 0 then
    some ((-9223372036854775808), M)
  else
    if (fn_X9_in p2 0 1) = 0 then
      some ((-9223372036854775808), M)
    else
      bnd (fn_X9_save M ths) fun M23 =>
      ck M23 ths 9 <|
      bnd (fn_X9_goMinutes M23 ths p1) fun M28 =>
      ck M28 ths 9 <|
      bnd (fn_X9_allStrong M28 ths) fun c32 =>
      ck M28 ths 9 <|
      bnd (fn_X9_putBack M28 ths) fun M37 =>
      ck M37 ths 9 <|
      bnd (fn_X9_lowest c32 16 p2) fun c45 =>
      some (c45, M37)
set_option maxRecDepth 100000 in
set_option maxHeartbeats 4000000 in
theorem ct_X9_mean (Γ : GT) (l : Launch) (M : QM) (ths : Nat) (p1 : Int32) (p2 : Int32) (ht0 : mt M ths = 9) (z : Int64) (M' : QM) (h : fn_X9_mean M ths p1 p2 = some (z, M')) : CT Γ l yX9_mean cX9_mean 4 (some .long) rm_X9_mean (.ref ths :: [.int p1, .int p2]) M (some (.long z)) M' := by
  refine ct_intro (own := RX9) (L := [(0, .ref ths), (1, .int p1), (2, .int p2)]) (by decide +kernel) rfl (Nat.le_of_ble_eq_true rfl) rfl ?_
  intro p e s m args below meth c Q hQ cx hnm
  unfold fn_X9_mean at h
  refine q_aload_n cx (pc' := 1) 0 rfl dX9_mean_0 rfl ?_
  refine q_iload_n cx (pc' := 2) 1 rfl dX9_mean_1 rfl ?_
  refine q_callV cx (pc' := 5) (S := []) (S1 := [.int (fn_X9_isMinutes p1)]) (kc' := 0) (ks' := 0) 9 (ct_X9_isMinutes Γ l M ths p1 ht0) lki_X9_isMinutes lkv_X9_isMinutes lkc_X9_367 ht0 (r := (RX9, TX9, 70)) ⟨rfl, by decide, rfl⟩ rfl rfl (Nat.le_of_ble_eq_true rfl) ⟨(Nat.le_of_ble_eq_true rfl), (Nat.le_of_ble_eq_true rfl)⟩ ⟨(Nat.le_of_ble_eq_true rfl), (Nat.le_of_ble_eq_true rfl)⟩ dX9_mean_2 rfl rfl rfl ?_
  refine q_if_eq cx (pc' := 8) (tgt := 18) dX9_mean_5 (by decide) rfl (fun c5 => ?_) (fun c5 => ?_)
  · replace h := ip c5 h
    refine q_ldc2 cx (pc' := 21) aw_154 dX9_mean_18 rfl ?_
    obtain ⟨rfl, rfl⟩ := o2_i h
    rw [hQ]
    exact q_lret cx dX9_mean_21
  · replace h := ine c5 h
    refine q_aload_n cx (pc' := 9) 0 rfl dX9_mean_8 rfl ?_
    refine q_iload_n cx (pc' := 10) 2 rfl dX9_mean_9 rfl ?_
    refine q_iconst cx (pc' := 11) ki_0 dX9_mean_10 rfl ?_
    refine q_iconst cx (pc' := 12) ki_1 dX9_mean_11 rfl ?_
    refine q_callV cx (pc' := 15) (S := []) (S1 := [.int (fn_X9_in p2 0 1)]) (kc' := 0) (ks' := 0) 9 (ct_X9_in Γ l M ths p2 0 1 ht0) lki_X9_in lkv_X9_in lkc_X9_224 ht0 (r := (RX9, TX9, 70)) ⟨rfl, by decide, rfl⟩ rfl rfl (Nat.le_of_ble_eq_true rfl) ⟨(Nat.le_of_ble_eq_true rfl), (Nat.le_of_ble_eq_true rfl)⟩ ⟨(Nat.le_of_ble_eq_true rfl), (Nat.le_of_ble_eq_true rfl)⟩ dX9_mean_12 rfl rfl rfl ?_
    refine q_if_ne cx (pc' := 18) (tgt := 22) dX9_mean_15 (by decide) rfl (fun c15 => ?_) (fun c15 => ?_)
    · replace h := ine c15 h
      refine q_aload_n cx (pc' := 23) 0 rfl dX9_mean_22 rfl ?_
      obtain ⟨M23, hc23, h⟩ := bnd_i h
      refine q_callV cx (pc' := 26) (S := []) (S1 := []) (kc' := 0) (ks' := 0) 9 (ct_X9_save Γ l M ths ht0 _ hc23) lki_X9_save lkv_X9_save lkc_X9_373 ht0 (r := (RX9, TX9, 70)) ⟨rfl, by decide, rfl⟩ rfl rfl (Nat.le_of_ble_eq_true rfl) ⟨(Nat.le_of_ble_eq_true rfl), (Nat.le_of_ble_eq_true rfl)⟩ ⟨(Nat.le_of_ble_eq_true rfl), (Nat.le_of_ble_eq_true rfl)⟩ dX9_mean_23 rfl rfl rfl ?_
      refine q_aload_n cx (pc' := 27) 0 rfl dX9_mean_26 rfl ?_
      refine q_iload_n cx (pc' := 28) 1 rfl dX9_mean_27 rfl ?_
      obtain ⟨hk28, h⟩ := ck_i h
      obtain ⟨M28, hc28, h⟩ := bnd_i h
      refine q_callV cx (pc' := 31) (S := []) (S1 := []) (kc' := 0) (ks' := 0) 9 (ct_X9_goMinutes Γ l M23 ths p1 hk28 _ hc28) lki_X9_goMinutes lkv_X9_goMinutes lkc_X9_370 hk28 (r := (RX9, TX9, 70)) ⟨rfl, by decide, rfl⟩ rfl rfl (Nat.le_of_ble_eq_true rfl) ⟨(Nat.le_of_ble_eq_true rfl), (Nat.le_of_ble_eq_true rfl)⟩ ⟨(Nat.le_of_ble_eq_true rfl), (Nat.le_of_ble_eq_true rfl)⟩ dX9_mean_28 rfl rfl rfl ?_
      refine q_aload_n cx (pc' := 32) 0 rfl dX9_mean_31 rfl ?_
      obtain ⟨hk32, h⟩ := ck_i h
      obtain ⟨c32, hc32, h⟩ := bnd_i h
      refine q_callV cx (pc' := 35) (S := []) (S1 := [.int c32]) (kc' := 0) (ks' := 0) 9 (ct_X9_allStrong Γ l M28 ths hk32 _ hc32) lki_X9_allStrong lkv_X9_allStrong lkc_X9_354 hk32 (r := (RX9, TX9, 70)) ⟨rfl, by decide, rfl⟩ rfl rfl (Nat.le_of_ble_eq_true rfl) ⟨(Nat.le_of_ble_eq_true rfl), (Nat.le_of_ble_eq_true rfl)⟩ ⟨(Nat.le_of_ble_eq_true rfl), (Nat.le_of_ble_eq_true rfl)⟩ dX9_mean_32 rfl rfl rfl ?_
      refine q_istore_n cx (pc' := 36) rfl rfl (by decide) (L' := [(3, .int c32), (0, .ref ths), (1, .int p1), (2, .int p2)]) rfl dX9_mean_35 rfl ?_
      refine q_aload_n cx (pc' := 37) 1 rfl dX9_mean_36 rfl ?_
      obtain ⟨hk37, h⟩ := ck_i h
      obtain ⟨M37, hc37, h⟩ := bnd_i h
      refine q_callV cx (pc' := 40) (S := []) (S1 := []) (kc' := 0) (ks' := 0) 9 (ct_X9_putBack Γ l M28 ths hk37 _ hc37) lki_X9_putBack lkv_X9_putBack lkc_X9_376 hk37 (r := (RX9, TX9, 70)) ⟨rfl, by decide, rfl⟩ rfl rfl (Nat.le_of_ble_eq_true rfl) ⟨(Nat.le_of_ble_eq_true rfl), (Nat.le_of_ble_eq_true rfl)⟩ ⟨(Nat.le_of_ble_eq_true rfl), (Nat.le_of_ble_eq_true rfl)⟩ dX9_mean_37 rfl rfl rfl ?_
      refine q_aload_n cx (pc' := 41) 1 rfl dX9_mean_40 rfl ?_
      refine q_iload_n cx (pc' := 42) 0 rfl dX9_mean_41 rfl ?_
      refine q_bipush cx (pc' := 44) kb_16 dX9_mean_42 rfl ?_
      refine q_iload_n cx (pc' := 45) 3 rfl dX9_mean_44 rfl ?_
      obtain ⟨hk45, h⟩ := ck_i h
      obtain ⟨c45, hc45, h⟩ := bnd_i h
      refine q_callV cx (pc' := 48) (S := []) (S1 := [.long c45]) (kc' := 0) (ks' := 0) 9 (ct_X9_lowest Γ l M37 ths c32 16 p2 hk45 _ hc45) lki_X9_lowest lkv_X9_lowest lkc_X9_403 hk45 (r := (RX9, TX9, 70)) ⟨rfl, by decide, rfl⟩ rfl rfl (Nat.le_of_ble_eq_true rfl) ⟨(Nat.le_of_ble_eq_true rfl), (Nat.le_of_ble_eq_true rfl)⟩ ⟨(Nat.le_of_ble_eq_true rfl), (Nat.le_of_ble_eq_true rfl)⟩ dX9_mean_45 rfl rfl rfl ?_
      obtain ⟨rfl, rfl⟩ := o2_i h
      rw [hQ]
      exact q_lret cx dX9_mean_48
    · replace h := ip c15 h
      refine q_ldc2 cx (pc' := 21) aw_154 dX9_mean_18 rfl ?_
      obtain ⟨rfl, rfl⟩ := o2_i h
      rw [hQ]
      exact q_lret cx dX9_mean_21

abbrev rm_X9_afternoon : Room := { frames := 3, cells := 0, slots := 0, locals := 84 }
def jn_X9_afternoon_75 (ths : Nat) (js0_75 : Int32) (js1_75 : Int32) (js2_75 : Nat) (Mj_75 : QM) : Option (Int32 × QM) :=
  wI Mj_75 20 js2_75 js1_75 js0_75 fun M75 =>
  gI M75 ths 9 38 fun x78 =>
  pI M75 ths 9 38 (x78 + 1) fun M83 =>
  gI M83 ths 9 38 fun x87 =>
  some (x87, M83)
def jn_X9_afternoon_36 (ths : Nat) (p1 : Int32) (p2 : Int32) (Mj_36 : QM) : Option (Int32 × QM) :=
  gI Mj_36 ths 9 38 fun x37 =>
  if x37 = 10 then
    some ((-4), Mj_36)
  else
    gR Mj_36 ths 9 40 fun r49 =>
    gI Mj_36 ths 9 38 fun x53 =>
    wI Mj_36 20 r49 x53 p1 fun M57 =>
    gR M57 ths 9 41 fun r59 =>
    gI M57 ths 9 38 fun x63 =>
    if p1 ≤ 0 then
      jn_X9_afternoon_75 ths 0 x63 r59 M57
    else
      jn_X9_afternoon_75 ths p2 x63 r59 M57
def fn_X9_afternoon (M : QM) (ths : Nat) (p1 : Int32) (p2 : Int32) : Option (Int32 × QM) :=
  if p1 = (-1) then
    pI M ths 9 38 0 fun M7 =>
    some (0, M7)
  else
    if (fn_X9_in p1 0 2) = 0 then
      some ((-1), M)
    else
      if p1 ≤ 0 then
        jn_X9_afternoon_36 ths p1 p2 M
      else
        if (fn_X9_isCell p2) = 0 then
          some ((-1), M)
        else
          jn_X9_afternoon_36 ths p1 p2 M
set_option maxRecDepth 100000 in
set_option maxHeartbeats 4000000 in
theorem ct_X9_afternoon (Γ : GT) (l : Launch) (M : QM) (ths : Nat) (p1 : Int32) (p2 : Int32) (ht0 : mt M ths = 9) (z : Int32) (M' : QM) (h : fn_X9_afternoon M ths p1 p2 = some (z, M')) : CT Γ l yX9_afternoon cX9_afternoon 3 (some .int) rm_X9_afternoon (.ref ths :: [.int p1, .int p2]) M (some (.int z)) M' := by
  refine ct_intro (own := RX9) (L := [(0, .ref ths), (1, .int p1), (2, .int p2)]) (by decide +kernel) rfl (Nat.le_of_ble_eq_true rfl) rfl ?_
  intro p e s m args below meth c Q hQ cx hnm
  unfold fn_X9_afternoon at h
  have hj75 : ∀ (js0_75 : Int32) (js1_75 : Int32) (js2_75 : Nat) (Mj_75 : QM), jn_X9_afternoon_75 ths js0_75 js1_75 js2_75 Mj_75 = some (z, M') → EE p l e rm_X9_afternoon s m args below meth c Q Γ 3 0 0 75 [(0, .ref ths)] [.int js0_75, .int js1_75, .ref js2_75] Mj_75 := by
    intro js0_75 js1_75 js2_75 Mj_75 h
    unfold jn_X9_afternoon_75 at h
    obtain ⟨ht75, hi75, M75, eM75, h⟩ := wI_i h
    refine q_iast cx (pc' := 76) ht75 hi75 eM75 dX9_afternoon_75 rfl ?_
    refine q_aload_n cx (pc' := 77) 0 rfl dX9_afternoon_76 rfl ?_
    refine q_dup cx (pc' := 78) rfl dX9_afternoon_77 rfl ?_
    obtain ⟨ht78, x78, ex78, h⟩ := gI_i h
    refine q_gI cx (pc' := 81) 9 38 fl_X9_126 rfl ht78 ex78 dX9_afternoon_78 rfl ?_
    refine q_iconst cx (pc' := 82) ki_1 dX9_afternoon_81 rfl ?_
    refine q_iadd cx (pc' := 83) dX9_afternoon_82 rfl ?_
    obtain ⟨ht83, M83, eM83, h⟩ := pI_i h
    refine q_pI cx (pc' := 86) 9 38 fl_X9_126 rfl ht83 (ty := .int) ⟨(RX9, TX9, 70), rfl, by decide +kernel, Or.inl rfl⟩ rfl rfl eM83 dX9_afternoon_83 rfl ?_
    refine q_aload_n cx (pc' := 87) 0 rfl dX9_afternoon_86 rfl ?_
    obtain ⟨ht87, x87, ex87, h⟩ := gI_i h
    refine q_gI cx (pc' := 90) 9 38 fl_X9_126 rfl ht87 ex87 dX9_afternoon_87 rfl ?_
    obtain ⟨rfl, rfl⟩ := o2_i h
    rw [hQ]
    exact q_iret cx dX9_afternoon_90
  have hj36 : ∀ (Mj_36 : QM), jn_X9_afternoon_36 ths p1 p2 Mj_36 = some (z, M') → EE p l e rm_X9_afternoon s m args below meth c Q Γ 3 0 0 36 [(0, .ref ths), (1, .int p1), (2, .int p2)] [] Mj_36 := by
    intro Mj_36 h
    unfold jn_X9_afternoon_36 at h
    refine q_aload_n cx (pc' := 37) 0 rfl dX9_afternoon_36 rfl ?_
    obtain ⟨ht37, x37, ex37, h⟩ := gI_i h
    refine q_gI cx (pc' := 40) 9 38 fl_X9_126 rfl ht37 ex37 dX9_afternoon_37 rfl ?_
    refine q_bipush cx (pc' := 42) kb_10 dX9_afternoon_40 rfl ?_
    refine q_icmp_ne cx (pc' := 45) (tgt := 48) dX9_afternoon_42 (by decide) rfl (fun c42 => ?_) (fun c42 => ?_)
    · replace h := ine c42 h
      refine q_aload_n cx (pc' := 49) 0 rfl dX9_afternoon_48 rfl ?_
      obtain ⟨ht49, r49, ex49, h⟩ := gR_i h
      refine q_gR cx (pc' := 52) 9 40 fl_X9_132 rfl ht49 ex49 dX9_afternoon_49 rfl ?_
      refine q_aload_n cx (pc' := 53) 0 rfl dX9_afternoon_52 rfl ?_
      obtain ⟨ht53, x53, ex53, h⟩ := gI_i h
      refine q_gI cx (pc' := 56) 9 38 fl_X9_126 rfl ht53 ex53 dX9_afternoon_53 rfl ?_
      refine q_iload_n cx (pc' := 57) 1 rfl dX9_afternoon_56 rfl ?_
      obtain ⟨ht57, hi57, M57, eM57, h⟩ := wI_i h
      refine q_iast cx (pc' := 58) ht57 hi57 eM57 dX9_afternoon_57 rfl ?_
      refine q_aload_n cx (pc' := 59) 0 rfl dX9_afternoon_58 rfl ?_
      obtain ⟨ht59, r59, ex59, h⟩ := gR_i h
      refine q_gR cx (pc' := 62) 9 41 fl_X9_135 rfl ht59 ex59 dX9_afternoon_59 rfl ?_
      refine q_aload_n cx (pc' := 63) 0 rfl dX9_afternoon_62 rfl ?_
      obtain ⟨ht63, x63, ex63, h⟩ := gI_i h
      refine q_gI cx (pc' := 66) 9 38 fl_X9_126 rfl ht63 ex63 dX9_afternoon_63 rfl ?_
      refine q_iload_n cx (pc' := 67) 1 rfl dX9_afternoon_66 rfl ?_
      refine q_if_le cx (pc' := 70) (tgt := 74) dX9_afternoon_67 (by decide) rfl (fun c67 => ?_) (fun c67 => ?_)
      · replace h := ip c67 h
        refine q_iconst cx (pc' := 75) ki_0 dX9_afternoon_74 rfl ?_
        refine q_sub cx [0] rfl ?_
        exact hj75 _ _ _ _ h
      · replace h := ine c67 h
        refine q_iload_n cx (pc' := 71) 2 rfl dX9_afternoon_70 rfl ?_
        refine q_goto cx dX9_afternoon_71 (tgt := 75) (by decide) ?_
        refine q_sub cx [0] rfl ?_
        exact hj75 _ _ _ _ h
    · replace h := ip c42 h
      refine q_bipush cx (pc' := 47) kb_m4 dX9_afternoon_45 rfl ?_
      obtain ⟨rfl, rfl⟩ := o2_i h
      rw [hQ]
      exact q_iret cx dX9_afternoon_47
  refine q_iload_n cx (pc' := 1) 1 rfl dX9_afternoon_0 rfl ?_
  refine q_iconst cx (pc' := 2) ki_m1 dX9_afternoon_1 rfl ?_
  refine q_icmp_ne cx (pc' := 5) (tgt := 12) dX9_afternoon_2 (by decide) rfl (fun c2 => ?_) (fun c2 => ?_)
  · replace h := ine c2 h
    refine q_aload_n cx (pc' := 13) 0 rfl dX9_afternoon_12 rfl ?_
    refine q_iload_n cx (pc' := 14) 1 rfl dX9_afternoon_13 rfl ?_
    refine q_iconst cx (pc' := 15) ki_0 dX9_afternoon_14 rfl ?_
    refine q_iconst cx (pc' := 16) ki_2 dX9_afternoon_15 rfl ?_
    refine q_callV cx (pc' := 19) (S := []) (S1 := [.int (fn_X9_in p1 0 2)]) (kc' := 0) (ks' := 0) 9 (ct_X9_in Γ l M ths p1 0 2 ht0) lki_X9_in lkv_X9_in lkc_X9_224 ht0 (r := (RX9, TX9, 70)) ⟨rfl, by decide, rfl⟩ rfl rfl (Nat.le_of_ble_eq_true rfl) ⟨(Nat.le_of_ble_eq_true rfl), (Nat.le_of_ble_eq_true rfl)⟩ ⟨(Nat.le_of_ble_eq_true rfl), (Nat.le_of_ble_eq_true rfl)⟩ dX9_afternoon_16 rfl rfl rfl ?_
    refine q_if_eq cx (pc' := 22) (tgt := 34) dX9_afternoon_19 (by decide) rfl (fun c19 => ?_) (fun c19 => ?_)
    · replace h := ip c19 h
      refine q_iconst cx (pc' := 35) ki_m1 dX9_afternoon_34 rfl ?_
      obtain ⟨rfl, rfl⟩ := o2_i h
      rw [hQ]
      exact q_iret cx dX9_afternoon_35
    · replace h := ine c19 h
      refine q_iload_n cx (pc' := 23) 1 rfl dX9_afternoon_22 rfl ?_
      refine q_if_le cx (pc' := 26) (tgt := 36) dX9_afternoon_23 (by decide) rfl (fun c23 => ?_) (fun c23 => ?_)
      · replace h := ip c23 h
        refine q_sub cx [0, 1, 2] rfl ?_
        exact hj36 _ h
      · replace h := ine c23 h
        refine q_aload_n cx (pc' := 27) 0 rfl dX9_afternoon_26 rfl ?_
        refine q_iload_n cx (pc' := 28) 2 rfl dX9_afternoon_27 rfl ?_
        refine q_callV cx (pc' := 31) (S := []) (S1 := [.int (fn_X9_isCell p2)]) (kc' := 0) (ks' := 0) 9 (ct_X9_isCell Γ l M ths p2 ht0) lki_X9_isCell lkv_X9_isCell lkc_X9_232 ht0 (r := (RX9, TX9, 70)) ⟨rfl, by decide, rfl⟩ rfl rfl (Nat.le_of_ble_eq_true rfl) ⟨(Nat.le_of_ble_eq_true rfl), (Nat.le_of_ble_eq_true rfl)⟩ ⟨(Nat.le_of_ble_eq_true rfl), (Nat.le_of_ble_eq_true rfl)⟩ dX9_afternoon_28 rfl rfl rfl ?_
        refine q_if_ne cx (pc' := 34) (tgt := 36) dX9_afternoon_31 (by decide) rfl (fun c31 => ?_) (fun c31 => ?_)
        · replace h := ine c31 h
          refine q_sub cx [0, 1, 2] rfl ?_
          exact hj36 _ h
        · replace h := ip c31 h
          refine q_iconst cx (pc' := 35) ki_m1 dX9_afternoon_34 rfl ?_
          obtain ⟨rfl, rfl⟩ := o2_i h
          rw [hQ]
          exact q_iret cx dX9_afternoon_35
  · replace h := ip c2 h
    refine q_aload_n cx (pc' := 6) 0 rfl dX9_afternoon_5 rfl ?_
    refine q_iconst cx (pc' := 7) ki_0 dX9_afternoon_6 rfl ?_
    obtain ⟨ht7, M7, eM7, h⟩ := pI_i h
    refine q_pI cx (pc' := 10) 9 38 fl_X9_126 rfl ht7 (ty := .int) ⟨(RX9, TX9, 70), rfl, by decide +kernel, Or.inl rfl⟩ rfl rfl eM7 dX9_afternoon_7 rfl ?_
    refine q_iconst cx (pc' := 11) ki_0 dX9_afternoon_10 rfl ?_
    obtain ⟨rfl, rfl⟩ := o2_i h
    rw [hQ]
    exact q_iret cx dX9_afternoon_11

abbrev rm_X9_goAfternoon : Room := { frames := 6, cells := 0, slots := 0, locals := 155 }
def jn_X9_goAfternoon_24 (ths : Nat) (p1 : Int32) (p2 : Int32) (Mj_24 : QM) : Option QM :=
  if p1 = 2 then
    if 3 ≤ (p2 - p2 / 4 * 4) then
      some Mj_24
    else
      ck Mj_24 ths 9 <|
      bnd (fn_X9_stirs Mj_24 ths p2 (p2 + 1)) fun M41 =>
      some M41
  else
    some Mj_24
def jn_X9_goAfternoon_8 (ths : Nat) (p1 : Int32) (p2 : Int32) (Mj_8 : QM) : Option QM :=
  if p1 = 1 then
    gR Mj_8 ths 9 2 fun r14 =>
    ck Mj_8 ths 9 <|
    bnd (fn_X9_milkOf Mj_8 ths p2) fun c20 =>
    wI Mj_8 20 r14 p2 c20 fun M23 =>
    jn_X9_goAfternoon_24 ths p1 p2 M23
  else
    jn_X9_goAfternoon_24 ths p1 p2 Mj_8
def fn_X9_goAfternoon (M : QM) (ths : Nat) (p1 : Int32) (p2 : Int32) : Option QM :=
  if p1 = 0 then
    bnd (fn_X9_goMinute M ths) fun M5 =>
    jn_X9_goAfternoon_8 ths p1 p2 M5
  else
    jn_X9_goAfternoon_8 ths p1 p2 M
set_option maxRecDepth 100000 in
set_option maxHeartbeats 4000000 in
theorem ct_X9_goAfternoon (Γ : GT) (l : Launch) (M : QM) (ths : Nat) (p1 : Int32) (p2 : Int32) (ht0 : mt M ths = 9) (M' : QM) (h : fn_X9_goAfternoon M ths p1 p2 = some M') : CT Γ l yX9_goAfternoon cX9_goAfternoon 3 none rm_X9_goAfternoon (.ref ths :: [.int p1, .int p2]) M none M' := by
  refine ct_intro (own := RX9) (L := [(0, .ref ths), (1, .int p1), (2, .int p2)]) (by decide +kernel) rfl (Nat.le_of_ble_eq_true rfl) rfl ?_
  intro p e s m args below meth c Q hQ cx hnm
  unfold fn_X9_goAfternoon at h
  have hj24 : ∀ (Mj_24 : QM), jn_X9_goAfternoon_24 ths p1 p2 Mj_24 = some M' → EE p l e rm_X9_goAfternoon s m args below meth c Q Γ 3 0 0 24 [(0, .ref ths), (1, .int p1), (2, .int p2)] [] Mj_24 := by
    intro Mj_24 h
    unfold jn_X9_goAfternoon_24 at h
    refine q_iload_n cx (pc' := 25) 1 rfl dX9_goAfternoon_24 rfl ?_
    refine q_iconst cx (pc' := 26) ki_2 dX9_goAfternoon_25 rfl ?_
    refine q_icmp_ne cx (pc' := 29) (tgt := 44) dX9_goAfternoon_26 (by decide) rfl (fun c26 => ?_) (fun c26 => ?_)
    · replace h := ine c26 h
      obtain rfl := o1_i h
      rw [hQ]
      exact q_vret cx dX9_goAfternoon_44
    · replace h := ip c26 h
      refine q_iload_n cx (pc' := 30) 2 rfl dX9_goAfternoon_29 rfl ?_
      refine q_iconst cx (pc' := 31) ki_4 dX9_goAfternoon_30 rfl ?_
      refine q_irem cx (pc' := 32) (by decide) dX9_goAfternoon_31 rfl ?_
      refine q_iconst cx (pc' := 33) ki_3 dX9_goAfternoon_32 rfl ?_
      refine q_icmp_ge cx (pc' := 36) (tgt := 44) dX9_goAfternoon_33 (by decide) rfl (fun c33 => ?_) (fun c33 => ?_)
      · replace h := ip c33 h
        obtain rfl := o1_i h
        rw [hQ]
        exact q_vret cx dX9_goAfternoon_44
      · replace h := ine c33 h
        refine q_aload_n cx (pc' := 37) 0 rfl dX9_goAfternoon_36 rfl ?_
        refine q_iload_n cx (pc' := 38) 2 rfl dX9_goAfternoon_37 rfl ?_
        refine q_iload_n cx (pc' := 39) 2 rfl dX9_goAfternoon_38 rfl ?_
        refine q_iconst cx (pc' := 40) ki_1 dX9_goAfternoon_39 rfl ?_
        refine q_iadd cx (pc' := 41) dX9_goAfternoon_40 rfl ?_
        obtain ⟨hk41, h⟩ := ck_i h
        obtain ⟨M41, hc41, h⟩ := bnd_i h
        refine q_callV cx (pc' := 44) (S := []) (S1 := []) (kc' := 0) (ks' := 0) 9 (ct_X9_stirs Γ l Mj_24 ths p2 (p2 + 1) hk41 _ hc41) lki_X9_stirs lkv_X9_stirs lkc_X9_249 hk41 (r := (RX9, TX9, 70)) ⟨rfl, by decide, rfl⟩ rfl rfl (Nat.le_of_ble_eq_true rfl) ⟨(Nat.le_of_ble_eq_true rfl), (Nat.le_of_ble_eq_true rfl)⟩ ⟨(Nat.le_of_ble_eq_true rfl), (Nat.le_of_ble_eq_true rfl)⟩ dX9_goAfternoon_41 rfl rfl rfl ?_
        obtain rfl := o1_i h
        rw [hQ]
        exact q_vret cx dX9_goAfternoon_44
  have hj8 : ∀ (Mj_8 : QM), jn_X9_goAfternoon_8 ths p1 p2 Mj_8 = some M' → EE p l e rm_X9_goAfternoon s m args below meth c Q Γ 3 0 0 8 [(0, .ref ths), (1, .int p1), (2, .int p2)] [] Mj_8 := by
    intro Mj_8 h
    unfold jn_X9_goAfternoon_8 at h
    refine q_iload_n cx (pc' := 9) 1 rfl dX9_goAfternoon_8 rfl ?_
    refine q_iconst cx (pc' := 10) ki_1 dX9_goAfternoon_9 rfl ?_
    refine q_icmp_ne cx (pc' := 13) (tgt := 24) dX9_goAfternoon_10 (by decide) rfl (fun c10 => ?_) (fun c10 => ?_)
    · replace h := ine c10 h
      refine q_sub cx [0, 1, 2] rfl ?_
      exact hj24 _ h
    · replace h := ip c10 h
      refine q_aload_n cx (pc' := 14) 0 rfl dX9_goAfternoon_13 rfl ?_
      obtain ⟨ht14, r14, ex14, h⟩ := gR_i h
      refine q_gR cx (pc' := 17) 9 2 fl_X9_16 rfl ht14 ex14 dX9_goAfternoon_14 rfl ?_
      refine q_iload_n cx (pc' := 18) 2 rfl dX9_goAfternoon_17 rfl ?_
      refine q_aload_n cx (pc' := 19) 0 rfl dX9_goAfternoon_18 rfl ?_
      refine q_iload_n cx (pc' := 20) 2 rfl dX9_goAfternoon_19 rfl ?_
      obtain ⟨hk20, h⟩ := ck_i h
      obtain ⟨c20, hc20, h⟩ := bnd_i h
      refine q_callV cx (pc' := 23) (S := [.int p2, .ref r14]) (S1 := [.int c20, .int p2, .ref r14]) (kc' := 0) (ks' := 0) 9 (ct_X9_milkOf Γ l Mj_8 ths p2 hk20 _ hc20) lki_X9_milkOf lkv_X9_milkOf lkc_X9_348 hk20 (r := (RX9, TX9, 70)) ⟨rfl, by decide, rfl⟩ rfl rfl (Nat.le_of_ble_eq_true rfl) ⟨(Nat.le_of_ble_eq_true rfl), (Nat.le_of_ble_eq_true rfl)⟩ ⟨(Nat.le_of_ble_eq_true rfl), (Nat.le_of_ble_eq_true rfl)⟩ dX9_goAfternoon_20 rfl rfl rfl ?_
      obtain ⟨ht23, hi23, M23, eM23, h⟩ := wI_i h
      refine q_iast cx (pc' := 24) ht23 hi23 eM23 dX9_goAfternoon_23 rfl ?_
      refine q_sub cx [0, 1, 2] rfl ?_
      exact hj24 _ h
  refine q_iload_n cx (pc' := 1) 1 rfl dX9_goAfternoon_0 rfl ?_
  refine q_if_ne cx (pc' := 4) (tgt := 8) dX9_goAfternoon_1 (by decide) rfl (fun c1 => ?_) (fun c1 => ?_)
  · replace h := ine c1 h
    refine q_sub cx [0, 1, 2] rfl ?_
    exact hj8 _ h
  · replace h := ip c1 h
    refine q_aload_n cx (pc' := 5) 0 rfl dX9_goAfternoon_4 rfl ?_
    obtain ⟨M5, hc5, h⟩ := bnd_i h
    refine q_callV cx (pc' := 8) (S := []) (S1 := []) (kc' := 0) (ks' := 0) 9 (ct_X9_goMinute Γ l M ths ht0 _ hc5) lki_X9_goMinute lkv_X9_goMinute lkc_X9_364 ht0 (r := (RX9, TX9, 70)) ⟨rfl, by decide, rfl⟩ rfl rfl (Nat.le_of_ble_eq_true rfl) ⟨(Nat.le_of_ble_eq_true rfl), (Nat.le_of_ble_eq_true rfl)⟩ ⟨(Nat.le_of_ble_eq_true rfl), (Nat.le_of_ble_eq_true rfl)⟩ dX9_goAfternoon_5 rfl rfl rfl ?_
    refine q_sub cx [0, 1, 2] rfl ?_
    exact hj8 _ h

abbrev rm_X9_ends : Room := { frames := 9, cells := 0, slots := 0, locals := 219 }
def lp_X9_ends_18 (ths : Nat) (w2_18 : Int32) (Mw_18 : QM) : Option ((Int32 × QM) ⊕ (QM)) :=
  gI Mw_18 ths 9 38 fun x20 =>
  if x20 ≤ w2_18 then
    some (.inr Mw_18)
  else
    gR Mw_18 ths 9 40 fun r28 =>
    aI Mw_18 20 r28 w2_18 fun x32 =>
    gR Mw_18 ths 9 41 fun r34 =>
    aI Mw_18 20 r34 w2_18 fun x38 =>
    ck Mw_18 ths 9 <|
    bnd (fn_X9_goAfternoon Mw_18 ths x32 x38) fun M39 =>
    nm (w2_18 + 1) fun v2_42 =>
    some (.inl (v2_42, M39))
def fn_X9_ends (M : QM) (ths : Nat) (p1 : Int32) : Option (Int32 × QM) :=
  if (fn_X9_in p1 0 1) = 0 then
    some ((-1), M)
  else
    bnd (fn_X9_save M ths) fun M13 =>
    bnd (itr (fun s18 : Int32 × QM => lp_X9_ends_18 ths s18.1 s18.2) FU (0, M13)) fun Me_18 =>
    if p1 = 0 then
      ck Me_18 ths 9 <|
      bnd (fn_X9_crossers Me_18 ths) fun y53 =>
      pr2 y53 fun c53 M53 =>
      ck M53 ths 9 <|
      bnd (fn_X9_putBack M53 ths) fun M65 =>
      some (c53, M65)
    else
      ck Me_18 ths 9 <|
      bnd (fn_X9_allStrong Me_18 ths) fun c60 =>
      ck Me_18 ths 9 <|
      bnd (fn_X9_putBack Me_18 ths) fun M65 =>
      some (c60, M65)
set_option maxRecDepth 100000 in
set_option maxHeartbeats 4000000 in
theorem ct_X9_ends (Γ : GT) (l : Launch) (M : QM) (ths : Nat) (p1 : Int32) (ht0 : mt M ths = 9) (z : Int32) (M' : QM) (h : fn_X9_ends M ths p1 = some (z, M')) : CT Γ l yX9_ends cX9_ends 3 (some .int) rm_X9_ends (.ref ths :: [.int p1]) M (some (.int z)) M' := by
  refine ct_intro (own := RX9) (L := [(0, .ref ths), (1, .int p1)]) (by decide +kernel) rfl (Nat.le_of_ble_eq_true rfl) rfl ?_
  intro p e s m args below meth c Q hQ cx hnm
  unfold fn_X9_ends at h
  refine q_aload_n cx (pc' := 1) 0 rfl dX9_ends_0 rfl ?_
  refine q_iload_n cx (pc' := 2) 1 rfl dX9_ends_1 rfl ?_
  refine q_iconst cx (pc' := 3) ki_0 dX9_ends_2 rfl ?_
  refine q_iconst cx (pc' := 4) ki_1 dX9_ends_3 rfl ?_
  refine q_callV cx (pc' := 7) (S := []) (S1 := [.int (fn_X9_in p1 0 1)]) (kc' := 0) (ks' := 0) 9 (ct_X9_in Γ l M ths p1 0 1 ht0) lki_X9_in lkv_X9_in lkc_X9_224 ht0 (r := (RX9, TX9, 70)) ⟨rfl, by decide, rfl⟩ rfl rfl (Nat.le_of_ble_eq_true rfl) ⟨(Nat.le_of_ble_eq_true rfl), (Nat.le_of_ble_eq_true rfl)⟩ ⟨(Nat.le_of_ble_eq_true rfl), (Nat.le_of_ble_eq_true rfl)⟩ dX9_ends_4 rfl rfl rfl ?_
  refine q_if_ne cx (pc' := 10) (tgt := 12) dX9_ends_7 (by decide) rfl (fun c7 => ?_) (fun c7 => ?_)
  · replace h := ine c7 h
    refine q_aload_n cx (pc' := 13) 0 rfl dX9_ends_12 rfl ?_
    obtain ⟨M13, hc13, h⟩ := bnd_i h
    refine q_callV cx (pc' := 16) (S := []) (S1 := []) (kc' := 0) (ks' := 0) 9 (ct_X9_save Γ l M ths ht0 _ hc13) lki_X9_save lkv_X9_save lkc_X9_373 ht0 (r := (RX9, TX9, 70)) ⟨rfl, by decide, rfl⟩ rfl rfl (Nat.le_of_ble_eq_true rfl) ⟨(Nat.le_of_ble_eq_true rfl), (Nat.le_of_ble_eq_true rfl)⟩ ⟨(Nat.le_of_ble_eq_true rfl), (Nat.le_of_ble_eq_true rfl)⟩ dX9_ends_13 rfl rfl rfl ?_
    refine q_iconst cx (pc' := 17) ki_0 dX9_ends_16 rfl ?_
    refine q_istore_n cx (pc' := 18) rfl rfl (by decide) (L' := [(2, .int 0), (0, .ref ths), (1, .int p1)]) rfl dX9_ends_17 rfl ?_
    obtain ⟨r18, hL18, h⟩ := bnd_i h
    have hk18_0 : ∀ (Me_18 : QM), Me_18 = r18 → EE p l e rm_X9_ends s m args below meth c Q Γ 3 0 0 48 [(0, .ref ths), (1, .int p1)] [] Me_18 := by
      intro Me_18 hp
      subst hp
      refine q_iload_n cx (pc' := 49) 1 rfl dX9_ends_48 rfl ?_
      refine q_if_ne cx (pc' := 52) (tgt := 59) dX9_ends_49 (by decide) rfl (fun c49 => ?_) (fun c49 => ?_)
      · replace h := ine c49 h
        refine q_aload_n cx (pc' := 60) 0 rfl dX9_ends_59 rfl ?_
        obtain ⟨hk60, h⟩ := ck_i h
        obtain ⟨c60, hc60, h⟩ := bnd_i h
        refine q_callV cx (pc' := 63) (S := []) (S1 := [.int c60]) (kc' := 0) (ks' := 0) 9 (ct_X9_allStrong Γ l Me_18 ths hk60 _ hc60) lki_X9_allStrong lkv_X9_allStrong lkc_X9_354 hk60 (r := (RX9, TX9, 70)) ⟨rfl, by decide, rfl⟩ rfl rfl (Nat.le_of_ble_eq_true rfl) ⟨(Nat.le_of_ble_eq_true rfl), (Nat.le_of_ble_eq_true rfl)⟩ ⟨(Nat.le_of_ble_eq_true rfl), (Nat.le_of_ble_eq_true rfl)⟩ dX9_ends_60 rfl rfl rfl ?_
        refine q_istore_n cx (pc' := 64) rfl rfl (by decide) (L' := [(2, .int c60), (0, .ref ths), (1, .int p1)]) rfl dX9_ends_63 rfl ?_
        refine q_aload_n cx (pc' := 65) 1 rfl dX9_ends_64 rfl ?_
        obtain ⟨hk65, h⟩ := ck_i h
        obtain ⟨M65, hc65, h⟩ := bnd_i h
        refine q_callV cx (pc' := 68) (S := []) (S1 := []) (kc' := 0) (ks' := 0) 9 (ct_X9_putBack Γ l Me_18 ths hk65 _ hc65) lki_X9_putBack lkv_X9_putBack lkc_X9_376 hk65 (r := (RX9, TX9, 70)) ⟨rfl, by decide, rfl⟩ rfl rfl (Nat.le_of_ble_eq_true rfl) ⟨(Nat.le_of_ble_eq_true rfl), (Nat.le_of_ble_eq_true rfl)⟩ ⟨(Nat.le_of_ble_eq_true rfl), (Nat.le_of_ble_eq_true rfl)⟩ dX9_ends_65 rfl rfl rfl ?_
        refine q_iload_n cx (pc' := 69) 0 rfl dX9_ends_68 rfl ?_
        obtain ⟨rfl, rfl⟩ := o2_i h
        rw [hQ]
        exact q_iret cx dX9_ends_69
      · replace h := ip c49 h
        refine q_aload_n cx (pc' := 53) 0 rfl dX9_ends_52 rfl ?_
        obtain ⟨hk53, h⟩ := ck_i h
        obtain ⟨⟨c53, M53⟩, hc53, h⟩ := bnd_i h
        replace h := pr2_i h
        refine q_callV cx (pc' := 56) (S := []) (S1 := [.int c53]) (kc' := 0) (ks' := 0) 9 (ct_X9_crossers Γ l Me_18 ths hk53 _ _ hc53) lki_X9_crossers lkv_X9_crossers lkc_X9_351 hk53 (r := (RX9, TX9, 70)) ⟨rfl, by decide, rfl⟩ rfl rfl (Nat.le_of_ble_eq_true rfl) ⟨(Nat.le_of_ble_eq_true rfl), (Nat.le_of_ble_eq_true rfl)⟩ ⟨(Nat.le_of_ble_eq_true rfl), (Nat.le_of_ble_eq_true rfl)⟩ dX9_ends_53 rfl rfl rfl ?_
        refine q_goto cx dX9_ends_56 (tgt := 63) (by decide) ?_
        refine q_istore_n cx (pc' := 64) rfl rfl (by decide) (L' := [(2, .int c53), (0, .ref ths), (1, .int p1)]) rfl dX9_ends_63 rfl ?_
        refine q_aload_n cx (pc' := 65) 1 rfl dX9_ends_64 rfl ?_
        obtain ⟨hk65, h⟩ := ck_i h
        obtain ⟨M65, hc65, h⟩ := bnd_i h
        refine q_callV cx (pc' := 68) (S := []) (S1 := []) (kc' := 0) (ks' := 0) 9 (ct_X9_putBack Γ l M53 ths hk65 _ hc65) lki_X9_putBack lkv_X9_putBack lkc_X9_376 hk65 (r := (RX9, TX9, 70)) ⟨rfl, by decide, rfl⟩ rfl rfl (Nat.le_of_ble_eq_true rfl) ⟨(Nat.le_of_ble_eq_true rfl), (Nat.le_of_ble_eq_true rfl)⟩ ⟨(Nat.le_of_ble_eq_true rfl), (Nat.le_of_ble_eq_true rfl)⟩ dX9_ends_65 rfl rfl rfl ?_
        refine q_iload_n cx (pc' := 69) 0 rfl dX9_ends_68 rfl ?_
        obtain ⟨rfl, rfl⟩ := o2_i h
        rw [hQ]
        exact q_iret cx dX9_ends_69
    have key18 : ∀ (n : Nat) (w2_18 : Int32) (Mw_18 : QM), itr (fun s18 : Int32 × QM => lp_X9_ends_18 ths s18.1 s18.2) n (w2_18, Mw_18) = some r18 → EE p l e rm_X9_ends s m args below meth c Q Γ 3 0 0 18 [(0, .ref ths), (1, .int p1), (2, .int w2_18)] [] Mw_18 := by
      intro n
      induction n with
      | zero => intro _ _ h; exact (itr_0 h).elim
      | succ n ih =>
        intro w2_18 Mw_18 h
        obtain ⟨z18, h, hz18⟩ := itr_i h
        replace h : lp_X9_ends_18 ths w2_18 Mw_18 = some z18 := h
        unfold lp_X9_ends_18 at h
        refine q_iload_n cx (pc' := 19) 2 rfl dX9_ends_18 rfl ?_
        refine q_aload_n cx (pc' := 20) 0 rfl dX9_ends_19 rfl ?_
        obtain ⟨ht20, x20, ex20, h⟩ := gI_i h
        refine q_gI cx (pc' := 23) 9 38 fl_X9_126 rfl ht20 ex20 dX9_ends_20 rfl ?_
        refine q_icmp_ge cx (pc' := 26) (tgt := 48) dX9_ends_23 (by decide) rfl (fun c23 => ?_) (fun c23 => ?_)
        · replace h := ip c23 h
          refine q_sub cx [0, 1] rfl ?_
          exact hk18_0 _ (hz18.2 _ h)
        · replace h := ine c23 h
          refine q_aload_n cx (pc' := 27) 0 rfl dX9_ends_26 rfl ?_
          refine q_aload_n cx (pc' := 28) 0 rfl dX9_ends_27 rfl ?_
          obtain ⟨ht28, r28, ex28, h⟩ := gR_i h
          refine q_gR cx (pc' := 31) 9 40 fl_X9_132 rfl ht28 ex28 dX9_ends_28 rfl ?_
          refine q_iload_n cx (pc' := 32) 2 rfl dX9_ends_31 rfl ?_
          obtain ⟨ht32, hi32, x32, ex32, h⟩ := aI_i h
          refine q_iald cx (pc' := 33) ht32 hi32 ex32 dX9_ends_32 rfl ?_
          refine q_aload_n cx (pc' := 34) 0 rfl dX9_ends_33 rfl ?_
          obtain ⟨ht34, r34, ex34, h⟩ := gR_i h
          refine q_gR cx (pc' := 37) 9 41 fl_X9_135 rfl ht34 ex34 dX9_ends_34 rfl ?_
          refine q_iload_n cx (pc' := 38) 2 rfl dX9_ends_37 rfl ?_
          obtain ⟨ht38, hi38, x38, ex38, h⟩ := aI_i h
          refine q_iald cx (pc' := 39) ht38 hi38 ex38 dX9_ends_38 rfl ?_
          obtain ⟨hk39, h⟩ := ck_i h
          obtain ⟨M39, hc39, h⟩ := bnd_i h
          refine q_callV cx (pc' := 42) (S := []) (S1 := []) (kc' := 0) (ks' := 0) 9 (ct_X9_goAfternoon Γ l Mw_18 ths x32 x38 hk39 _ hc39) lki_X9_goAfternoon lkv_X9_goAfternoon lkc_X9_407 hk39 (r := (RX9, TX9, 70)) ⟨rfl, by decide, rfl⟩ rfl rfl (Nat.le_of_ble_eq_true rfl) ⟨(Nat.le_of_ble_eq_true rfl), (Nat.le_of_ble_eq_true rfl)⟩ ⟨(Nat.le_of_ble_eq_true rfl), (Nat.le_of_ble_eq_true rfl)⟩ dX9_ends_39 rfl rfl rfl ?_
          obtain ⟨v2_42, ev2_42, h⟩ := nm_i h
          refine q_iinc cx (pc' := 45) 2 rfl ki_1 ev2_42 (by decide) (L' := [(2, .int v2_42), (0, .ref ths), (1, .int p1)]) rfl dX9_ends_42 rfl ?_
          refine q_goto cx dX9_ends_45 (tgt := 18) (by decide) ?_
          refine q_sub cx [1, 2, 0] rfl ?_
          exact ih _ _ (hz18.1 _ h)
    refine q_sub cx [1, 2, 0] rfl ?_
    exact key18 FU _ _ hL18
  · replace h := ip c7 h
    refine q_iconst cx (pc' := 11) ki_m1 dX9_ends_10 rfl ?_
    obtain ⟨rfl, rfl⟩ := o2_i h
    rw [hQ]
    exact q_iret cx dX9_ends_11

abbrev rm_X9_book : Room := { frames := 3, cells := 0, slots := 0, locals := 84 }
def fn_X9_book (M : QM) (ths : Nat) (p1 : Int32) (p2 : Int32) : Option (Int32 × QM) :=
  if p1 = (-1) then
    pI M ths 9 39 0 fun M7 =>
    some (0, M7)
  else
    if (fn_X9_isCell p1) = 0 then
      some ((-1), M)
    else
      if (fn_X9_isStrength p2) = 0 then
        some ((-2), M)
      else
        gI M ths 9 39 fun x34 =>
        if x34 = 8 then
          some ((-4), M)
        else
          gR M ths 9 42 fun r46 =>
          gI M ths 9 39 fun x50 =>
          wI M 20 r46 x50 p1 fun M54 =>
          gR M54 ths 9 43 fun r56 =>
          gI M54 ths 9 39 fun x60 =>
          wI M54 20 r56 x60 p2 fun M64 =>
          gI M64 ths 9 39 fun x67 =>
          pI M64 ths 9 39 (x67 + 1) fun M72 =>
          gI M72 ths 9 39 fun x76 =>
          some (x76, M72)
set_option maxRecDepth 100000 in
set_option maxHeartbeats 4000000 in
theorem ct_X9_book (Γ : GT) (l : Launch) (M : QM) (ths : Nat) (p1 : Int32) (p2 : Int32) (ht0 : mt M ths = 9) (z : Int32) (M' : QM) (h : fn_X9_book M ths p1 p2 = some (z, M')) : CT Γ l yX9_book cX9_book 3 (some .int) rm_X9_book (.ref ths :: [.int p1, .int p2]) M (some (.int z)) M' := by
  refine ct_intro (own := RX9) (L := [(0, .ref ths), (1, .int p1), (2, .int p2)]) (by decide +kernel) rfl (Nat.le_of_ble_eq_true rfl) rfl ?_
  intro p e s m args below meth c Q hQ cx hnm
  unfold fn_X9_book at h
  refine q_iload_n cx (pc' := 1) 1 rfl dX9_book_0 rfl ?_
  refine q_iconst cx (pc' := 2) ki_m1 dX9_book_1 rfl ?_
  refine q_icmp_ne cx (pc' := 5) (tgt := 12) dX9_book_2 (by decide) rfl (fun c2 => ?_) (fun c2 => ?_)
  · replace h := ine c2 h
    refine q_aload_n cx (pc' := 13) 0 rfl dX9_book_12 rfl ?_
    refine q_iload_n cx (pc' := 14) 1 rfl dX9_book_13 rfl ?_
    refine q_callV cx (pc' := 17) (S := []) (S1 := [.int (fn_X9_isCell p1)]) (kc' := 0) (ks' := 0) 9 (ct_X9_isCell Γ l M ths p1 ht0) lki_X9_isCell lkv_X9_isCell lkc_X9_232 ht0 (r := (RX9, TX9, 70)) ⟨rfl, by decide, rfl⟩ rfl rfl (Nat.le_of_ble_eq_true rfl) ⟨(Nat.le_of_ble_eq_true rfl), (Nat.le_of_ble_eq_true rfl)⟩ ⟨(Nat.le_of_ble_eq_true rfl), (Nat.le_of_ble_eq_true rfl)⟩ dX9_book_14 rfl rfl rfl ?_
    refine q_if_ne cx (pc' := 20) (tgt := 22) dX9_book_17 (by decide) rfl (fun c17 => ?_) (fun c17 => ?_)
    · replace h := ine c17 h
      refine q_aload_n cx (pc' := 23) 0 rfl dX9_book_22 rfl ?_
      refine q_iload_n cx (pc' := 24) 2 rfl dX9_book_23 rfl ?_
      refine q_callV cx (pc' := 27) (S := []) (S1 := [.int (fn_X9_isStrength p2)]) (kc' := 0) (ks' := 0) 9 (ct_X9_isStrength Γ l M ths p2 ht0) lki_X9_isStrength lkv_X9_isStrength lkc_X9_228 ht0 (r := (RX9, TX9, 70)) ⟨rfl, by decide, rfl⟩ rfl rfl (Nat.le_of_ble_eq_true rfl) ⟨(Nat.le_of_ble_eq_true rfl), (Nat.le_of_ble_eq_true rfl)⟩ ⟨(Nat.le_of_ble_eq_true rfl), (Nat.le_of_ble_eq_true rfl)⟩ dX9_book_24 rfl rfl rfl ?_
      refine q_if_ne cx (pc' := 30) (tgt := 33) dX9_book_27 (by decide) rfl (fun c27 => ?_) (fun c27 => ?_)
      · replace h := ine c27 h
        refine q_aload_n cx (pc' := 34) 0 rfl dX9_book_33 rfl ?_
        obtain ⟨ht34, x34, ex34, h⟩ := gI_i h
        refine q_gI cx (pc' := 37) 9 39 fl_X9_129 rfl ht34 ex34 dX9_book_34 rfl ?_
        refine q_bipush cx (pc' := 39) kb_8 dX9_book_37 rfl ?_
        refine q_icmp_ne cx (pc' := 42) (tgt := 45) dX9_book_39 (by decide) rfl (fun c39 => ?_) (fun c39 => ?_)
        · replace h := ine c39 h
          refine q_aload_n cx (pc' := 46) 0 rfl dX9_book_45 rfl ?_
          obtain ⟨ht46, r46, ex46, h⟩ := gR_i h
          refine q_gR cx (pc' := 49) 9 42 fl_X9_138 rfl ht46 ex46 dX9_book_46 rfl ?_
          refine q_aload_n cx (pc' := 50) 0 rfl dX9_book_49 rfl ?_
          obtain ⟨ht50, x50, ex50, h⟩ := gI_i h
          refine q_gI cx (pc' := 53) 9 39 fl_X9_129 rfl ht50 ex50 dX9_book_50 rfl ?_
          refine q_iload_n cx (pc' := 54) 1 rfl dX9_book_53 rfl ?_
          obtain ⟨ht54, hi54, M54, eM54, h⟩ := wI_i h
          refine q_iast cx (pc' := 55) ht54 hi54 eM54 dX9_book_54 rfl ?_
          refine q_aload_n cx (pc' := 56) 0 rfl dX9_book_55 rfl ?_
          obtain ⟨ht56, r56, ex56, h⟩ := gR_i h
          refine q_gR cx (pc' := 59) 9 43 fl_X9_141 rfl ht56 ex56 dX9_book_56 rfl ?_
          refine q_aload_n cx (pc' := 60) 0 rfl dX9_book_59 rfl ?_
          obtain ⟨ht60, x60, ex60, h⟩ := gI_i h
          refine q_gI cx (pc' := 63) 9 39 fl_X9_129 rfl ht60 ex60 dX9_book_60 rfl ?_
          refine q_iload_n cx (pc' := 64) 2 rfl dX9_book_63 rfl ?_
          obtain ⟨ht64, hi64, M64, eM64, h⟩ := wI_i h
          refine q_iast cx (pc' := 65) ht64 hi64 eM64 dX9_book_64 rfl ?_
          refine q_aload_n cx (pc' := 66) 0 rfl dX9_book_65 rfl ?_
          refine q_dup cx (pc' := 67) rfl dX9_book_66 rfl ?_
          obtain ⟨ht67, x67, ex67, h⟩ := gI_i h
          refine q_gI cx (pc' := 70) 9 39 fl_X9_129 rfl ht67 ex67 dX9_book_67 rfl ?_
          refine q_iconst cx (pc' := 71) ki_1 dX9_book_70 rfl ?_
          refine q_iadd cx (pc' := 72) dX9_book_71 rfl ?_
          obtain ⟨ht72, M72, eM72, h⟩ := pI_i h
          refine q_pI cx (pc' := 75) 9 39 fl_X9_129 rfl ht72 (ty := .int) ⟨(RX9, TX9, 70), rfl, by decide +kernel, Or.inl rfl⟩ rfl rfl eM72 dX9_book_72 rfl ?_
          refine q_aload_n cx (pc' := 76) 0 rfl dX9_book_75 rfl ?_
          obtain ⟨ht76, x76, ex76, h⟩ := gI_i h
          refine q_gI cx (pc' := 79) 9 39 fl_X9_129 rfl ht76 ex76 dX9_book_76 rfl ?_
          obtain ⟨rfl, rfl⟩ := o2_i h
          rw [hQ]
          exact q_iret cx dX9_book_79
        · replace h := ip c39 h
          refine q_bipush cx (pc' := 44) kb_m4 dX9_book_42 rfl ?_
          obtain ⟨rfl, rfl⟩ := o2_i h
          rw [hQ]
          exact q_iret cx dX9_book_44
      · replace h := ip c27 h
        refine q_bipush cx (pc' := 32) kb_m2 dX9_book_30 rfl ?_
        obtain ⟨rfl, rfl⟩ := o2_i h
        rw [hQ]
        exact q_iret cx dX9_book_32
    · replace h := ip c17 h
      refine q_iconst cx (pc' := 21) ki_m1 dX9_book_20 rfl ?_
      obtain ⟨rfl, rfl⟩ := o2_i h
      rw [hQ]
      exact q_iret cx dX9_book_21
  · replace h := ip c2 h
    refine q_aload_n cx (pc' := 6) 0 rfl dX9_book_5 rfl ?_
    refine q_iconst cx (pc' := 7) ki_0 dX9_book_6 rfl ?_
    obtain ⟨ht7, M7, eM7, h⟩ := pI_i h
    refine q_pI cx (pc' := 10) 9 39 fl_X9_129 rfl ht7 (ty := .int) ⟨(RX9, TX9, 70), rfl, by decide +kernel, Or.inl rfl⟩ rfl rfl eM7 dX9_book_7 rfl ?_
    refine q_iconst cx (pc' := 11) ki_0 dX9_book_10 rfl ?_
    obtain ⟨rfl, rfl⟩ := o2_i h
    rw [hQ]
    exact q_iret cx dX9_book_11

abbrev rm_X9_looked : Room := { frames := 1, cells := 0, slots := 0, locals := 40 }
def lp_X9_looked_2 (M : QM) (ths : Nat) (w1_2 : Int32) : Option ((Int32) ⊕ (Int32)) :=
  gI M ths 9 39 fun x4 =>
  if x4 ≤ w1_2 then
    some (.inr (-5))
  else
    gR M ths 9 2 fun r11 =>
    gR M ths 9 42 fun r15 =>
    aI M 20 r15 w1_2 fun x19 =>
    aI M 20 r11 x19 fun x20 =>
    gR M ths 9 43 fun r22 =>
    aI M 20 r22 w1_2 fun x26 =>
    if x20 = x26 then
      nm (w1_2 + 1) fun v1_32 =>
      some (.inl v1_32)
    else
      some (.inr w1_2)
def fn_X9_looked (M : QM) (ths : Nat) : Option Int32 :=
  bnd (itr (fun s2 : Int32 => lp_X9_looked_2 M ths s2) FU 0) fun re_2 =>
  some re_2
set_option maxRecDepth 100000 in
set_option maxHeartbeats 4000000 in
theorem ct_X9_looked (Γ : GT) (l : Launch) (M : QM) (ths : Nat) (ht0 : mt M ths = 9) (z : Int32) (h : fn_X9_looked M ths = some z) : CT Γ l yX9_looked cX9_looked 2 (some .int) rm_X9_looked (.ref ths :: []) M (some (.int z)) M := by
  refine ct_intro (own := RX9) (L := [(0, .ref ths)]) (by decide +kernel) rfl (Nat.le_of_ble_eq_true rfl) rfl ?_
  intro p e s m args below meth c Q hQ cx hnm
  unfold fn_X9_looked at h
  refine q_iconst cx (pc' := 1) ki_0 dX9_looked_0 rfl ?_
  refine q_istore_n cx (pc' := 2) rfl rfl (by decide) (L' := [(1, .int 0), (0, .ref ths)]) rfl dX9_looked_1 rfl ?_
  obtain ⟨r2, hL2, h⟩ := bnd_i h
  have hk2_r : ∀ (re_2 : Int32), re_2 = r2 → some re_2 = some z := by
    intro re_2 hp
    subst hp
    exact h
  have key2 : ∀ (n : Nat) (w1_2 : Int32), itr (fun s2 : Int32 => lp_X9_looked_2 M ths s2) n w1_2 = some r2 → EE p l e rm_X9_looked s m args below meth c Q Γ 2 0 0 2 [(0, .ref ths), (1, .int w1_2)] [] M := by
    intro n
    induction n with
    | zero => intro _ h; exact (itr_0 h).elim
    | succ n ih =>
      intro w1_2 h
      obtain ⟨z2, h, hz2⟩ := itr_i h
      replace h : lp_X9_looked_2 M ths w1_2 = some z2 := h
      unfold lp_X9_looked_2 at h
      refine q_iload_n cx (pc' := 3) 1 rfl dX9_looked_2 rfl ?_
      refine q_aload_n cx (pc' := 4) 0 rfl dX9_looked_3 rfl ?_
      obtain ⟨ht4, x4, ex4, h⟩ := gI_i h
      refine q_gI cx (pc' := 7) 9 39 fl_X9_129 rfl ht4 ex4 dX9_looked_4 rfl ?_
      refine q_icmp_ge cx (pc' := 10) (tgt := 38) dX9_looked_7 (by decide) rfl (fun c7 => ?_) (fun c7 => ?_)
      · replace h := ip c7 h
        refine q_bipush cx (pc' := 40) kb_m5 dX9_looked_38 rfl ?_
        replace h := hk2_r _ (hz2.2 _ h)
        obtain rfl := o1_i h
        rw [hQ]
        exact q_iret cx dX9_looked_40
      · replace h := ine c7 h
        refine q_aload_n cx (pc' := 11) 0 rfl dX9_looked_10 rfl ?_
        obtain ⟨ht11, r11, ex11, h⟩ := gR_i h
        refine q_gR cx (pc' := 14) 9 2 fl_X9_16 rfl ht11 ex11 dX9_looked_11 rfl ?_
        refine q_aload_n cx (pc' := 15) 0 rfl dX9_looked_14 rfl ?_
        obtain ⟨ht15, r15, ex15, h⟩ := gR_i h
        refine q_gR cx (pc' := 18) 9 42 fl_X9_138 rfl ht15 ex15 dX9_looked_15 rfl ?_
        refine q_iload_n cx (pc' := 19) 1 rfl dX9_looked_18 rfl ?_
        obtain ⟨ht19, hi19, x19, ex19, h⟩ := aI_i h
        refine q_iald cx (pc' := 20) ht19 hi19 ex19 dX9_looked_19 rfl ?_
        obtain ⟨ht20, hi20, x20, ex20, h⟩ := aI_i h
        refine q_iald cx (pc' := 21) ht20 hi20 ex20 dX9_looked_20 rfl ?_
        refine q_aload_n cx (pc' := 22) 0 rfl dX9_looked_21 rfl ?_
        obtain ⟨ht22, r22, ex22, h⟩ := gR_i h
        refine q_gR cx (pc' := 25) 9 43 fl_X9_141 rfl ht22 ex22 dX9_looked_22 rfl ?_
        refine q_iload_n cx (pc' := 26) 1 rfl dX9_looked_25 rfl ?_
        obtain ⟨ht26, hi26, x26, ex26, h⟩ := aI_i h
        refine q_iald cx (pc' := 27) ht26 hi26 ex26 dX9_looked_26 rfl ?_
        refine q_icmp_eq cx (pc' := 30) (tgt := 32) dX9_looked_27 (by decide) rfl (fun c27 => ?_) (fun c27 => ?_)
        · replace h := ip c27 h
          obtain ⟨v1_32, ev1_32, h⟩ := nm_i h
          refine q_iinc cx (pc' := 35) 1 rfl ki_1 ev1_32 (by decide) (L' := [(1, .int v1_32), (0, .ref ths)]) rfl dX9_looked_32 rfl ?_
          refine q_goto cx dX9_looked_35 (tgt := 2) (by decide) ?_
          refine q_sub cx [1, 0] rfl ?_
          exact ih _ (hz2.1 _ h)
        · replace h := ine c27 h
          refine q_iload_n cx (pc' := 31) 1 rfl dX9_looked_30 rfl ?_
          replace h := hk2_r _ (hz2.2 _ h)
          obtain rfl := o1_i h
          rw [hQ]
          exact q_iret cx dX9_looked_31
  refine q_sub cx [1, 0] rfl ?_
  exact key2 FU _ hL2

abbrev rm_X9_isTape : Room := { frames := 2, cells := 0, slots := 0, locals := 63 }
def fn_X9_isTape (p1 : Int32) : Int32 :=
  zb (fn_X9_in p1 0 5)
set_option maxRecDepth 100000 in
set_option maxHeartbeats 4000000 in
theorem ct_X9_isTape (Γ : GT) (l : Launch) (M : QM) (ths : Nat) (p1 : Int32) (ht0 : mt M ths = 9) : CT Γ l yX9_isTape cX9_isTape 2 (some .boolean) rm_X9_isTape (.ref ths :: [.int p1]) M (some (.int (fn_X9_isTape p1))) M := by
  generalize h : fn_X9_isTape p1 = z
  refine ct_intro (own := RX9) (L := [(0, .ref ths), (1, .int p1)]) (by decide +kernel) rfl (Nat.le_of_ble_eq_true rfl) rfl ?_
  intro p e s m args below meth c Q hQ cx hnm
  unfold fn_X9_isTape at h
  refine q_aload_n cx (pc' := 1) 0 rfl dX9_isTape_0 rfl ?_
  refine q_iload_n cx (pc' := 2) 1 rfl dX9_isTape_1 rfl ?_
  refine q_iconst cx (pc' := 3) ki_0 dX9_isTape_2 rfl ?_
  refine q_iconst cx (pc' := 4) ki_5 dX9_isTape_3 rfl ?_
  refine q_callV cx (pc' := 7) (S := []) (S1 := [.int (fn_X9_in p1 0 5)]) (kc' := 0) (ks' := 0) 9 (ct_X9_in Γ l M ths p1 0 5 ht0) lki_X9_in lkv_X9_in lkc_X9_224 ht0 (r := (RX9, TX9, 70)) ⟨rfl, by decide, rfl⟩ rfl rfl (Nat.le_of_ble_eq_true rfl) ⟨(Nat.le_of_ble_eq_true rfl), (Nat.le_of_ble_eq_true rfl)⟩ ⟨(Nat.le_of_ble_eq_true rfl), (Nat.le_of_ble_eq_true rfl)⟩ dX9_isTape_4 rfl rfl rfl ?_
  subst h
  rw [hQ]
  exact q_nret cx rfl dX9_isTape_7

abbrev rm_X9_judge : Room := { frames := 3, cells := 0, slots := 0, locals := 84 }
def lp_X9_judge_24 (M : QM) (ths : Nat) (p1 : Int32) (p2 : Int32) (w3_24 : Int32) : Option ((Int32) ⊕ (Int32)) :=
  if 16 ≤ w3_24 then
    some (.inr (-5))
  else
    gR M ths 9 66 fun r31 =>
    aI M 20 r31 p1 fun x35 =>
    if x35 < 0 then
      some (.inr (100 + w3_24))
    else
      if p2 < 0 then
        some (.inr (100 + w3_24))
      else
        gR M ths 9 67 fun r45 =>
        aI M 20 r45 p1 fun x49 =>
        if p2 ≤ ((x49 - w3_24) - 1) then
          gR M ths 9 68 fun r63 =>
          aJ M r63 (((60 * p1) + p2) + w3_24) fun x74 =>
          gR M ths 9 2 fun r76 =>
          aI M 20 r76 w3_24 fun x80 =>
          if (lg_cmp x74 x80.toInt64) = 0 then
            nm (w3_24 + 1) fun v3_88 =>
            some (.inl v3_88)
          else
            some (.inr w3_24)
        else
          some (.inr (100 + w3_24))
def fn_X9_judge (M : QM) (ths : Nat) (p1 : Int32) (p2 : Int32) : Option Int32 :=
  if (fn_X9_isTape p1) = 0 then
    some (-1)
  else
    gR M ths 9 66 fun r11 =>
    aI M 20 r11 p1 fun x15 =>
    if x15 ≤ 0 then
      bnd (itr (fun s24 : Int32 => lp_X9_judge_24 M ths p1 p2 s24) FU 0) fun re_24 =>
      some re_24
    else
      some (-12)
set_option maxRecDepth 100000 in
set_option maxHeartbeats 4000000 in
theorem ct_X9_judge (Γ : GT) (l : Launch) (M : QM) (ths : Nat) (p1 : Int32) (p2 : Int32) (ht0 : mt M ths = 9) (z : Int32) (h : fn_X9_judge M ths p1 p2 = some z) : CT Γ l yX9_judge cX9_judge 4 (some .int) rm_X9_judge (.ref ths :: [.int p1, .int p2]) M (some (.int z)) M := by
  refine ct_intro (own := RX9) (L := [(0, .ref ths), (1, .int p1), (2, .int p2)]) (by decide +kernel) rfl (Nat.le_of_ble_eq_true rfl) rfl ?_
  intro p e s m args below meth c Q hQ cx hnm
  unfold fn_X9_judge at h
  refine q_aload_n cx (pc' := 1) 0 rfl dX9_judge_0 rfl ?_
  refine q_iload_n cx (pc' := 2) 1 rfl dX9_judge_1 rfl ?_
  refine q_callV cx (pc' := 5) (S := []) (S1 := [.int (fn_X9_isTape p1)]) (kc' := 0) (ks' := 0) 9 (ct_X9_isTape Γ l M ths p1 ht0) lki_X9_isTape lkv_X9_isTape lkc_X9_410 ht0 (r := (RX9, TX9, 70)) ⟨rfl, by decide, rfl⟩ rfl rfl (Nat.le_of_ble_eq_true rfl) ⟨(Nat.le_of_ble_eq_true rfl), (Nat.le_of_ble_eq_true rfl)⟩ ⟨(Nat.le_of_ble_eq_true rfl), (Nat.le_of_ble_eq_true rfl)⟩ dX9_judge_2 rfl rfl rfl ?_
  refine q_if_ne cx (pc' := 8) (tgt := 10) dX9_judge_5 (by decide) rfl (fun c5 => ?_) (fun c5 => ?_)
  · replace h := ine c5 h
    refine q_aload_n cx (pc' := 11) 0 rfl dX9_judge_10 rfl ?_
    obtain ⟨ht11, r11, ex11, h⟩ := gR_i h
    refine q_gR cx (pc' := 14) 9 66 fl_X9_211 rfl ht11 ex11 dX9_judge_11 rfl ?_
    refine q_iload_n cx (pc' := 15) 1 rfl dX9_judge_14 rfl ?_
    obtain ⟨ht15, hi15, x15, ex15, h⟩ := aI_i h
    refine q_iald cx (pc' := 16) ht15 hi15 ex15 dX9_judge_15 rfl ?_
    refine q_if_le cx (pc' := 19) (tgt := 22) dX9_judge_16 (by decide) rfl (fun c16 => ?_) (fun c16 => ?_)
    · replace h := ip c16 h
      refine q_iconst cx (pc' := 23) ki_0 dX9_judge_22 rfl ?_
      refine q_istore_n cx (pc' := 24) rfl rfl (by decide) (L' := [(3, .int 0), (0, .ref ths), (1, .int p1), (2, .int p2)]) rfl dX9_judge_23 rfl ?_
      obtain ⟨r24, hL24, h⟩ := bnd_i h
      have hk24_r : ∀ (re_24 : Int32), re_24 = r24 → some re_24 = some z := by
        intro re_24 hp
        subst hp
        exact h
      have key24 : ∀ (n : Nat) (w3_24 : Int32), itr (fun s24 : Int32 => lp_X9_judge_24 M ths p1 p2 s24) n w3_24 = some r24 → EE p l e rm_X9_judge s m args below meth c Q Γ 4 0 0 24 [(0, .ref ths), (1, .int p1), (2, .int p2), (3, .int w3_24)] [] M := by
        intro n
        induction n with
        | zero => intro _ h; exact (itr_0 h).elim
        | succ n ih =>
          intro w3_24 h
          obtain ⟨z24, h, hz24⟩ := itr_i h
          replace h : lp_X9_judge_24 M ths p1 p2 w3_24 = some z24 := h
          unfold lp_X9_judge_24 at h
          refine q_iload_n cx (pc' := 25) 3 rfl dX9_judge_24 rfl ?_
          refine q_bipush cx (pc' := 27) kb_16 dX9_judge_25 rfl ?_
          refine q_icmp_ge cx (pc' := 30) (tgt := 94) dX9_judge_27 (by decide) rfl (fun c27 => ?_) (fun c27 => ?_)
          · replace h := ip c27 h
            refine q_bipush cx (pc' := 96) kb_m5 dX9_judge_94 rfl ?_
            replace h := hk24_r _ (hz24.2 _ h)
            obtain rfl := o1_i h
            rw [hQ]
            exact q_iret cx dX9_judge_96
          · replace h := ine c27 h
            refine q_aload_n cx (pc' := 31) 0 rfl dX9_judge_30 rfl ?_
            obtain ⟨ht31, r31, ex31, h⟩ := gR_i h
            refine q_gR cx (pc' := 34) 9 66 fl_X9_211 rfl ht31 ex31 dX9_judge_31 rfl ?_
            refine q_iload_n cx (pc' := 35) 1 rfl dX9_judge_34 rfl ?_
            obtain ⟨ht35, hi35, x35, ex35, h⟩ := aI_i h
            refine q_iald cx (pc' := 36) ht35 hi35 ex35 dX9_judge_35 rfl ?_
            refine q_if_lt cx (pc' := 39) (tgt := 57) dX9_judge_36 (by decide) rfl (fun c36 => ?_) (fun c36 => ?_)
            · replace h := ip c36 h
              refine q_bipush cx (pc' := 59) kb_100 dX9_judge_57 rfl ?_
              refine q_iload_n cx (pc' := 60) 3 rfl dX9_judge_59 rfl ?_
              refine q_iadd cx (pc' := 61) dX9_judge_60 rfl ?_
              replace h := hk24_r _ (hz24.2 _ h)
              obtain rfl := o1_i h
              rw [hQ]
              exact q_iret cx dX9_judge_61
            · replace h := ine c36 h
              refine q_iload_n cx (pc' := 40) 2 rfl dX9_judge_39 rfl ?_
              refine q_if_lt cx (pc' := 43) (tgt := 57) dX9_judge_40 (by decide) rfl (fun c40 => ?_) (fun c40 => ?_)
              · replace h := ip c40 h
                refine q_bipush cx (pc' := 59) kb_100 dX9_judge_57 rfl ?_
                refine q_iload_n cx (pc' := 60) 3 rfl dX9_judge_59 rfl ?_
                refine q_iadd cx (pc' := 61) dX9_judge_60 rfl ?_
                replace h := hk24_r _ (hz24.2 _ h)
                obtain rfl := o1_i h
                rw [hQ]
                exact q_iret cx dX9_judge_61
              · replace h := ine c40 h
                refine q_iload_n cx (pc' := 44) 2 rfl dX9_judge_43 rfl ?_
                refine q_aload_n cx (pc' := 45) 0 rfl dX9_judge_44 rfl ?_
                obtain ⟨ht45, r45, ex45, h⟩ := gR_i h
                refine q_gR cx (pc' := 48) 9 67 fl_X9_214 rfl ht45 ex45 dX9_judge_45 rfl ?_
                refine q_iload_n cx (pc' := 49) 1 rfl dX9_judge_48 rfl ?_
                obtain ⟨ht49, hi49, x49, ex49, h⟩ := aI_i h
                refine q_iald cx (pc' := 50) ht49 hi49 ex49 dX9_judge_49 rfl ?_
                refine q_iload_n cx (pc' := 51) 3 rfl dX9_judge_50 rfl ?_
                refine q_isub cx (pc' := 52) dX9_judge_51 rfl ?_
                refine q_iconst cx (pc' := 53) ki_1 dX9_judge_52 rfl ?_
                refine q_isub cx (pc' := 54) dX9_judge_53 rfl ?_
                refine q_icmp_le cx (pc' := 57) (tgt := 62) dX9_judge_54 (by decide) rfl (fun c54 => ?_) (fun c54 => ?_)
                · replace h := ip c54 h
                  refine q_aload_n cx (pc' := 63) 0 rfl dX9_judge_62 rfl ?_
                  obtain ⟨ht63, r63, ex63, h⟩ := gR_i h
                  refine q_gR cx (pc' := 66) 9 68 fl_X9_217 rfl ht63 ex63 dX9_judge_63 rfl ?_
                  refine q_bipush cx (pc' := 68) kb_60 dX9_judge_66 rfl ?_
                  refine q_iload_n cx (pc' := 69) 1 rfl dX9_judge_68 rfl ?_
                  refine q_imul cx (pc' := 70) dX9_judge_69 rfl ?_
                  refine q_iload_n cx (pc' := 71) 2 rfl dX9_judge_70 rfl ?_
                  refine q_iadd cx (pc' := 72) dX9_judge_71 rfl ?_
                  refine q_iload_n cx (pc' := 73) 3 rfl dX9_judge_72 rfl ?_
                  refine q_iadd cx (pc' := 74) dX9_judge_73 rfl ?_
                  obtain ⟨ht74, hi74, x74, ex74, h⟩ := aJ_i h
                  refine q_lald cx (pc' := 75) ht74 hi74 ex74 dX9_judge_74 rfl ?_
                  refine q_aload_n cx (pc' := 76) 0 rfl dX9_judge_75 rfl ?_
                  obtain ⟨ht76, r76, ex76, h⟩ := gR_i h
                  refine q_gR cx (pc' := 79) 9 2 fl_X9_16 rfl ht76 ex76 dX9_judge_76 rfl ?_
                  refine q_iload_n cx (pc' := 80) 3 rfl dX9_judge_79 rfl ?_
                  obtain ⟨ht80, hi80, x80, ex80, h⟩ := aI_i h
                  refine q_iald cx (pc' := 81) ht80 hi80 ex80 dX9_judge_80 rfl ?_
                  refine q_i2l cx (pc' := 82) dX9_judge_81 rfl ?_
                  refine q_lcmp cx (pc' := 83) dX9_judge_82 rfl ?_
                  refine q_if_eq cx (pc' := 86) (tgt := 88) dX9_judge_83 (by decide) rfl (fun c83 => ?_) (fun c83 => ?_)
                  · replace h := ip c83 h
                    obtain ⟨v3_88, ev3_88, h⟩ := nm_i h
                    refine q_iinc cx (pc' := 91) 3 rfl ki_1 ev3_88 (by decide) (L' := [(3, .int v3_88), (0, .ref ths), (1, .int p1), (2, .int p2)]) rfl dX9_judge_88 rfl ?_
                    refine q_goto cx dX9_judge_91 (tgt := 24) (by decide) ?_
                    refine q_sub cx [1, 2, 3, 0] rfl ?_
                    exact ih _ (hz24.1 _ h)
                  · replace h := ine c83 h
                    refine q_iload_n cx (pc' := 87) 3 rfl dX9_judge_86 rfl ?_
                    replace h := hk24_r _ (hz24.2 _ h)
                    obtain rfl := o1_i h
                    rw [hQ]
                    exact q_iret cx dX9_judge_87
                · replace h := ine c54 h
                  refine q_bipush cx (pc' := 59) kb_100 dX9_judge_57 rfl ?_
                  refine q_iload_n cx (pc' := 60) 3 rfl dX9_judge_59 rfl ?_
                  refine q_iadd cx (pc' := 61) dX9_judge_60 rfl ?_
                  replace h := hk24_r _ (hz24.2 _ h)
                  obtain rfl := o1_i h
                  rw [hQ]
                  exact q_iret cx dX9_judge_61
      refine q_sub cx [1, 2, 3, 0] rfl ?_
      exact key24 FU _ hL24
    · replace h := ine c16 h
      refine q_bipush cx (pc' := 21) kb_m12 dX9_judge_19 rfl ?_
      obtain rfl := o1_i h
      rw [hQ]
      exact q_iret cx dX9_judge_21
  · replace h := ip c5 h
    refine q_iconst cx (pc' := 9) ki_m1 dX9_judge_8 rfl ?_
    obtain rfl := o1_i h
    rw [hQ]
    exact q_iret cx dX9_judge_9

abbrev rm_X9_image : Room := { frames := 1, cells := 0, slots := 0, locals := 40 }
def lp_X9_image_63 (ths : Nat) (w1_63 : Int32) (Mw_63 : QM) : Option ((Int32 × QM) ⊕ (QM)) :=
  if 16 ≤ w1_63 then
    some (.inr Mw_63)
  else
    gR Mw_63 ths 9 52 fun r70 =>
    gR Mw_63 ths 9 2 fun r75 =>
    aI Mw_63 20 r75 w1_63 fun x79 =>
    wI Mw_63 20 r70 w1_63 x79 fun M80 =>
    nm (w1_63 + 1) fun v1_81 =>
    some (.inl (v1_81, M80))
def lp_X9_image_89 (ths : Nat) (w1_89 : Int32) (Mw_89 : QM) : Option ((Int32 × QM) ⊕ (QM)) :=
  if 5 ≤ w1_89 then
    some (.inr Mw_89)
  else
    gR Mw_89 ths 9 53 fun r95 =>
    gR Mw_89 ths 9 3 fun r100 =>
    aI Mw_89 20 r100 w1_89 fun x104 =>
    wI Mw_89 20 r95 w1_89 x104 fun M105 =>
    gR M105 ths 9 54 fun r107 =>
    gR M105 ths 9 4 fun r112 =>
    aI M105 20 r112 w1_89 fun x116 =>
    wI M105 20 r107 w1_89 x116 fun M117 =>
    gR M117 ths 9 55 fun r119 =>
    gR M117 ths 9 5 fun r124 =>
    aI M117 20 r124 w1_89 fun x128 =>
    wI M117 20 r119 w1_89 x128 fun M129 =>
    gR M129 ths 9 57 fun r131 =>
    gR M129 ths 9 34 fun r136 =>
    aI M129 20 r136 w1_89 fun x140 =>
    wI M129 20 r131 w1_89 x140 fun M141 =>
    gR M141 ths 9 63 fun r143 =>
    gR M141 ths 9 37 fun r148 =>
    aI M141 21 r148 w1_89 fun x152 =>
    wI M141 21 r143 w1_89 (zb x152) fun M153 =>
    gR M153 ths 9 58 fun r155 =>
    gR M153 ths 9 35 fun r160 =>
    aI M153 20 r160 w1_89 fun x164 =>
    wI M153 20 r155 w1_89 x164 fun M165 =>
    nm (w1_89 + 1) fun v1_166 =>
    some (.inl (v1_166, M165))
def lp_X9_image_174 (ths : Nat) (w1_174 : Int32) (Mw_174 : QM) : Option ((Int32 × QM) ⊕ (QM)) :=
  if 20 ≤ w1_174 then
    some (.inr Mw_174)
  else
    gR Mw_174 ths 9 56 fun r181 =>
    gR Mw_174 ths 9 6 fun r186 =>
    aI Mw_174 20 r186 w1_174 fun x190 =>
    wI Mw_174 20 r181 w1_174 x190 fun M191 =>
    nm (w1_174 + 1) fun v1_192 =>
    some (.inl (v1_192, M191))
def lp_X9_image_200 (ths : Nat) (w1_200 : Int32) (Mw_200 : QM) : Option ((Int32 × QM) ⊕ (QM)) :=
  if 10 ≤ w1_200 then
    some (.inr Mw_200)
  else
    gR Mw_200 ths 9 59 fun r207 =>
    gR Mw_200 ths 9 40 fun r212 =>
    aI Mw_200 20 r212 w1_200 fun x216 =>
    wI Mw_200 20 r207 w1_200 x216 fun M217 =>
    gR M217 ths 9 60 fun r219 =>
    gR M217 ths 9 41 fun r224 =>
    aI M217 20 r224 w1_200 fun x228 =>
    wI M217 20 r219 w1_200 x228 fun M229 =>
    nm (w1_200 + 1) fun v1_230 =>
    some (.inl (v1_230, M229))
def lp_X9_image_238 (ths : Nat) (w1_238 : Int32) (Mw_238 : QM) : Option ((Int32 × QM) ⊕ (QM)) :=
  if 8 ≤ w1_238 then
    some (.inr Mw_238)
  else
    gR Mw_238 ths 9 61 fun r245 =>
    gR Mw_238 ths 9 42 fun r250 =>
    aI Mw_238 20 r250 w1_238 fun x254 =>
    wI Mw_238 20 r245 w1_238 x254 fun M255 =>
    gR M255 ths 9 62 fun r257 =>
    gR M255 ths 9 43 fun r262 =>
    aI M255 20 r262 w1_238 fun x266 =>
    wI M255 20 r257 w1_238 x266 fun M267 =>
    nm (w1_238 + 1) fun v1_268 =>
    some (.inl (v1_268, M267))
def fn_X9_image (M : QM) (ths : Nat) : Option (Int32 × QM) :=
  pI M ths 9 44 1 fun M2 =>
  gI M2 ths 9 8 fun x7 =>
  pI M2 ths 9 45 x7 fun M10 =>
  gI M10 ths 9 0 fun x15 =>
  pI M10 ths 9 46 x15 fun M18 =>
  gI M18 ths 9 1 fun x23 =>
  pI M18 ths 9 47 x23 fun M26 =>
  gI M26 ths 9 29 fun x31 =>
  pI M26 ths 9 48 x31 fun M34 =>
  gI M34 ths 9 33 fun x39 =>
  pI M34 ths 9 49 x39 fun M42 =>
  gI M42 ths 9 38 fun x47 =>
  pI M42 ths 9 50 x47 fun M50 =>
  gI M50 ths 9 39 fun x55 =>
  pI M50 ths 9 51 x55 fun M58 =>
  bnd (itr (fun s63 : Int32 × QM => lp_X9_image_63 ths s63.1 s63.2) FU (0, M58)) fun Me_63 =>
  bnd (itr (fun s89 : Int32 × QM => lp_X9_image_89 ths s89.1 s89.2) FU (0, Me_63)) fun Me_89 =>
  bnd (itr (fun s174 : Int32 × QM => lp_X9_image_174 ths s174.1 s174.2) FU (0, Me_89)) fun Me_174 =>
  bnd (itr (fun s200 : Int32 × QM => lp_X9_image_200 ths s200.1 s200.2) FU (0, Me_174)) fun Me_200 =>
  bnd (itr (fun s238 : Int32 × QM => lp_X9_image_238 ths s238.1 s238.2) FU (0, Me_200)) fun Me_238 =>
  gI Me_238 ths 9 0 fun x275 =>
  some (x275, Me_238)
set_option maxRecDepth 100000 in
set_option maxHeartbeats 4000000 in
theorem ct_X9_image (Γ : GT) (l : Launch) (M : QM) (ths : Nat) (ht0 : mt M ths = 9) (z : Int32) (M' : QM) (h : fn_X9_image M ths = some (z, M')) : CT Γ l yX9_image cX9_image 2 (some .int) rm_X9_image (.ref ths :: []) M (some (.int z)) M' := by
  refine ct_intro (own := RX9) (L := [(0, .ref ths)]) (by decide +kernel) rfl (Nat.le_of_ble_eq_true rfl) rfl ?_
  intro p e s m args below meth c Q hQ cx hnm
  unfold fn_X9_image at h
  refine q_aload_n cx (pc' := 1) 0 rfl dX9_image_0 rfl ?_
  refine q_iconst cx (pc' := 2) ki_1 dX9_image_1 rfl ?_
  obtain ⟨ht2, M2, eM2, h⟩ := pI_i h
  refine q_pI cx (pc' := 5) 9 44 fl_X9_144 rfl ht2 (ty := .boolean) ⟨(RX9, TX9, 70), rfl, by decide +kernel, Or.inl rfl⟩ (by decide) (by decide) eM2 dX9_image_2 rfl ?_
  refine q_aload_n cx (pc' := 6) 0 rfl dX9_image_5 rfl ?_
  refine q_aload_n cx (pc' := 7) 0 rfl dX9_image_6 rfl ?_
  obtain ⟨ht7, x7, ex7, h⟩ := gI_i h
  refine q_gI cx (pc' := 10) 9 8 fl_X9_35 rfl ht7 ex7 dX9_image_7 rfl ?_
  obtain ⟨ht10, M10, eM10, h⟩ := pI_i h
  refine q_pI cx (pc' := 13) 9 45 fl_X9_148 rfl ht10 (ty := .int) ⟨(RX9, TX9, 70), rfl, by decide +kernel, Or.inl rfl⟩ rfl rfl eM10 dX9_image_10 rfl ?_
  refine q_aload_n cx (pc' := 14) 0 rfl dX9_image_13 rfl ?_
  refine q_aload_n cx (pc' := 15) 0 rfl dX9_image_14 rfl ?_
  obtain ⟨ht15, x15, ex15, h⟩ := gI_i h
  refine q_gI cx (pc' := 18) 9 0 fl_X9_7 rfl ht15 ex15 dX9_image_15 rfl ?_
  obtain ⟨ht18, M18, eM18, h⟩ := pI_i h
  refine q_pI cx (pc' := 21) 9 46 fl_X9_151 rfl ht18 (ty := .int) ⟨(RX9, TX9, 70), rfl, by decide +kernel, Or.inl rfl⟩ rfl rfl eM18 dX9_image_18 rfl ?_
  refine q_aload_n cx (pc' := 22) 0 rfl dX9_image_21 rfl ?_
  refine q_aload_n cx (pc' := 23) 0 rfl dX9_image_22 rfl ?_
  obtain ⟨ht23, x23, ex23, h⟩ := gI_i h
  refine q_gI cx (pc' := 26) 9 1 fl_X9_13 rfl ht23 ex23 dX9_image_23 rfl ?_
  obtain ⟨ht26, M26, eM26, h⟩ := pI_i h
  refine q_pI cx (pc' := 29) 9 47 fl_X9_154 rfl ht26 (ty := .int) ⟨(RX9, TX9, 70), rfl, by decide +kernel, Or.inl rfl⟩ rfl rfl eM26 dX9_image_26 rfl ?_
  refine q_aload_n cx (pc' := 30) 0 rfl dX9_image_29 rfl ?_
  refine q_aload_n cx (pc' := 31) 0 rfl dX9_image_30 rfl ?_
  obtain ⟨ht31, x31, ex31, h⟩ := gI_i h
  refine q_gI cx (pc' := 34) 9 29 fl_X9_99 rfl ht31 ex31 dX9_image_31 rfl ?_
  obtain ⟨ht34, M34, eM34, h⟩ := pI_i h
  refine q_pI cx (pc' := 37) 9 48 fl_X9_157 rfl ht34 (ty := .int) ⟨(RX9, TX9, 70), rfl, by decide +kernel, Or.inl rfl⟩ rfl rfl eM34 dX9_image_34 rfl ?_
  refine q_aload_n cx (pc' := 38) 0 rfl dX9_image_37 rfl ?_
  refine q_aload_n cx (pc' := 39) 0 rfl dX9_image_38 rfl ?_
  obtain ⟨ht39, x39, ex39, h⟩ := gI_i h
  refine q_gI cx (pc' := 42) 9 33 fl_X9_111 rfl ht39 ex39 dX9_image_39 rfl ?_
  obtain ⟨ht42, M42, eM42, h⟩ := pI_i h
  refine q_pI cx (pc' := 45) 9 49 fl_X9_160 rfl ht42 (ty := .int) ⟨(RX9, TX9, 70), rfl, by decide +kernel, Or.inl rfl⟩ rfl rfl eM42 dX9_image_42 rfl ?_
  refine q_aload_n cx (pc' := 46) 0 rfl dX9_image_45 rfl ?_
  refine q_aload_n cx (pc' := 47) 0 rfl dX9_image_46 rfl ?_
  obtain ⟨ht47, x47, ex47, h⟩ := gI_i h
  refine q_gI cx (pc' := 50) 9 38 fl_X9_126 rfl ht47 ex47 dX9_image_47 rfl ?_
  obtain ⟨ht50, M50, eM50, h⟩ := pI_i h
  refine q_pI cx (pc' := 53) 9 50 fl_X9_163 rfl ht50 (ty := .int) ⟨(RX9, TX9, 70), rfl, by decide +kernel, Or.inl rfl⟩ rfl rfl eM50 dX9_image_50 rfl ?_
  refine q_aload_n cx (pc' := 54) 0 rfl dX9_image_53 rfl ?_
  refine q_aload_n cx (pc' := 55) 0 rfl dX9_image_54 rfl ?_
  obtain ⟨ht55, x55, ex55, h⟩ := gI_i h
  refine q_gI cx (pc' := 58) 9 39 fl_X9_129 rfl ht55 ex55 dX9_image_55 rfl ?_
  obtain ⟨ht58, M58, eM58, h⟩ := pI_i h
  refine q_pI cx (pc' := 61) 9 51 fl_X9_166 rfl ht58 (ty := .int) ⟨(RX9, TX9, 70), rfl, by decide +kernel, Or.inl rfl⟩ rfl rfl eM58 dX9_image_58 rfl ?_
  refine q_iconst cx (pc' := 62) ki_0 dX9_image_61 rfl ?_
  refine q_istore_n cx (pc' := 63) rfl rfl (by decide) (L' := [(1, .int 0), (0, .ref ths)]) rfl dX9_image_62 rfl ?_
  obtain ⟨r63, hL63, h⟩ := bnd_i h
  have hk63_0 : ∀ (Me_63 : QM), Me_63 = r63 → EE p l e rm_X9_image s m args below meth c Q Γ 2 0 0 87 [(0, .ref ths)] [] Me_63 := by
    intro Me_63 hp
    subst hp
    refine q_iconst cx (pc' := 88) ki_0 dX9_image_87 rfl ?_
    refine q_istore_n cx (pc' := 89) rfl rfl (by decide) (L' := [(1, .int 0), (0, .ref ths)]) rfl dX9_image_88 rfl ?_
    obtain ⟨r89, hL89, h⟩ := bnd_i h
    have hk89_0 : ∀ (Me_89 : QM), Me_89 = r89 → EE p l e rm_X9_image s m args below meth c Q Γ 2 0 0 172 [(0, .ref ths)] [] Me_89 := by
      intro Me_89 hp
      subst hp
      refine q_iconst cx (pc' := 173) ki_0 dX9_image_172 rfl ?_
      refine q_istore_n cx (pc' := 174) rfl rfl (by decide) (L' := [(1, .int 0), (0, .ref ths)]) rfl dX9_image_173 rfl ?_
      obtain ⟨r174, hL174, h⟩ := bnd_i h
      have hk174_0 : ∀ (Me_174 : QM), Me_174 = r174 → EE p l e rm_X9_image s m args below meth c Q Γ 2 0 0 198 [(0, .ref ths)] [] Me_174 := by
        intro Me_174 hp
        subst hp
        refine q_iconst cx (pc' := 199) ki_0 dX9_image_198 rfl ?_
        refine q_istore_n cx (pc' := 200) rfl rfl (by decide) (L' := [(1, .int 0), (0, .ref ths)]) rfl dX9_image_199 rfl ?_
        obtain ⟨r200, hL200, h⟩ := bnd_i h
        have hk200_0 : ∀ (Me_200 : QM), Me_200 = r200 → EE p l e rm_X9_image s m args below meth c Q Γ 2 0 0 236 [(0, .ref ths)] [] Me_200 := by
          intro Me_200 hp
          subst hp
          refine q_iconst cx (pc' := 237) ki_0 dX9_image_236 rfl ?_
          refine q_istore_n cx (pc' := 238) rfl rfl (by decide) (L' := [(1, .int 0), (0, .ref ths)]) rfl dX9_image_237 rfl ?_
          obtain ⟨r238, hL238, h⟩ := bnd_i h
          have hk238_0 : ∀ (Me_238 : QM), Me_238 = r238 → EE p l e rm_X9_image s m args below meth c Q Γ 2 0 0 274 [(0, .ref ths)] [] Me_238 := by
            intro Me_238 hp
            subst hp
            refine q_aload_n cx (pc' := 275) 0 rfl dX9_image_274 rfl ?_
            obtain ⟨ht275, x275, ex275, h⟩ := gI_i h
            refine q_gI cx (pc' := 278) 9 0 fl_X9_7 rfl ht275 ex275 dX9_image_275 rfl ?_
            obtain ⟨rfl, rfl⟩ := o2_i h
            rw [hQ]
            exact q_iret cx dX9_image_278
          have key238 : ∀ (n : Nat) (w1_238 : Int32) (Mw_238 : QM), itr (fun s238 : Int32 × QM => lp_X9_image_238 ths s238.1 s238.2) n (w1_238, Mw_238) = some r238 → EE p l e rm_X9_image s m args below meth c Q Γ 2 0 0 238 [(0, .ref ths), (1, .int w1_238)] [] Mw_238 := by
            intro n
            induction n with
            | zero => intro _ _ h; exact (itr_0 h).elim
            | succ n ih =>
              intro w1_238 Mw_238 h
              obtain ⟨z238, h, hz238⟩ := itr_i h
              replace h : lp_X9_image_238 ths w1_238 Mw_238 = some z238 := h
              unfold lp_X9_image_238 at h
              refine q_iload_n cx (pc' := 239) 1 rfl dX9_image_238 rfl ?_
              refine q_bipush cx (pc' := 241) kb_8 dX9_image_239 rfl ?_
              refine q_icmp_ge cx (pc' := 244) (tgt := 274) dX9_image_241 (by decide) rfl (fun c241 => ?_) (fun c241 => ?_)
              · replace h := ip c241 h
                refine q_sub cx [0] rfl ?_
                exact hk238_0 _ (hz238.2 _ h)
              · replace h := ine c241 h
                refine q_aload_n cx (pc' := 245) 0 rfl dX9_image_244 rfl ?_
                obtain ⟨ht245, r245, ex245, h⟩ := gR_i h
                refine q_gR cx (pc' := 248) 9 61 fl_X9_196 rfl ht245 ex245 dX9_image_245 rfl ?_
                refine q_iload_n cx (pc' := 249) 1 rfl dX9_image_248 rfl ?_
                refine q_aload_n cx (pc' := 250) 0 rfl dX9_image_249 rfl ?_
                obtain ⟨ht250, r250, ex250, h⟩ := gR_i h
                refine q_gR cx (pc' := 253) 9 42 fl_X9_138 rfl ht250 ex250 dX9_image_250 rfl ?_
                refine q_iload_n cx (pc' := 254) 1 rfl dX9_image_253 rfl ?_
                obtain ⟨ht254, hi254, x254, ex254, h⟩ := aI_i h
                refine q_iald cx (pc' := 255) ht254 hi254 ex254 dX9_image_254 rfl ?_
                obtain ⟨ht255, hi255, M255, eM255, h⟩ := wI_i h
                refine q_iast cx (pc' := 256) ht255 hi255 eM255 dX9_image_255 rfl ?_
                refine q_aload_n cx (pc' := 257) 0 rfl dX9_image_256 rfl ?_
                obtain ⟨ht257, r257, ex257, h⟩ := gR_i h
                refine q_gR cx (pc' := 260) 9 62 fl_X9_199 rfl ht257 ex257 dX9_image_257 rfl ?_
                refine q_iload_n cx (pc' := 261) 1 rfl dX9_image_260 rfl ?_
                refine q_aload_n cx (pc' := 262) 0 rfl dX9_image_261 rfl ?_
                obtain ⟨ht262, r262, ex262, h⟩ := gR_i h
                refine q_gR cx (pc' := 265) 9 43 fl_X9_141 rfl ht262 ex262 dX9_image_262 rfl ?_
                refine q_iload_n cx (pc' := 266) 1 rfl dX9_image_265 rfl ?_
                obtain ⟨ht266, hi266, x266, ex266, h⟩ := aI_i h
                refine q_iald cx (pc' := 267) ht266 hi266 ex266 dX9_image_266 rfl ?_
                obtain ⟨ht267, hi267, M267, eM267, h⟩ := wI_i h
                refine q_iast cx (pc' := 268) ht267 hi267 eM267 dX9_image_267 rfl ?_
                obtain ⟨v1_268, ev1_268, h⟩ := nm_i h
                refine q_iinc cx (pc' := 271) 1 rfl ki_1 ev1_268 (by decide) (L' := [(1, .int v1_268), (0, .ref ths)]) rfl dX9_image_268 rfl ?_
                refine q_goto cx dX9_image_271 (tgt := 238) (by decide) ?_
                refine q_sub cx [1, 0] rfl ?_
                exact ih _ _ (hz238.1 _ h)
          refine q_sub cx [1, 0] rfl ?_
          exact key238 FU _ _ hL238
        have key200 : ∀ (n : Nat) (w1_200 : Int32) (Mw_200 : QM), itr (fun s200 : Int32 × QM => lp_X9_image_200 ths s200.1 s200.2) n (w1_200, Mw_200) = some r200 → EE p l e rm_X9_image s m args below meth c Q Γ 2 0 0 200 [(0, .ref ths), (1, .int w1_200)] [] Mw_200 := by
          intro n
          induction n with
          | zero => intro _ _ h; exact (itr_0 h).elim
          | succ n ih =>
            intro w1_200 Mw_200 h
            obtain ⟨z200, h, hz200⟩ := itr_i h
            replace h : lp_X9_image_200 ths w1_200 Mw_200 = some z200 := h
            unfold lp_X9_image_200 at h
            refine q_iload_n cx (pc' := 201) 1 rfl dX9_image_200 rfl ?_
            refine q_bipush cx (pc' := 203) kb_10 dX9_image_201 rfl ?_
            refine q_icmp_ge cx (pc' := 206) (tgt := 236) dX9_image_203 (by decide) rfl (fun c203 => ?_) (fun c203 => ?_)
            · replace h := ip c203 h
              refine q_sub cx [0] rfl ?_
              exact hk200_0 _ (hz200.2 _ h)
            · replace h := ine c203 h
              refine q_aload_n cx (pc' := 207) 0 rfl dX9_image_206 rfl ?_
              obtain ⟨ht207, r207, ex207, h⟩ := gR_i h
              refine q_gR cx (pc' := 210) 9 59 fl_X9_190 rfl ht207 ex207 dX9_image_207 rfl ?_
              refine q_iload_n cx (pc' := 211) 1 rfl dX9_image_210 rfl ?_
              refine q_aload_n cx (pc' := 212) 0 rfl dX9_image_211 rfl ?_
              obtain ⟨ht212, r212, ex212, h⟩ := gR_i h
              refine q_gR cx (pc' := 215) 9 40 fl_X9_132 rfl ht212 ex212 dX9_image_212 rfl ?_
              refine q_iload_n cx (pc' := 216) 1 rfl dX9_image_215 rfl ?_
              obtain ⟨ht216, hi216, x216, ex216, h⟩ := aI_i h
              refine q_iald cx (pc' := 217) ht216 hi216 ex216 dX9_image_216 rfl ?_
              obtain ⟨ht217, hi217, M217, eM217, h⟩ := wI_i h
              refine q_iast cx (pc' := 218) ht217 hi217 eM217 dX9_image_217 rfl ?_
              refine q_aload_n cx (pc' := 219) 0 rfl dX9_image_218 rfl ?_
              obtain ⟨ht219, r219, ex219, h⟩ := gR_i h
              refine q_gR cx (pc' := 222) 9 60 fl_X9_193 rfl ht219 ex219 dX9_image_219 rfl ?_
              refine q_iload_n cx (pc' := 223) 1 rfl dX9_image_222 rfl ?_
              refine q_aload_n cx (pc' := 224) 0 rfl dX9_image_223 rfl ?_
              obtain ⟨ht224, r224, ex224, h⟩ := gR_i h
              refine q_gR cx (pc' := 227) 9 41 fl_X9_135 rfl ht224 ex224 dX9_image_224 rfl ?_
              refine q_iload_n cx (pc' := 228) 1 rfl dX9_image_227 rfl ?_
              obtain ⟨ht228, hi228, x228, ex228, h⟩ := aI_i h
              refine q_iald cx (pc' := 229) ht228 hi228 ex228 dX9_image_228 rfl ?_
              obtain ⟨ht229, hi229, M229, eM229, h⟩ := wI_i h
              refine q_iast cx (pc' := 230) ht229 hi229 eM229 dX9_image_229 rfl ?_
              obtain ⟨v1_230, ev1_230, h⟩ := nm_i h
              refine q_iinc cx (pc' := 233) 1 rfl ki_1 ev1_230 (by decide) (L' := [(1, .int v1_230), (0, .ref ths)]) rfl dX9_image_230 rfl ?_
              refine q_goto cx dX9_image_233 (tgt := 200) (by decide) ?_
              refine q_sub cx [1, 0] rfl ?_
              exact ih _ _ (hz200.1 _ h)
        refine q_sub cx [1, 0] rfl ?_
        exact key200 FU _ _ hL200
      have key174 : ∀ (n : Nat) (w1_174 : Int32) (Mw_174 : QM), itr (fun s174 : Int32 × QM => lp_X9_image_174 ths s174.1 s174.2) n (w1_174, Mw_174) = some r174 → EE p l e rm_X9_image s m args below meth c Q Γ 2 0 0 174 [(0, .ref ths), (1, .int w1_174)] [] Mw_174 := by
        intro n
        induction n with
        | zero => intro _ _ h; exact (itr_0 h).elim
        | succ n ih =>
          intro w1_174 Mw_174 h
          obtain ⟨z174, h, hz174⟩ := itr_i h
          replace h : lp_X9_image_174 ths w1_174 Mw_174 = some z174 := h
          unfold lp_X9_image_174 at h
          refine q_iload_n cx (pc' := 175) 1 rfl dX9_image_174 rfl ?_
          refine q_bipush cx (pc' := 177) kb_20 dX9_image_175 rfl ?_
          refine q_icmp_ge cx (pc' := 180) (tgt := 198) dX9_image_177 (by decide) rfl (fun c177 => ?_) (fun c177 => ?_)
          · replace h := ip c177 h
            refine q_sub cx [0] rfl ?_
            exact hk174_0 _ (hz174.2 _ h)
          · replace h := ine c177 h
            refine q_aload_n cx (pc' := 181) 0 rfl dX9_image_180 rfl ?_
            obtain ⟨ht181, r181, ex181, h⟩ := gR_i h
            refine q_gR cx (pc' := 184) 9 56 fl_X9_181 rfl ht181 ex181 dX9_image_181 rfl ?_
            refine q_iload_n cx (pc' := 185) 1 rfl dX9_image_184 rfl ?_
            refine q_aload_n cx (pc' := 186) 0 rfl dX9_image_185 rfl ?_
            obtain ⟨ht186, r186, ex186, h⟩ := gR_i h
            refine q_gR cx (pc' := 189) 9 6 fl_X9_29 rfl ht186 ex186 dX9_image_186 rfl ?_
            refine q_iload_n cx (pc' := 190) 1 rfl dX9_image_189 rfl ?_
            obtain ⟨ht190, hi190, x190, ex190, h⟩ := aI_i h
            refine q_iald cx (pc' := 191) ht190 hi190 ex190 dX9_image_190 rfl ?_
            obtain ⟨ht191, hi191, M191, eM191, h⟩ := wI_i h
            refine q_iast cx (pc' := 192) ht191 hi191 eM191 dX9_image_191 rfl ?_
            obtain ⟨v1_192, ev1_192, h⟩ := nm_i h
            refine q_iinc cx (pc' := 195) 1 rfl ki_1 ev1_192 (by decide) (L' := [(1, .int v1_192), (0, .ref ths)]) rfl dX9_image_192 rfl ?_
            refine q_goto cx dX9_image_195 (tgt := 174) (by decide) ?_
            refine q_sub cx [1, 0] rfl ?_
            exact ih _ _ (hz174.1 _ h)
      refine q_sub cx [1, 0] rfl ?_
      exact key174 FU _ _ hL174
    have key89 : ∀ (n : Nat) (w1_89 : Int32) (Mw_89 : QM), itr (fun s89 : Int32 × QM => lp_X9_image_89 ths s89.1 s89.2) n (w1_89, Mw_89) = some r89 → EE p l e rm_X9_image s m args below meth c Q Γ 2 0 0 89 [(0, .ref ths), (1, .int w1_89)] [] Mw_89 := by
      intro n
      induction n with
      | zero => intro _ _ h; exact (itr_0 h).elim
      | succ n ih =>
        intro w1_89 Mw_89 h
        obtain ⟨z89, h, hz89⟩ := itr_i h
        replace h : lp_X9_image_89 ths w1_89 Mw_89 = some z89 := h
        unfold lp_X9_image_89 at h
        refine q_iload_n cx (pc' := 90) 1 rfl dX9_image_89 rfl ?_
        refine q_iconst cx (pc' := 91) ki_5 dX9_image_90 rfl ?_
        refine q_icmp_ge cx (pc' := 94) (tgt := 172) dX9_image_91 (by decide) rfl (fun c91 => ?_) (fun c91 => ?_)
        · replace h := ip c91 h
          refine q_sub cx [0] rfl ?_
          exact hk89_0 _ (hz89.2 _ h)
        · replace h := ine c91 h
          refine q_aload_n cx (pc' := 95) 0 rfl dX9_image_94 rfl ?_
          obtain ⟨ht95, r95, ex95, h⟩ := gR_i h
          refine q_gR cx (pc' := 98) 9 53 fl_X9_172 rfl ht95 ex95 dX9_image_95 rfl ?_
          refine q_iload_n cx (pc' := 99) 1 rfl dX9_image_98 rfl ?_
          refine q_aload_n cx (pc' := 100) 0 rfl dX9_image_99 rfl ?_
          obtain ⟨ht100, r100, ex100, h⟩ := gR_i h
          refine q_gR cx (pc' := 103) 9 3 fl_X9_20 rfl ht100 ex100 dX9_image_100 rfl ?_
          refine q_iload_n cx (pc' := 104) 1 rfl dX9_image_103 rfl ?_
          obtain ⟨ht104, hi104, x104, ex104, h⟩ := aI_i h
          refine q_iald cx (pc' := 105) ht104 hi104 ex104 dX9_image_104 rfl ?_
          obtain ⟨ht105, hi105, M105, eM105, h⟩ := wI_i h
          refine q_iast cx (pc' := 106) ht105 hi105 eM105 dX9_image_105 rfl ?_
          refine q_aload_n cx (pc' := 107) 0 rfl dX9_image_106 rfl ?_
          obtain ⟨ht107, r107, ex107, h⟩ := gR_i h
          refine q_gR cx (pc' := 110) 9 54 fl_X9_175 rfl ht107 ex107 dX9_image_107 rfl ?_
          refine q_iload_n cx (pc' := 111) 1 rfl dX9_image_110 rfl ?_
          refine q_aload_n cx (pc' := 112) 0 rfl dX9_image_111 rfl ?_
          obtain ⟨ht112, r112, ex112, h⟩ := gR_i h
          refine q_gR cx (pc' := 115) 9 4 fl_X9_23 rfl ht112 ex112 dX9_image_112 rfl ?_
          refine q_iload_n cx (pc' := 116) 1 rfl dX9_image_115 rfl ?_
          obtain ⟨ht116, hi116, x116, ex116, h⟩ := aI_i h
          refine q_iald cx (pc' := 117) ht116 hi116 ex116 dX9_image_116 rfl ?_
          obtain ⟨ht117, hi117, M117, eM117, h⟩ := wI_i h
          refine q_iast cx (pc' := 118) ht117 hi117 eM117 dX9_image_117 rfl ?_
          refine q_aload_n cx (pc' := 119) 0 rfl dX9_image_118 rfl ?_
          obtain ⟨ht119, r119, ex119, h⟩ := gR_i h
          refine q_gR cx (pc' := 122) 9 55 fl_X9_178 rfl ht119 ex119 dX9_image_119 rfl ?_
          refine q_iload_n cx (pc' := 123) 1 rfl dX9_image_122 rfl ?_
          refine q_aload_n cx (pc' := 124) 0 rfl dX9_image_123 rfl ?_
          obtain ⟨ht124, r124, ex124, h⟩ := gR_i h
          refine q_gR cx (pc' := 127) 9 5 fl_X9_26 rfl ht124 ex124 dX9_image_124 rfl ?_
          refine q_iload_n cx (pc' := 128) 1 rfl dX9_image_127 rfl ?_
          obtain ⟨ht128, hi128, x128, ex128, h⟩ := aI_i h
          refine q_iald cx (pc' := 129) ht128 hi128 ex128 dX9_image_128 rfl ?_
          obtain ⟨ht129, hi129, M129, eM129, h⟩ := wI_i h
          refine q_iast cx (pc' := 130) ht129 hi129 eM129 dX9_image_129 rfl ?_
          refine q_aload_n cx (pc' := 131) 0 rfl dX9_image_130 rfl ?_
          obtain ⟨ht131, r131, ex131, h⟩ := gR_i h
          refine q_gR cx (pc' := 134) 9 57 fl_X9_184 rfl ht131 ex131 dX9_image_131 rfl ?_
          refine q_iload_n cx (pc' := 135) 1 rfl dX9_image_134 rfl ?_
          refine q_aload_n cx (pc' := 136) 0 rfl dX9_image_135 rfl ?_
          obtain ⟨ht136, r136, ex136, h⟩ := gR_i h
          refine q_gR cx (pc' := 139) 9 34 fl_X9_114 rfl ht136 ex136 dX9_image_136 rfl ?_
          refine q_iload_n cx (pc' := 140) 1 rfl dX9_image_139 rfl ?_
          obtain ⟨ht140, hi140, x140, ex140, h⟩ := aI_i h
          refine q_iald cx (pc' := 141) ht140 hi140 ex140 dX9_image_140 rfl ?_
          obtain ⟨ht141, hi141, M141, eM141, h⟩ := wI_i h
          refine q_iast cx (pc' := 142) ht141 hi141 eM141 dX9_image_141 rfl ?_
          refine q_aload_n cx (pc' := 143) 0 rfl dX9_image_142 rfl ?_
          obtain ⟨ht143, r143, ex143, h⟩ := gR_i h
          refine q_gR cx (pc' := 146) 9 63 fl_X9_202 rfl ht143 ex143 dX9_image_143 rfl ?_
          refine q_iload_n cx (pc' := 147) 1 rfl dX9_image_146 rfl ?_
          refine q_aload_n cx (pc' := 148) 0 rfl dX9_image_147 rfl ?_
          obtain ⟨ht148, r148, ex148, h⟩ := gR_i h
          refine q_gR cx (pc' := 151) 9 37 fl_X9_123 rfl ht148 ex148 dX9_image_148 rfl ?_
          refine q_iload_n cx (pc' := 152) 1 rfl dX9_image_151 rfl ?_
          obtain ⟨ht152, hi152, x152, ex152, h⟩ := aI_i h
          refine q_zald cx (pc' := 153) ht152 hi152 ex152 dX9_image_152 rfl ?_
          obtain ⟨ht153, hi153, M153, eM153, h⟩ := wI_i h
          refine q_zast cx (pc' := 154) ht153 hi153 eM153 dX9_image_153 rfl ?_
          refine q_aload_n cx (pc' := 155) 0 rfl dX9_image_154 rfl ?_
          obtain ⟨ht155, r155, ex155, h⟩ := gR_i h
          refine q_gR cx (pc' := 158) 9 58 fl_X9_187 rfl ht155 ex155 dX9_image_155 rfl ?_
          refine q_iload_n cx (pc' := 159) 1 rfl dX9_image_158 rfl ?_
          refine q_aload_n cx (pc' := 160) 0 rfl dX9_image_159 rfl ?_
          obtain ⟨ht160, r160, ex160, h⟩ := gR_i h
          refine q_gR cx (pc' := 163) 9 35 fl_X9_117 rfl ht160 ex160 dX9_image_160 rfl ?_
          refine q_iload_n cx (pc' := 164) 1 rfl dX9_image_163 rfl ?_
          obtain ⟨ht164, hi164, x164, ex164, h⟩ := aI_i h
          refine q_iald cx (pc' := 165) ht164 hi164 ex164 dX9_image_164 rfl ?_
          obtain ⟨ht165, hi165, M165, eM165, h⟩ := wI_i h
          refine q_iast cx (pc' := 166) ht165 hi165 eM165 dX9_image_165 rfl ?_
          obtain ⟨v1_166, ev1_166, h⟩ := nm_i h
          refine q_iinc cx (pc' := 169) 1 rfl ki_1 ev1_166 (by decide) (L' := [(1, .int v1_166), (0, .ref ths)]) rfl dX9_image_166 rfl ?_
          refine q_goto cx dX9_image_169 (tgt := 89) (by decide) ?_
          refine q_sub cx [1, 0] rfl ?_
          exact ih _ _ (hz89.1 _ h)
    refine q_sub cx [1, 0] rfl ?_
    exact key89 FU _ _ hL89
  have key63 : ∀ (n : Nat) (w1_63 : Int32) (Mw_63 : QM), itr (fun s63 : Int32 × QM => lp_X9_image_63 ths s63.1 s63.2) n (w1_63, Mw_63) = some r63 → EE p l e rm_X9_image s m args below meth c Q Γ 2 0 0 63 [(0, .ref ths), (1, .int w1_63)] [] Mw_63 := by
    intro n
    induction n with
    | zero => intro _ _ h; exact (itr_0 h).elim
    | succ n ih =>
      intro w1_63 Mw_63 h
      obtain ⟨z63, h, hz63⟩ := itr_i h
      replace h : lp_X9_image_63 ths w1_63 Mw_63 = some z63 := h
      unfold lp_X9_image_63 at h
      refine q_iload_n cx (pc' := 64) 1 rfl dX9_image_63 rfl ?_
      refine q_bipush cx (pc' := 66) kb_16 dX9_image_64 rfl ?_
      refine q_icmp_ge cx (pc' := 69) (tgt := 87) dX9_image_66 (by decide) rfl (fun c66 => ?_) (fun c66 => ?_)
      · replace h := ip c66 h
        refine q_sub cx [0] rfl ?_
        exact hk63_0 _ (hz63.2 _ h)
      · replace h := ine c66 h
        refine q_aload_n cx (pc' := 70) 0 rfl dX9_image_69 rfl ?_
        obtain ⟨ht70, r70, ex70, h⟩ := gR_i h
        refine q_gR cx (pc' := 73) 9 52 fl_X9_169 rfl ht70 ex70 dX9_image_70 rfl ?_
        refine q_iload_n cx (pc' := 74) 1 rfl dX9_image_73 rfl ?_
        refine q_aload_n cx (pc' := 75) 0 rfl dX9_image_74 rfl ?_
        obtain ⟨ht75, r75, ex75, h⟩ := gR_i h
        refine q_gR cx (pc' := 78) 9 2 fl_X9_16 rfl ht75 ex75 dX9_image_75 rfl ?_
        refine q_iload_n cx (pc' := 79) 1 rfl dX9_image_78 rfl ?_
        obtain ⟨ht79, hi79, x79, ex79, h⟩ := aI_i h
        refine q_iald cx (pc' := 80) ht79 hi79 ex79 dX9_image_79 rfl ?_
        obtain ⟨ht80, hi80, M80, eM80, h⟩ := wI_i h
        refine q_iast cx (pc' := 81) ht80 hi80 eM80 dX9_image_80 rfl ?_
        obtain ⟨v1_81, ev1_81, h⟩ := nm_i h
        refine q_iinc cx (pc' := 84) 1 rfl ki_1 ev1_81 (by decide) (L' := [(1, .int v1_81), (0, .ref ths)]) rfl dX9_image_81 rfl ?_
        refine q_goto cx dX9_image_84 (tgt := 63) (by decide) ?_
        refine q_sub cx [1, 0] rfl ?_
        exact ih _ _ (hz63.1 _ h)
  refine q_sub cx [1, 0] rfl ?_
  exact key63 FU _ _ hL63

abbrev rm_X9_undo : Room := { frames := 1, cells := 0, slots := 0, locals := 40 }
def lp_X9_undo_68 (ths : Nat) (w1_68 : Int32) (Mw_68 : QM) : Option ((Int32 × QM) ⊕ (QM)) :=
  if 16 ≤ w1_68 then
    some (.inr Mw_68)
  else
    gR Mw_68 ths 9 2 fun r75 =>
    gR Mw_68 ths 9 52 fun r80 =>
    aI Mw_68 20 r80 w1_68 fun x84 =>
    wI Mw_68 20 r75 w1_68 x84 fun M85 =>
    nm (w1_68 + 1) fun v1_86 =>
    some (.inl (v1_86, M85))
def lp_X9_undo_94 (ths : Nat) (w1_94 : Int32) (Mw_94 : QM) : Option ((Int32 × QM) ⊕ (QM)) :=
  if 5 ≤ w1_94 then
    some (.inr Mw_94)
  else
    gR Mw_94 ths 9 3 fun r100 =>
    gR Mw_94 ths 9 53 fun r105 =>
    aI Mw_94 20 r105 w1_94 fun x109 =>
    wI Mw_94 20 r100 w1_94 x109 fun M110 =>
    gR M110 ths 9 4 fun r112 =>
    gR M110 ths 9 54 fun r117 =>
    aI M110 20 r117 w1_94 fun x121 =>
    wI M110 20 r112 w1_94 x121 fun M122 =>
    gR M122 ths 9 5 fun r124 =>
    gR M122 ths 9 55 fun r129 =>
    aI M122 20 r129 w1_94 fun x133 =>
    wI M122 20 r124 w1_94 x133 fun M134 =>
    gR M134 ths 9 34 fun r136 =>
    gR M134 ths 9 57 fun r141 =>
    aI M134 20 r141 w1_94 fun x145 =>
    wI M134 20 r136 w1_94 x145 fun M146 =>
    gR M146 ths 9 37 fun r148 =>
    gR M146 ths 9 63 fun r153 =>
    aI M146 21 r153 w1_94 fun x157 =>
    wI M146 21 r148 w1_94 (zb x157) fun M158 =>
    gR M158 ths 9 35 fun r160 =>
    gR M158 ths 9 58 fun r165 =>
    aI M158 20 r165 w1_94 fun x169 =>
    wI M158 20 r160 w1_94 x169 fun M170 =>
    nm (w1_94 + 1) fun v1_171 =>
    some (.inl (v1_171, M170))
def lp_X9_undo_179 (ths : Nat) (w1_179 : Int32) (Mw_179 : QM) : Option ((Int32 × QM) ⊕ (QM)) :=
  if 20 ≤ w1_179 then
    some (.inr Mw_179)
  else
    gR Mw_179 ths 9 6 fun r186 =>
    gR Mw_179 ths 9 56 fun r191 =>
    aI Mw_179 20 r191 w1_179 fun x195 =>
    wI Mw_179 20 r186 w1_179 x195 fun M196 =>
    nm (w1_179 + 1) fun v1_197 =>
    some (.inl (v1_197, M196))
def lp_X9_undo_205 (ths : Nat) (w1_205 : Int32) (Mw_205 : QM) : Option ((Int32 × QM) ⊕ (QM)) :=
  if 10 ≤ w1_205 then
    some (.inr Mw_205)
  else
    gR Mw_205 ths 9 40 fun r212 =>
    gR Mw_205 ths 9 59 fun r217 =>
    aI Mw_205 20 r217 w1_205 fun x221 =>
    wI Mw_205 20 r212 w1_205 x221 fun M222 =>
    gR M222 ths 9 41 fun r224 =>
    gR M222 ths 9 60 fun r229 =>
    aI M222 20 r229 w1_205 fun x233 =>
    wI M222 20 r224 w1_205 x233 fun M234 =>
    nm (w1_205 + 1) fun v1_235 =>
    some (.inl (v1_235, M234))
def lp_X9_undo_243 (ths : Nat) (w1_243 : Int32) (Mw_243 : QM) : Option ((Int32 × QM) ⊕ (QM)) :=
  if 8 ≤ w1_243 then
    some (.inr Mw_243)
  else
    gR Mw_243 ths 9 42 fun r250 =>
    gR Mw_243 ths 9 61 fun r255 =>
    aI Mw_243 20 r255 w1_243 fun x259 =>
    wI Mw_243 20 r250 w1_243 x259 fun M260 =>
    gR M260 ths 9 43 fun r262 =>
    gR M260 ths 9 62 fun r267 =>
    aI M260 20 r267 w1_243 fun x271 =>
    wI M260 20 r262 w1_243 x271 fun M272 =>
    nm (w1_243 + 1) fun v1_273 =>
    some (.inl (v1_273, M272))
def fn_X9_undo (M : QM) (ths : Nat) : Option (Int32 × QM) :=
  gI M ths 9 44 fun x1 =>
  if x1 = 0 then
    some ((-3), M)
  else
    gI M ths 9 45 fun x12 =>
    pI M ths 9 8 x12 fun M15 =>
    gI M15 ths 9 46 fun x20 =>
    pI M15 ths 9 0 x20 fun M23 =>
    gI M23 ths 9 47 fun x28 =>
    pI M23 ths 9 1 x28 fun M31 =>
    gI M31 ths 9 48 fun x36 =>
    pI M31 ths 9 29 x36 fun M39 =>
    gI M39 ths 9 49 fun x44 =>
    pI M39 ths 9 33 x44 fun M47 =>
    gI M47 ths 9 50 fun x52 =>
    pI M47 ths 9 38 x52 fun M55 =>
    gI M55 ths 9 51 fun x60 =>
    pI M55 ths 9 39 x60 fun M63 =>
    bnd (itr (fun s68 : Int32 × QM => lp_X9_undo_68 ths s68.1 s68.2) FU (0, M63)) fun Me_68 =>
    bnd (itr (fun s94 : Int32 × QM => lp_X9_undo_94 ths s94.1 s94.2) FU (0, Me_68)) fun Me_94 =>
    bnd (itr (fun s179 : Int32 × QM => lp_X9_undo_179 ths s179.1 s179.2) FU (0, Me_94)) fun Me_179 =>
    bnd (itr (fun s205 : Int32 × QM => lp_X9_undo_205 ths s205.1 s205.2) FU (0, Me_179)) fun Me_205 =>
    bnd (itr (fun s243 : Int32 × QM => lp_X9_undo_243 ths s243.1 s243.2) FU (0, Me_205)) fun Me_243 =>
    gI Me_243 ths 9 0 fun x280 =>
    some (x280, Me_243)
set_option maxRecDepth 100000 in
set_option maxHeartbeats 4000000 in
theorem ct_X9_undo (Γ : GT) (l : Launch) (M : QM) (ths : Nat) (ht0 : mt M ths = 9) (z : Int32) (M' : QM) (h : fn_X9_undo M ths = some (z, M')) : CT Γ l yX9_undo cX9_undo 2 (some .int) rm_X9_undo (.ref ths :: []) M (some (.int z)) M' := by
  refine ct_intro (own := RX9) (L := [(0, .ref ths)]) (by decide +kernel) rfl (Nat.le_of_ble_eq_true rfl) rfl ?_
  intro p e s m args below meth c Q hQ cx hnm
  unfold fn_X9_undo at h
  refine q_aload_n cx (pc' := 1) 0 rfl dX9_undo_0 rfl ?_
  obtain ⟨ht1, x1, ex1, h⟩ := gI_i h
  refine q_gI cx (pc' := 4) 9 44 fl_X9_144 rfl ht1 ex1 dX9_undo_1 rfl ?_
  refine q_if_ne cx (pc' := 7) (tgt := 10) dX9_undo_4 (by decide) rfl (fun c4 => ?_) (fun c4 => ?_)
  · replace h := ine c4 h
    refine q_aload_n cx (pc' := 11) 0 rfl dX9_undo_10 rfl ?_
    refine q_aload_n cx (pc' := 12) 0 rfl dX9_undo_11 rfl ?_
    obtain ⟨ht12, x12, ex12, h⟩ := gI_i h
    refine q_gI cx (pc' := 15) 9 45 fl_X9_148 rfl ht12 ex12 dX9_undo_12 rfl ?_
    obtain ⟨ht15, M15, eM15, h⟩ := pI_i h
    refine q_pI cx (pc' := 18) 9 8 fl_X9_35 rfl ht15 (ty := .int) ⟨(RX9, TX9, 70), rfl, by decide +kernel, Or.inl rfl⟩ rfl rfl eM15 dX9_undo_15 rfl ?_
    refine q_aload_n cx (pc' := 19) 0 rfl dX9_undo_18 rfl ?_
    refine q_aload_n cx (pc' := 20) 0 rfl dX9_undo_19 rfl ?_
    obtain ⟨ht20, x20, ex20, h⟩ := gI_i h
    refine q_gI cx (pc' := 23) 9 46 fl_X9_151 rfl ht20 ex20 dX9_undo_20 rfl ?_
    obtain ⟨ht23, M23, eM23, h⟩ := pI_i h
    refine q_pI cx (pc' := 26) 9 0 fl_X9_7 rfl ht23 (ty := .int) ⟨(RX9, TX9, 70), rfl, by decide +kernel, Or.inl rfl⟩ rfl rfl eM23 dX9_undo_23 rfl ?_
    refine q_aload_n cx (pc' := 27) 0 rfl dX9_undo_26 rfl ?_
    refine q_aload_n cx (pc' := 28) 0 rfl dX9_undo_27 rfl ?_
    obtain ⟨ht28, x28, ex28, h⟩ := gI_i h
    refine q_gI cx (pc' := 31) 9 47 fl_X9_154 rfl ht28 ex28 dX9_undo_28 rfl ?_
    obtain ⟨ht31, M31, eM31, h⟩ := pI_i h
    refine q_pI cx (pc' := 34) 9 1 fl_X9_13 rfl ht31 (ty := .int) ⟨(RX9, TX9, 70), rfl, by decide +kernel, Or.inl rfl⟩ rfl rfl eM31 dX9_undo_31 rfl ?_
    refine q_aload_n cx (pc' := 35) 0 rfl dX9_undo_34 rfl ?_
    refine q_aload_n cx (pc' := 36) 0 rfl dX9_undo_35 rfl ?_
    obtain ⟨ht36, x36, ex36, h⟩ := gI_i h
    refine q_gI cx (pc' := 39) 9 48 fl_X9_157 rfl ht36 ex36 dX9_undo_36 rfl ?_
    obtain ⟨ht39, M39, eM39, h⟩ := pI_i h
    refine q_pI cx (pc' := 42) 9 29 fl_X9_99 rfl ht39 (ty := .int) ⟨(RX9, TX9, 70), rfl, by decide +kernel, Or.inl rfl⟩ rfl rfl eM39 dX9_undo_39 rfl ?_
    refine q_aload_n cx (pc' := 43) 0 rfl dX9_undo_42 rfl ?_
    refine q_aload_n cx (pc' := 44) 0 rfl dX9_undo_43 rfl ?_
    obtain ⟨ht44, x44, ex44, h⟩ := gI_i h
    refine q_gI cx (pc' := 47) 9 49 fl_X9_160 rfl ht44 ex44 dX9_undo_44 rfl ?_
    obtain ⟨ht47, M47, eM47, h⟩ := pI_i h
    refine q_pI cx (pc' := 50) 9 33 fl_X9_111 rfl ht47 (ty := .int) ⟨(RX9, TX9, 70), rfl, by decide +kernel, Or.inl rfl⟩ rfl rfl eM47 dX9_undo_47 rfl ?_
    refine q_aload_n cx (pc' := 51) 0 rfl dX9_undo_50 rfl ?_
    refine q_aload_n cx (pc' := 52) 0 rfl dX9_undo_51 rfl ?_
    obtain ⟨ht52, x52, ex52, h⟩ := gI_i h
    refine q_gI cx (pc' := 55) 9 50 fl_X9_163 rfl ht52 ex52 dX9_undo_52 rfl ?_
    obtain ⟨ht55, M55, eM55, h⟩ := pI_i h
    refine q_pI cx (pc' := 58) 9 38 fl_X9_126 rfl ht55 (ty := .int) ⟨(RX9, TX9, 70), rfl, by decide +kernel, Or.inl rfl⟩ rfl rfl eM55 dX9_undo_55 rfl ?_
    refine q_aload_n cx (pc' := 59) 0 rfl dX9_undo_58 rfl ?_
    refine q_aload_n cx (pc' := 60) 0 rfl dX9_undo_59 rfl ?_
    obtain ⟨ht60, x60, ex60, h⟩ := gI_i h
    refine q_gI cx (pc' := 63) 9 51 fl_X9_166 rfl ht60 ex60 dX9_undo_60 rfl ?_
    obtain ⟨ht63, M63, eM63, h⟩ := pI_i h
    refine q_pI cx (pc' := 66) 9 39 fl_X9_129 rfl ht63 (ty := .int) ⟨(RX9, TX9, 70), rfl, by decide +kernel, Or.inl rfl⟩ rfl rfl eM63 dX9_undo_63 rfl ?_
    refine q_iconst cx (pc' := 67) ki_0 dX9_undo_66 rfl ?_
    refine q_istore_n cx (pc' := 68) rfl rfl (by decide) (L' := [(1, .int 0), (0, .ref ths)]) rfl dX9_undo_67 rfl ?_
    obtain ⟨r68, hL68, h⟩ := bnd_i h
    have hk68_0 : ∀ (Me_68 : QM), Me_68 = r68 → EE p l e rm_X9_undo s m args below meth c Q Γ 2 0 0 92 [(0, .ref ths)] [] Me_68 := by
      intro Me_68 hp
      subst hp
      refine q_iconst cx (pc' := 93) ki_0 dX9_undo_92 rfl ?_
      refine q_istore_n cx (pc' := 94) rfl rfl (by decide) (L' := [(1, .int 0), (0, .ref ths)]) rfl dX9_undo_93 rfl ?_
      obtain ⟨r94, hL94, h⟩ := bnd_i h
      have hk94_0 : ∀ (Me_94 : QM), Me_94 = r94 → EE p l e rm_X9_undo s m args below meth c Q Γ 2 0 0 177 [(0, .ref ths)] [] Me_94 := by
        intro Me_94 hp
        subst hp
        refine q_iconst cx (pc' := 178) ki_0 dX9_undo_177 rfl ?_
        refine q_istore_n cx (pc' := 179) rfl rfl (by decide) (L' := [(1, .int 0), (0, .ref ths)]) rfl dX9_undo_178 rfl ?_
        obtain ⟨r179, hL179, h⟩ := bnd_i h
        have hk179_0 : ∀ (Me_179 : QM), Me_179 = r179 → EE p l e rm_X9_undo s m args below meth c Q Γ 2 0 0 203 [(0, .ref ths)] [] Me_179 := by
          intro Me_179 hp
          subst hp
          refine q_iconst cx (pc' := 204) ki_0 dX9_undo_203 rfl ?_
          refine q_istore_n cx (pc' := 205) rfl rfl (by decide) (L' := [(1, .int 0), (0, .ref ths)]) rfl dX9_undo_204 rfl ?_
          obtain ⟨r205, hL205, h⟩ := bnd_i h
          have hk205_0 : ∀ (Me_205 : QM), Me_205 = r205 → EE p l e rm_X9_undo s m args below meth c Q Γ 2 0 0 241 [(0, .ref ths)] [] Me_205 := by
            intro Me_205 hp
            subst hp
            refine q_iconst cx (pc' := 242) ki_0 dX9_undo_241 rfl ?_
            refine q_istore_n cx (pc' := 243) rfl rfl (by decide) (L' := [(1, .int 0), (0, .ref ths)]) rfl dX9_undo_242 rfl ?_
            obtain ⟨r243, hL243, h⟩ := bnd_i h
            have hk243_0 : ∀ (Me_243 : QM), Me_243 = r243 → EE p l e rm_X9_undo s m args below meth c Q Γ 2 0 0 279 [(0, .ref ths)] [] Me_243 := by
              intro Me_243 hp
              subst hp
              refine q_aload_n cx (pc' := 280) 0 rfl dX9_undo_279 rfl ?_
              obtain ⟨ht280, x280, ex280, h⟩ := gI_i h
              refine q_gI cx (pc' := 283) 9 0 fl_X9_7 rfl ht280 ex280 dX9_undo_280 rfl ?_
              obtain ⟨rfl, rfl⟩ := o2_i h
              rw [hQ]
              exact q_iret cx dX9_undo_283
            have key243 : ∀ (n : Nat) (w1_243 : Int32) (Mw_243 : QM), itr (fun s243 : Int32 × QM => lp_X9_undo_243 ths s243.1 s243.2) n (w1_243, Mw_243) = some r243 → EE p l e rm_X9_undo s m args below meth c Q Γ 2 0 0 243 [(0, .ref ths), (1, .int w1_243)] [] Mw_243 := by
              intro n
              induction n with
              | zero => intro _ _ h; exact (itr_0 h).elim
              | succ n ih =>
                intro w1_243 Mw_243 h
                obtain ⟨z243, h, hz243⟩ := itr_i h
                replace h : lp_X9_undo_243 ths w1_243 Mw_243 = some z243 := h
                unfold lp_X9_undo_243 at h
                refine q_iload_n cx (pc' := 244) 1 rfl dX9_undo_243 rfl ?_
                refine q_bipush cx (pc' := 246) kb_8 dX9_undo_244 rfl ?_
                refine q_icmp_ge cx (pc' := 249) (tgt := 279) dX9_undo_246 (by decide) rfl (fun c246 => ?_) (fun c246 => ?_)
                · replace h := ip c246 h
                  refine q_sub cx [0] rfl ?_
                  exact hk243_0 _ (hz243.2 _ h)
                · replace h := ine c246 h
                  refine q_aload_n cx (pc' := 250) 0 rfl dX9_undo_249 rfl ?_
                  obtain ⟨ht250, r250, ex250, h⟩ := gR_i h
                  refine q_gR cx (pc' := 253) 9 42 fl_X9_138 rfl ht250 ex250 dX9_undo_250 rfl ?_
                  refine q_iload_n cx (pc' := 254) 1 rfl dX9_undo_253 rfl ?_
                  refine q_aload_n cx (pc' := 255) 0 rfl dX9_undo_254 rfl ?_
                  obtain ⟨ht255, r255, ex255, h⟩ := gR_i h
                  refine q_gR cx (pc' := 258) 9 61 fl_X9_196 rfl ht255 ex255 dX9_undo_255 rfl ?_
                  refine q_iload_n cx (pc' := 259) 1 rfl dX9_undo_258 rfl ?_
                  obtain ⟨ht259, hi259, x259, ex259, h⟩ := aI_i h
                  refine q_iald cx (pc' := 260) ht259 hi259 ex259 dX9_undo_259 rfl ?_
                  obtain ⟨ht260, hi260, M260, eM260, h⟩ := wI_i h
                  refine q_iast cx (pc' := 261) ht260 hi260 eM260 dX9_undo_260 rfl ?_
                  refine q_aload_n cx (pc' := 262) 0 rfl dX9_undo_261 rfl ?_
                  obtain ⟨ht262, r262, ex262, h⟩ := gR_i h
                  refine q_gR cx (pc' := 265) 9 43 fl_X9_141 rfl ht262 ex262 dX9_undo_262 rfl ?_
                  refine q_iload_n cx (pc' := 266) 1 rfl dX9_undo_265 rfl ?_
                  refine q_aload_n cx (pc' := 267) 0 rfl dX9_undo_266 rfl ?_
                  obtain ⟨ht267, r267, ex267, h⟩ := gR_i h
                  refine q_gR cx (pc' := 270) 9 62 fl_X9_199 rfl ht267 ex267 dX9_undo_267 rfl ?_
                  refine q_iload_n cx (pc' := 271) 1 rfl dX9_undo_270 rfl ?_
                  obtain ⟨ht271, hi271, x271, ex271, h⟩ := aI_i h
                  refine q_iald cx (pc' := 272) ht271 hi271 ex271 dX9_undo_271 rfl ?_
                  obtain ⟨ht272, hi272, M272, eM272, h⟩ := wI_i h
                  refine q_iast cx (pc' := 273) ht272 hi272 eM272 dX9_undo_272 rfl ?_
                  obtain ⟨v1_273, ev1_273, h⟩ := nm_i h
                  refine q_iinc cx (pc' := 276) 1 rfl ki_1 ev1_273 (by decide) (L' := [(1, .int v1_273), (0, .ref ths)]) rfl dX9_undo_273 rfl ?_
                  refine q_goto cx dX9_undo_276 (tgt := 243) (by decide) ?_
                  refine q_sub cx [1, 0] rfl ?_
                  exact ih _ _ (hz243.1 _ h)
            refine q_sub cx [1, 0] rfl ?_
            exact key243 FU _ _ hL243
          have key205 : ∀ (n : Nat) (w1_205 : Int32) (Mw_205 : QM), itr (fun s205 : Int32 × QM => lp_X9_undo_205 ths s205.1 s205.2) n (w1_205, Mw_205) = some r205 → EE p l e rm_X9_undo s m args below meth c Q Γ 2 0 0 205 [(0, .ref ths), (1, .int w1_205)] [] Mw_205 := by
            intro n
            induction n with
            | zero => intro _ _ h; exact (itr_0 h).elim
            | succ n ih =>
              intro w1_205 Mw_205 h
              obtain ⟨z205, h, hz205⟩ := itr_i h
              replace h : lp_X9_undo_205 ths w1_205 Mw_205 = some z205 := h
              unfold lp_X9_undo_205 at h
              refine q_iload_n cx (pc' := 206) 1 rfl dX9_undo_205 rfl ?_
              refine q_bipush cx (pc' := 208) kb_10 dX9_undo_206 rfl ?_
              refine q_icmp_ge cx (pc' := 211) (tgt := 241) dX9_undo_208 (by decide) rfl (fun c208 => ?_) (fun c208 => ?_)
              · replace h := ip c208 h
                refine q_sub cx [0] rfl ?_
                exact hk205_0 _ (hz205.2 _ h)
              · replace h := ine c208 h
                refine q_aload_n cx (pc' := 212) 0 rfl dX9_undo_211 rfl ?_
                obtain ⟨ht212, r212, ex212, h⟩ := gR_i h
                refine q_gR cx (pc' := 215) 9 40 fl_X9_132 rfl ht212 ex212 dX9_undo_212 rfl ?_
                refine q_iload_n cx (pc' := 216) 1 rfl dX9_undo_215 rfl ?_
                refine q_aload_n cx (pc' := 217) 0 rfl dX9_undo_216 rfl ?_
                obtain ⟨ht217, r217, ex217, h⟩ := gR_i h
                refine q_gR cx (pc' := 220) 9 59 fl_X9_190 rfl ht217 ex217 dX9_undo_217 rfl ?_
                refine q_iload_n cx (pc' := 221) 1 rfl dX9_undo_220 rfl ?_
                obtain ⟨ht221, hi221, x221, ex221, h⟩ := aI_i h
                refine q_iald cx (pc' := 222) ht221 hi221 ex221 dX9_undo_221 rfl ?_
                obtain ⟨ht222, hi222, M222, eM222, h⟩ := wI_i h
                refine q_iast cx (pc' := 223) ht222 hi222 eM222 dX9_undo_222 rfl ?_
                refine q_aload_n cx (pc' := 224) 0 rfl dX9_undo_223 rfl ?_
                obtain ⟨ht224, r224, ex224, h⟩ := gR_i h
                refine q_gR cx (pc' := 227) 9 41 fl_X9_135 rfl ht224 ex224 dX9_undo_224 rfl ?_
                refine q_iload_n cx (pc' := 228) 1 rfl dX9_undo_227 rfl ?_
                refine q_aload_n cx (pc' := 229) 0 rfl dX9_undo_228 rfl ?_
                obtain ⟨ht229, r229, ex229, h⟩ := gR_i h
                refine q_gR cx (pc' := 232) 9 60 fl_X9_193 rfl ht229 ex229 dX9_undo_229 rfl ?_
                refine q_iload_n cx (pc' := 233) 1 rfl dX9_undo_232 rfl ?_
                obtain ⟨ht233, hi233, x233, ex233, h⟩ := aI_i h
                refine q_iald cx (pc' := 234) ht233 hi233 ex233 dX9_undo_233 rfl ?_
                obtain ⟨ht234, hi234, M234, eM234, h⟩ := wI_i h
                refine q_iast cx (pc' := 235) ht234 hi234 eM234 dX9_undo_234 rfl ?_
                obtain ⟨v1_235, ev1_235, h⟩ := nm_i h
                refine q_iinc cx (pc' := 238) 1 rfl ki_1 ev1_235 (by decide) (L' := [(1, .int v1_235), (0, .ref ths)]) rfl dX9_undo_235 rfl ?_
                refine q_goto cx dX9_undo_238 (tgt := 205) (by decide) ?_
                refine q_sub cx [1, 0] rfl ?_
                exact ih _ _ (hz205.1 _ h)
          refine q_sub cx [1, 0] rfl ?_
          exact key205 FU _ _ hL205
        have key179 : ∀ (n : Nat) (w1_179 : Int32) (Mw_179 : QM), itr (fun s179 : Int32 × QM => lp_X9_undo_179 ths s179.1 s179.2) n (w1_179, Mw_179) = some r179 → EE p l e rm_X9_undo s m args below meth c Q Γ 2 0 0 179 [(0, .ref ths), (1, .int w1_179)] [] Mw_179 := by
          intro n
          induction n with
          | zero => intro _ _ h; exact (itr_0 h).elim
          | succ n ih =>
            intro w1_179 Mw_179 h
            obtain ⟨z179, h, hz179⟩ := itr_i h
            replace h : lp_X9_undo_179 ths w1_179 Mw_179 = some z179 := h
            unfold lp_X9_undo_179 at h
            refine q_iload_n cx (pc' := 180) 1 rfl dX9_undo_179 rfl ?_
            refine q_bipush cx (pc' := 182) kb_20 dX9_undo_180 rfl ?_
            refine q_icmp_ge cx (pc' := 185) (tgt := 203) dX9_undo_182 (by decide) rfl (fun c182 => ?_) (fun c182 => ?_)
            · replace h := ip c182 h
              refine q_sub cx [0] rfl ?_
              exact hk179_0 _ (hz179.2 _ h)
            · replace h := ine c182 h
              refine q_aload_n cx (pc' := 186) 0 rfl dX9_undo_185 rfl ?_
              obtain ⟨ht186, r186, ex186, h⟩ := gR_i h
              refine q_gR cx (pc' := 189) 9 6 fl_X9_29 rfl ht186 ex186 dX9_undo_186 rfl ?_
              refine q_iload_n cx (pc' := 190) 1 rfl dX9_undo_189 rfl ?_
              refine q_aload_n cx (pc' := 191) 0 rfl dX9_undo_190 rfl ?_
              obtain ⟨ht191, r191, ex191, h⟩ := gR_i h
              refine q_gR cx (pc' := 194) 9 56 fl_X9_181 rfl ht191 ex191 dX9_undo_191 rfl ?_
              refine q_iload_n cx (pc' := 195) 1 rfl dX9_undo_194 rfl ?_
              obtain ⟨ht195, hi195, x195, ex195, h⟩ := aI_i h
              refine q_iald cx (pc' := 196) ht195 hi195 ex195 dX9_undo_195 rfl ?_
              obtain ⟨ht196, hi196, M196, eM196, h⟩ := wI_i h
              refine q_iast cx (pc' := 197) ht196 hi196 eM196 dX9_undo_196 rfl ?_
              obtain ⟨v1_197, ev1_197, h⟩ := nm_i h
              refine q_iinc cx (pc' := 200) 1 rfl ki_1 ev1_197 (by decide) (L' := [(1, .int v1_197), (0, .ref ths)]) rfl dX9_undo_197 rfl ?_
              refine q_goto cx dX9_undo_200 (tgt := 179) (by decide) ?_
              refine q_sub cx [1, 0] rfl ?_
              exact ih _ _ (hz179.1 _ h)
        refine q_sub cx [1, 0] rfl ?_
        exact key179 FU _ _ hL179
      have key94 : ∀ (n : Nat) (w1_94 : Int32) (Mw_94 : QM), itr (fun s94 : Int32 × QM => lp_X9_undo_94 ths s94.1 s94.2) n (w1_94, Mw_94) = some r94 → EE p l e rm_X9_undo s m args below meth c Q Γ 2 0 0 94 [(0, .ref ths), (1, .int w1_94)] [] Mw_94 := by
        intro n
        induction n with
        | zero => intro _ _ h; exact (itr_0 h).elim
        | succ n ih =>
          intro w1_94 Mw_94 h
          obtain ⟨z94, h, hz94⟩ := itr_i h
          replace h : lp_X9_undo_94 ths w1_94 Mw_94 = some z94 := h
          unfold lp_X9_undo_94 at h
          refine q_iload_n cx (pc' := 95) 1 rfl dX9_undo_94 rfl ?_
          refine q_iconst cx (pc' := 96) ki_5 dX9_undo_95 rfl ?_
          refine q_icmp_ge cx (pc' := 99) (tgt := 177) dX9_undo_96 (by decide) rfl (fun c96 => ?_) (fun c96 => ?_)
          · replace h := ip c96 h
            refine q_sub cx [0] rfl ?_
            exact hk94_0 _ (hz94.2 _ h)
          · replace h := ine c96 h
            refine q_aload_n cx (pc' := 100) 0 rfl dX9_undo_99 rfl ?_
            obtain ⟨ht100, r100, ex100, h⟩ := gR_i h
            refine q_gR cx (pc' := 103) 9 3 fl_X9_20 rfl ht100 ex100 dX9_undo_100 rfl ?_
            refine q_iload_n cx (pc' := 104) 1 rfl dX9_undo_103 rfl ?_
            refine q_aload_n cx (pc' := 105) 0 rfl dX9_undo_104 rfl ?_
            obtain ⟨ht105, r105, ex105, h⟩ := gR_i h
            refine q_gR cx (pc' := 108) 9 53 fl_X9_172 rfl ht105 ex105 dX9_undo_105 rfl ?_
            refine q_iload_n cx (pc' := 109) 1 rfl dX9_undo_108 rfl ?_
            obtain ⟨ht109, hi109, x109, ex109, h⟩ := aI_i h
            refine q_iald cx (pc' := 110) ht109 hi109 ex109 dX9_undo_109 rfl ?_
            obtain ⟨ht110, hi110, M110, eM110, h⟩ := wI_i h
            refine q_iast cx (pc' := 111) ht110 hi110 eM110 dX9_undo_110 rfl ?_
            refine q_aload_n cx (pc' := 112) 0 rfl dX9_undo_111 rfl ?_
            obtain ⟨ht112, r112, ex112, h⟩ := gR_i h
            refine q_gR cx (pc' := 115) 9 4 fl_X9_23 rfl ht112 ex112 dX9_undo_112 rfl ?_
            refine q_iload_n cx (pc' := 116) 1 rfl dX9_undo_115 rfl ?_
            refine q_aload_n cx (pc' := 117) 0 rfl dX9_undo_116 rfl ?_
            obtain ⟨ht117, r117, ex117, h⟩ := gR_i h
            refine q_gR cx (pc' := 120) 9 54 fl_X9_175 rfl ht117 ex117 dX9_undo_117 rfl ?_
            refine q_iload_n cx (pc' := 121) 1 rfl dX9_undo_120 rfl ?_
            obtain ⟨ht121, hi121, x121, ex121, h⟩ := aI_i h
            refine q_iald cx (pc' := 122) ht121 hi121 ex121 dX9_undo_121 rfl ?_
            obtain ⟨ht122, hi122, M122, eM122, h⟩ := wI_i h
            refine q_iast cx (pc' := 123) ht122 hi122 eM122 dX9_undo_122 rfl ?_
            refine q_aload_n cx (pc' := 124) 0 rfl dX9_undo_123 rfl ?_
            obtain ⟨ht124, r124, ex124, h⟩ := gR_i h
            refine q_gR cx (pc' := 127) 9 5 fl_X9_26 rfl ht124 ex124 dX9_undo_124 rfl ?_
            refine q_iload_n cx (pc' := 128) 1 rfl dX9_undo_127 rfl ?_
            refine q_aload_n cx (pc' := 129) 0 rfl dX9_undo_128 rfl ?_
            obtain ⟨ht129, r129, ex129, h⟩ := gR_i h
            refine q_gR cx (pc' := 132) 9 55 fl_X9_178 rfl ht129 ex129 dX9_undo_129 rfl ?_
            refine q_iload_n cx (pc' := 133) 1 rfl dX9_undo_132 rfl ?_
            obtain ⟨ht133, hi133, x133, ex133, h⟩ := aI_i h
            refine q_iald cx (pc' := 134) ht133 hi133 ex133 dX9_undo_133 rfl ?_
            obtain ⟨ht134, hi134, M134, eM134, h⟩ := wI_i h
            refine q_iast cx (pc' := 135) ht134 hi134 eM134 dX9_undo_134 rfl ?_
            refine q_aload_n cx (pc' := 136) 0 rfl dX9_undo_135 rfl ?_
            obtain ⟨ht136, r136, ex136, h⟩ := gR_i h
            refine q_gR cx (pc' := 139) 9 34 fl_X9_114 rfl ht136 ex136 dX9_undo_136 rfl ?_
            refine q_iload_n cx (pc' := 140) 1 rfl dX9_undo_139 rfl ?_
            refine q_aload_n cx (pc' := 141) 0 rfl dX9_undo_140 rfl ?_
            obtain ⟨ht141, r141, ex141, h⟩ := gR_i h
            refine q_gR cx (pc' := 144) 9 57 fl_X9_184 rfl ht141 ex141 dX9_undo_141 rfl ?_
            refine q_iload_n cx (pc' := 145) 1 rfl dX9_undo_144 rfl ?_
            obtain ⟨ht145, hi145, x145, ex145, h⟩ := aI_i h
            refine q_iald cx (pc' := 146) ht145 hi145 ex145 dX9_undo_145 rfl ?_
            obtain ⟨ht146, hi146, M146, eM146, h⟩ := wI_i h
            refine q_iast cx (pc' := 147) ht146 hi146 eM146 dX9_undo_146 rfl ?_
            refine q_aload_n cx (pc' := 148) 0 rfl dX9_undo_147 rfl ?_
            obtain ⟨ht148, r148, ex148, h⟩ := gR_i h
            refine q_gR cx (pc' := 151) 9 37 fl_X9_123 rfl ht148 ex148 dX9_undo_148 rfl ?_
            refine q_iload_n cx (pc' := 152) 1 rfl dX9_undo_151 rfl ?_
            refine q_aload_n cx (pc' := 153) 0 rfl dX9_undo_152 rfl ?_
            obtain ⟨ht153, r153, ex153, h⟩ := gR_i h
            refine q_gR cx (pc' := 156) 9 63 fl_X9_202 rfl ht153 ex153 dX9_undo_153 rfl ?_
            refine q_iload_n cx (pc' := 157) 1 rfl dX9_undo_156 rfl ?_
            obtain ⟨ht157, hi157, x157, ex157, h⟩ := aI_i h
            refine q_zald cx (pc' := 158) ht157 hi157 ex157 dX9_undo_157 rfl ?_
            obtain ⟨ht158, hi158, M158, eM158, h⟩ := wI_i h
            refine q_zast cx (pc' := 159) ht158 hi158 eM158 dX9_undo_158 rfl ?_
            refine q_aload_n cx (pc' := 160) 0 rfl dX9_undo_159 rfl ?_
            obtain ⟨ht160, r160, ex160, h⟩ := gR_i h
            refine q_gR cx (pc' := 163) 9 35 fl_X9_117 rfl ht160 ex160 dX9_undo_160 rfl ?_
            refine q_iload_n cx (pc' := 164) 1 rfl dX9_undo_163 rfl ?_
            refine q_aload_n cx (pc' := 165) 0 rfl dX9_undo_164 rfl ?_
            obtain ⟨ht165, r165, ex165, h⟩ := gR_i h
            refine q_gR cx (pc' := 168) 9 58 fl_X9_187 rfl ht165 ex165 dX9_undo_165 rfl ?_
            refine q_iload_n cx (pc' := 169) 1 rfl dX9_undo_168 rfl ?_
            obtain ⟨ht169, hi169, x169, ex169, h⟩ := aI_i h
            refine q_iald cx (pc' := 170) ht169 hi169 ex169 dX9_undo_169 rfl ?_
            obtain ⟨ht170, hi170, M170, eM170, h⟩ := wI_i h
            refine q_iast cx (pc' := 171) ht170 hi170 eM170 dX9_undo_170 rfl ?_
            obtain ⟨v1_171, ev1_171, h⟩ := nm_i h
            refine q_iinc cx (pc' := 174) 1 rfl ki_1 ev1_171 (by decide) (L' := [(1, .int v1_171), (0, .ref ths)]) rfl dX9_undo_171 rfl ?_
            refine q_goto cx dX9_undo_174 (tgt := 94) (by decide) ?_
            refine q_sub cx [1, 0] rfl ?_
            exact ih _ _ (hz94.1 _ h)
      refine q_sub cx [1, 0] rfl ?_
      exact key94 FU _ _ hL94
    have key68 : ∀ (n : Nat) (w1_68 : Int32) (Mw_68 : QM), itr (fun s68 : Int32 × QM => lp_X9_undo_68 ths s68.1 s68.2) n (w1_68, Mw_68) = some r68 → EE p l e rm_X9_undo s m args below meth c Q Γ 2 0 0 68 [(0, .ref ths), (1, .int w1_68)] [] Mw_68 := by
      intro n
      induction n with
      | zero => intro _ _ h; exact (itr_0 h).elim
      | succ n ih =>
        intro w1_68 Mw_68 h
        obtain ⟨z68, h, hz68⟩ := itr_i h
        replace h : lp_X9_undo_68 ths w1_68 Mw_68 = some z68 := h
        unfold lp_X9_undo_68 at h
        refine q_iload_n cx (pc' := 69) 1 rfl dX9_undo_68 rfl ?_
        refine q_bipush cx (pc' := 71) kb_16 dX9_undo_69 rfl ?_
        refine q_icmp_ge cx (pc' := 74) (tgt := 92) dX9_undo_71 (by decide) rfl (fun c71 => ?_) (fun c71 => ?_)
        · replace h := ip c71 h
          refine q_sub cx [0] rfl ?_
          exact hk68_0 _ (hz68.2 _ h)
        · replace h := ine c71 h
          refine q_aload_n cx (pc' := 75) 0 rfl dX9_undo_74 rfl ?_
          obtain ⟨ht75, r75, ex75, h⟩ := gR_i h
          refine q_gR cx (pc' := 78) 9 2 fl_X9_16 rfl ht75 ex75 dX9_undo_75 rfl ?_
          refine q_iload_n cx (pc' := 79) 1 rfl dX9_undo_78 rfl ?_
          refine q_aload_n cx (pc' := 80) 0 rfl dX9_undo_79 rfl ?_
          obtain ⟨ht80, r80, ex80, h⟩ := gR_i h
          refine q_gR cx (pc' := 83) 9 52 fl_X9_169 rfl ht80 ex80 dX9_undo_80 rfl ?_
          refine q_iload_n cx (pc' := 84) 1 rfl dX9_undo_83 rfl ?_
          obtain ⟨ht84, hi84, x84, ex84, h⟩ := aI_i h
          refine q_iald cx (pc' := 85) ht84 hi84 ex84 dX9_undo_84 rfl ?_
          obtain ⟨ht85, hi85, M85, eM85, h⟩ := wI_i h
          refine q_iast cx (pc' := 86) ht85 hi85 eM85 dX9_undo_85 rfl ?_
          obtain ⟨v1_86, ev1_86, h⟩ := nm_i h
          refine q_iinc cx (pc' := 89) 1 rfl ki_1 ev1_86 (by decide) (L' := [(1, .int v1_86), (0, .ref ths)]) rfl dX9_undo_86 rfl ?_
          refine q_goto cx dX9_undo_89 (tgt := 68) (by decide) ?_
          refine q_sub cx [1, 0] rfl ?_
          exact ih _ _ (hz68.1 _ h)
    refine q_sub cx [1, 0] rfl ?_
    exact key68 FU _ _ hL68
  · replace h := ip c4 h
    refine q_bipush cx (pc' := 9) kb_m3 dX9_undo_7 rfl ?_
    obtain ⟨rfl, rfl⟩ := o2_i h
    rw [hQ]
    exact q_iret cx dX9_undo_9

abbrev rm_X9_body : Room := { frames := 1, cells := 0, slots := 0, locals := 40 }
def jn_X9_body_19 (ths : Nat) (Mj_19 : QM) : Option QM :=
  gI Mj_19 ths 9 64 fun x21 =>
  pI Mj_19 ths 9 64 (x21 + 1) fun M26 =>
  some M26
def fn_X9_body (M : QM) (ths : Nat) (p1 : Int32) : Option QM :=
  gI M ths 9 64 fun x1 =>
  if 20 ≤ x1 then
    jn_X9_body_19 ths M
  else
    gR M ths 9 65 fun r10 =>
    gI M ths 9 64 fun x14 =>
    wI M 20 r10 x14 p1 fun M18 =>
    jn_X9_body_19 ths M18
set_option maxRecDepth 100000 in
set_option maxHeartbeats 4000000 in
theorem ct_X9_body (Γ : GT) (l : Launch) (M : QM) (ths : Nat) (p1 : Int32) (ht0 : mt M ths = 9) (M' : QM) (h : fn_X9_body M ths p1 = some M') : CT Γ l yX9_body cX9_body 2 none rm_X9_body (.ref ths :: [.int p1]) M none M' := by
  refine ct_intro (own := RX9) (L := [(0, .ref ths), (1, .int p1)]) (by decide +kernel) rfl (Nat.le_of_ble_eq_true rfl) rfl ?_
  intro p e s m args below meth c Q hQ cx hnm
  unfold fn_X9_body at h
  have hj19 : ∀ (Mj_19 : QM), jn_X9_body_19 ths Mj_19 = some M' → EE p l e rm_X9_body s m args below meth c Q Γ 2 0 0 19 [(0, .ref ths)] [] Mj_19 := by
    intro Mj_19 h
    unfold jn_X9_body_19 at h
    refine q_aload_n cx (pc' := 20) 0 rfl dX9_body_19 rfl ?_
    refine q_dup cx (pc' := 21) rfl dX9_body_20 rfl ?_
    obtain ⟨ht21, x21, ex21, h⟩ := gI_i h
    refine q_gI cx (pc' := 24) 9 64 fl_X9_205 rfl ht21 ex21 dX9_body_21 rfl ?_
    refine q_iconst cx (pc' := 25) ki_1 dX9_body_24 rfl ?_
    refine q_iadd cx (pc' := 26) dX9_body_25 rfl ?_
    obtain ⟨ht26, M26, eM26, h⟩ := pI_i h
    refine q_pI cx (pc' := 29) 9 64 fl_X9_205 rfl ht26 (ty := .int) ⟨(RX9, TX9, 70), rfl, by decide +kernel, Or.inl rfl⟩ rfl rfl eM26 dX9_body_26 rfl ?_
    obtain rfl := o1_i h
    rw [hQ]
    exact q_vret cx dX9_body_29
  refine q_aload_n cx (pc' := 1) 0 rfl dX9_body_0 rfl ?_
  obtain ⟨ht1, x1, ex1, h⟩ := gI_i h
  refine q_gI cx (pc' := 4) 9 64 fl_X9_205 rfl ht1 ex1 dX9_body_1 rfl ?_
  refine q_bipush cx (pc' := 6) kb_20 dX9_body_4 rfl ?_
  refine q_icmp_ge cx (pc' := 9) (tgt := 19) dX9_body_6 (by decide) rfl (fun c6 => ?_) (fun c6 => ?_)
  · replace h := ip c6 h
    refine q_sub cx [0] rfl ?_
    exact hj19 _ h
  · replace h := ine c6 h
    refine q_aload_n cx (pc' := 10) 0 rfl dX9_body_9 rfl ?_
    obtain ⟨ht10, r10, ex10, h⟩ := gR_i h
    refine q_gR cx (pc' := 13) 9 65 fl_X9_208 rfl ht10 ex10 dX9_body_10 rfl ?_
    refine q_aload_n cx (pc' := 14) 0 rfl dX9_body_13 rfl ?_
    obtain ⟨ht14, x14, ex14, h⟩ := gI_i h
    refine q_gI cx (pc' := 17) 9 64 fl_X9_205 rfl ht14 ex14 dX9_body_14 rfl ?_
    refine q_iload_n cx (pc' := 18) 1 rfl dX9_body_17 rfl ?_
    obtain ⟨ht18, hi18, M18, eM18, h⟩ := wI_i h
    refine q_iast cx (pc' := 19) ht18 hi18 eM18 dX9_body_18 rfl ?_
    refine q_sub cx [0] rfl ?_
    exact hj19 _ h

abbrev rm_X9_walkerWalks : Room := { frames := 2, cells := 0, slots := 0, locals := 61 }
def fn_X9_walkerWalks (M : QM) (ths : Nat) (p1 : Int32) (p2 : Int32) : Option (Int32 × QM) :=
  bnd (fn_X9_body M ths 10) fun M3 =>
  some ((p2 + p1), M3)
set_option maxRecDepth 100000 in
set_option maxHeartbeats 4000000 in
theorem ct_X9_walkerWalks (Γ : GT) (l : Launch) (M : QM) (ths : Nat) (p1 : Int32) (p2 : Int32) (ht0 : mt M ths = 9) (z : Int32) (M' : QM) (h : fn_X9_walkerWalks M ths p1 p2 = some (z, M')) : CT Γ l yX9_walkerWalks cX9_walkerWalks 3 (some .int) rm_X9_walkerWalks (.ref ths :: [.int p1, .int p2]) M (some (.int z)) M' := by
  refine ct_intro (own := RX9) (L := [(0, .ref ths), (1, .int p1), (2, .int p2)]) (by decide +kernel) rfl (Nat.le_of_ble_eq_true rfl) rfl ?_
  intro p e s m args below meth c Q hQ cx hnm
  unfold fn_X9_walkerWalks at h
  refine q_aload_n cx (pc' := 1) 0 rfl dX9_walkerWalks_0 rfl ?_
  refine q_bipush cx (pc' := 3) kb_10 dX9_walkerWalks_1 rfl ?_
  obtain ⟨M3, hc3, h⟩ := bnd_i h
  refine q_callV cx (pc' := 6) (S := []) (S1 := []) (kc' := 0) (ks' := 0) 9 (ct_X9_body Γ l M ths 10 ht0 _ hc3) lki_X9_body lkv_X9_body lkc_X9_413 ht0 (r := (RX9, TX9, 70)) ⟨rfl, by decide, rfl⟩ rfl rfl (Nat.le_of_ble_eq_true rfl) ⟨(Nat.le_of_ble_eq_true rfl), (Nat.le_of_ble_eq_true rfl)⟩ ⟨(Nat.le_of_ble_eq_true rfl), (Nat.le_of_ble_eq_true rfl)⟩ dX9_walkerWalks_3 rfl rfl rfl ?_
  refine q_iload_n cx (pc' := 7) 2 rfl dX9_walkerWalks_6 rfl ?_
  refine q_iload_n cx (pc' := 8) 1 rfl dX9_walkerWalks_7 rfl ?_
  refine q_iadd cx (pc' := 9) dX9_walkerWalks_8 rfl ?_
  obtain ⟨rfl, rfl⟩ := o2_i h
  rw [hQ]
  exact q_iret cx dX9_walkerWalks_9

abbrev rm_X9_walksAct : Room := { frames := 3, cells := 0, slots := 0, locals := 83 }
def fn_X9_walksAct (M : QM) (ths : Nat) (p1 : Int32) (p2 : Int32) : Option (Int32 × QM) :=
  gR M ths 9 3 fun r1 =>
  aI M 20 r1 p1 fun x5 =>
  if x5 = 2 then
    bnd (fn_X9_body M ths 30) fun M43 =>
    ck M43 ths 9 <|
    bnd (fn_X9_walkerWalks M43 ths p1 (p2 * 3)) fun y51 =>
    pr2 y51 fun c51 M51 =>
    some (c51, M51)
  else if x5 = 4 then
    bnd (fn_X9_body M ths 50) fun M58 =>
    ck M58 ths 9 <|
    bnd (fn_X9_walkerWalks M58 ths p1 p2) fun y64 =>
    pr2 y64 fun c64 M64 =>
    some ((-c64), M64)
  else if x5 = 5 then
    bnd (fn_X9_body M ths 30) fun M43 =>
    ck M43 ths 9 <|
    bnd (fn_X9_walkerWalks M43 ths p1 (p2 * 3)) fun y51 =>
    pr2 y51 fun c51 M51 =>
    some (c51, M51)
  else if x5 = 6 then
    bnd (fn_X9_body M ths 71) fun M72 =>
    ck M72 ths 9 <|
    bnd (fn_X9_walkerWalks M72 ths p1 p2) fun y78 =>
    pr2 y78 fun c78 M78 =>
    gR M78 ths 9 4 fun r82 =>
    aI M78 20 r82 p1 fun x86 =>
    some ((c78 ^^^ x86), M78)
  else 
    bnd (fn_X9_walkerWalks M ths p1 p2) fun y92 =>
    pr2 y92 fun c92 M92 =>
    some (c92, M92)
set_option maxRecDepth 100000 in
set_option maxHeartbeats 4000000 in
theorem ct_X9_walksAct (Γ : GT) (l : Launch) (M : QM) (ths : Nat) (p1 : Int32) (p2 : Int32) (ht0 : mt M ths = 9) (z : Int32) (M' : QM) (h : fn_X9_walksAct M ths p1 p2 = some (z, M')) : CT Γ l yX9_walksAct cX9_walksAct 3 (some .int) rm_X9_walksAct (.ref ths :: [.int p1, .int p2]) M (some (.int z)) M' := by
  refine ct_intro (own := RX9) (L := [(0, .ref ths), (1, .int p1), (2, .int p2)]) (by decide +kernel) rfl (Nat.le_of_ble_eq_true rfl) rfl ?_
  intro p e s m args below meth c Q hQ cx hnm
  unfold fn_X9_walksAct at h
  refine q_aload_n cx (pc' := 1) 0 rfl dX9_walksAct_0 rfl ?_
  obtain ⟨ht1, r1, ex1, h⟩ := gR_i h
  refine q_gR cx (pc' := 4) 9 3 fl_X9_20 rfl ht1 ex1 dX9_walksAct_1 rfl ?_
  refine q_iload_n cx (pc' := 5) 1 rfl dX9_walksAct_4 rfl ?_
  obtain ⟨ht5, hi5, x5, ex5, h⟩ := aI_i h
  refine q_iald cx (pc' := 6) ht5 hi5 ex5 dX9_walksAct_5 rfl ?_
  rcases Decidable.em (x5 = 2) with c6_0 | c6_0
  · replace h := ip c6_0 h
    refine q_tabIn cx (off := 34) (tgt := 40) c6_0 dX9_walksAct_6 (by decide) (by decide) ?_
    refine q_aload_n cx (pc' := 41) 0 rfl dX9_walksAct_40 rfl ?_
    refine q_bipush cx (pc' := 43) kb_30 dX9_walksAct_41 rfl ?_
    obtain ⟨M43, hc43, h⟩ := bnd_i h
    refine q_callV cx (pc' := 46) (S := []) (S1 := []) (kc' := 0) (ks' := 0) 9 (ct_X9_body Γ l M ths 30 ht0 _ hc43) lki_X9_body lkv_X9_body lkc_X9_413 ht0 (r := (RX9, TX9, 70)) ⟨rfl, by decide, rfl⟩ rfl rfl (Nat.le_of_ble_eq_true rfl) ⟨(Nat.le_of_ble_eq_true rfl), (Nat.le_of_ble_eq_true rfl)⟩ ⟨(Nat.le_of_ble_eq_true rfl), (Nat.le_of_ble_eq_true rfl)⟩ dX9_walksAct_43 rfl rfl rfl ?_
    refine q_aload_n cx (pc' := 47) 0 rfl dX9_walksAct_46 rfl ?_
    refine q_iload_n cx (pc' := 48) 1 rfl dX9_walksAct_47 rfl ?_
    refine q_iload_n cx (pc' := 49) 2 rfl dX9_walksAct_48 rfl ?_
    refine q_iconst cx (pc' := 50) ki_3 dX9_walksAct_49 rfl ?_
    refine q_imul cx (pc' := 51) dX9_walksAct_50 rfl ?_
    obtain ⟨hk51, h⟩ := ck_i h
    obtain ⟨⟨c51, M51⟩, hc51, h⟩ := bnd_i h
    replace h := pr2_i h
    refine q_callV cx (pc' := 54) (S := []) (S1 := [.int c51]) (kc' := 0) (ks' := 0) 9 (ct_X9_walkerWalks Γ l M43 ths p1 (p2 * 3) hk51 _ _ hc51) lki_X9_walkerWalks lkv_X9_walkerWalks lkc_X9_416 hk51 (r := (RX9, TX9, 70)) ⟨rfl, by decide, rfl⟩ rfl rfl (Nat.le_of_ble_eq_true rfl) ⟨(Nat.le_of_ble_eq_true rfl), (Nat.le_of_ble_eq_true rfl)⟩ ⟨(Nat.le_of_ble_eq_true rfl), (Nat.le_of_ble_eq_true rfl)⟩ dX9_walksAct_51 rfl rfl rfl ?_
    obtain ⟨rfl, rfl⟩ := o2_i h
    rw [hQ]
    exact q_iret cx dX9_walksAct_54
  replace h := ine c6_0 h
  rcases Decidable.em (x5 = 4) with c6_1 | c6_1
  · replace h := ip c6_1 h
    refine q_tabIn cx (off := 49) (tgt := 55) c6_1 dX9_walksAct_6 (by decide) (by decide) ?_
    refine q_aload_n cx (pc' := 56) 0 rfl dX9_walksAct_55 rfl ?_
    refine q_bipush cx (pc' := 58) kb_50 dX9_walksAct_56 rfl ?_
    obtain ⟨M58, hc58, h⟩ := bnd_i h
    refine q_callV cx (pc' := 61) (S := []) (S1 := []) (kc' := 0) (ks' := 0) 9 (ct_X9_body Γ l M ths 50 ht0 _ hc58) lki_X9_body lkv_X9_body lkc_X9_413 ht0 (r := (RX9, TX9, 70)) ⟨rfl, by decide, rfl⟩ rfl rfl (Nat.le_of_ble_eq_true rfl) ⟨(Nat.le_of_ble_eq_true rfl), (Nat.le_of_ble_eq_true rfl)⟩ ⟨(Nat.le_of_ble_eq_true rfl), (Nat.le_of_ble_eq_true rfl)⟩ dX9_walksAct_58 rfl rfl rfl ?_
    refine q_aload_n cx (pc' := 62) 0 rfl dX9_walksAct_61 rfl ?_
    refine q_iload_n cx (pc' := 63) 1 rfl dX9_walksAct_62 rfl ?_
    refine q_iload_n cx (pc' := 64) 2 rfl dX9_walksAct_63 rfl ?_
    obtain ⟨hk64, h⟩ := ck_i h
    obtain ⟨⟨c64, M64⟩, hc64, h⟩ := bnd_i h
    replace h := pr2_i h
    refine q_callV cx (pc' := 67) (S := []) (S1 := [.int c64]) (kc' := 0) (ks' := 0) 9 (ct_X9_walkerWalks Γ l M58 ths p1 p2 hk64 _ _ hc64) lki_X9_walkerWalks lkv_X9_walkerWalks lkc_X9_416 hk64 (r := (RX9, TX9, 70)) ⟨rfl, by decide, rfl⟩ rfl rfl (Nat.le_of_ble_eq_true rfl) ⟨(Nat.le_of_ble_eq_true rfl), (Nat.le_of_ble_eq_true rfl)⟩ ⟨(Nat.le_of_ble_eq_true rfl), (Nat.le_of_ble_eq_true rfl)⟩ dX9_walksAct_64 rfl rfl rfl ?_
    refine q_ineg cx (pc' := 68) dX9_walksAct_67 rfl ?_
    obtain ⟨rfl, rfl⟩ := o2_i h
    rw [hQ]
    exact q_iret cx dX9_walksAct_68
  replace h := ine c6_1 h
  rcases Decidable.em (x5 = 5) with c6_2 | c6_2
  · replace h := ip c6_2 h
    refine q_tabIn cx (off := 34) (tgt := 40) c6_2 dX9_walksAct_6 (by decide) (by decide) ?_
    refine q_aload_n cx (pc' := 41) 0 rfl dX9_walksAct_40 rfl ?_
    refine q_bipush cx (pc' := 43) kb_30 dX9_walksAct_41 rfl ?_
    obtain ⟨M43, hc43, h⟩ := bnd_i h
    refine q_callV cx (pc' := 46) (S := []) (S1 := []) (kc' := 0) (ks' := 0) 9 (ct_X9_body Γ l M ths 30 ht0 _ hc43) lki_X9_body lkv_X9_body lkc_X9_413 ht0 (r := (RX9, TX9, 70)) ⟨rfl, by decide, rfl⟩ rfl rfl (Nat.le_of_ble_eq_true rfl) ⟨(Nat.le_of_ble_eq_true rfl), (Nat.le_of_ble_eq_true rfl)⟩ ⟨(Nat.le_of_ble_eq_true rfl), (Nat.le_of_ble_eq_true rfl)⟩ dX9_walksAct_43 rfl rfl rfl ?_
    refine q_aload_n cx (pc' := 47) 0 rfl dX9_walksAct_46 rfl ?_
    refine q_iload_n cx (pc' := 48) 1 rfl dX9_walksAct_47 rfl ?_
    refine q_iload_n cx (pc' := 49) 2 rfl dX9_walksAct_48 rfl ?_
    refine q_iconst cx (pc' := 50) ki_3 dX9_walksAct_49 rfl ?_
    refine q_imul cx (pc' := 51) dX9_walksAct_50 rfl ?_
    obtain ⟨hk51, h⟩ := ck_i h
    obtain ⟨⟨c51, M51⟩, hc51, h⟩ := bnd_i h
    replace h := pr2_i h
    refine q_callV cx (pc' := 54) (S := []) (S1 := [.int c51]) (kc' := 0) (ks' := 0) 9 (ct_X9_walkerWalks Γ l M43 ths p1 (p2 * 3) hk51 _ _ hc51) lki_X9_walkerWalks lkv_X9_walkerWalks lkc_X9_416 hk51 (r := (RX9, TX9, 70)) ⟨rfl, by decide, rfl⟩ rfl rfl (Nat.le_of_ble_eq_true rfl) ⟨(Nat.le_of_ble_eq_true rfl), (Nat.le_of_ble_eq_true rfl)⟩ ⟨(Nat.le_of_ble_eq_true rfl), (Nat.le_of_ble_eq_true rfl)⟩ dX9_walksAct_51 rfl rfl rfl ?_
    obtain ⟨rfl, rfl⟩ := o2_i h
    rw [hQ]
    exact q_iret cx dX9_walksAct_54
  replace h := ine c6_2 h
  rcases Decidable.em (x5 = 6) with c6_3 | c6_3
  · replace h := ip c6_3 h
    refine q_tabIn cx (off := 63) (tgt := 69) c6_3 dX9_walksAct_6 (by decide) (by decide) ?_
    refine q_aload_n cx (pc' := 70) 0 rfl dX9_walksAct_69 rfl ?_
    refine q_bipush cx (pc' := 72) kb_71 dX9_walksAct_70 rfl ?_
    obtain ⟨M72, hc72, h⟩ := bnd_i h
    refine q_callV cx (pc' := 75) (S := []) (S1 := []) (kc' := 0) (ks' := 0) 9 (ct_X9_body Γ l M ths 71 ht0 _ hc72) lki_X9_body lkv_X9_body lkc_X9_413 ht0 (r := (RX9, TX9, 70)) ⟨rfl, by decide, rfl⟩ rfl rfl (Nat.le_of_ble_eq_true rfl) ⟨(Nat.le_of_ble_eq_true rfl), (Nat.le_of_ble_eq_true rfl)⟩ ⟨(Nat.le_of_ble_eq_true rfl), (Nat.le_of_ble_eq_true rfl)⟩ dX9_walksAct_72 rfl rfl rfl ?_
    refine q_aload_n cx (pc' := 76) 0 rfl dX9_walksAct_75 rfl ?_
    refine q_iload_n cx (pc' := 77) 1 rfl dX9_walksAct_76 rfl ?_
    refine q_iload_n cx (pc' := 78) 2 rfl dX9_walksAct_77 rfl ?_
    obtain ⟨hk78, h⟩ := ck_i h
    obtain ⟨⟨c78, M78⟩, hc78, h⟩ := bnd_i h
    replace h := pr2_i h
    refine q_callV cx (pc' := 81) (S := []) (S1 := [.int c78]) (kc' := 0) (ks' := 0) 9 (ct_X9_walkerWalks Γ l M72 ths p1 p2 hk78 _ _ hc78) lki_X9_walkerWalks lkv_X9_walkerWalks lkc_X9_416 hk78 (r := (RX9, TX9, 70)) ⟨rfl, by decide, rfl⟩ rfl rfl (Nat.le_of_ble_eq_true rfl) ⟨(Nat.le_of_ble_eq_true rfl), (Nat.le_of_ble_eq_true rfl)⟩ ⟨(Nat.le_of_ble_eq_true rfl), (Nat.le_of_ble_eq_true rfl)⟩ dX9_walksAct_78 rfl rfl rfl ?_
    refine q_aload_n cx (pc' := 82) 0 rfl dX9_walksAct_81 rfl ?_
    obtain ⟨ht82, r82, ex82, h⟩ := gR_i h
    refine q_gR cx (pc' := 85) 9 4 fl_X9_23 rfl ht82 ex82 dX9_walksAct_82 rfl ?_
    refine q_iload_n cx (pc' := 86) 1 rfl dX9_walksAct_85 rfl ?_
    obtain ⟨ht86, hi86, x86, ex86, h⟩ := aI_i h
    refine q_iald cx (pc' := 87) ht86 hi86 ex86 dX9_walksAct_86 rfl ?_
    refine q_ixor cx (pc' := 88) dX9_walksAct_87 rfl ?_
    obtain ⟨rfl, rfl⟩ := o2_i h
    rw [hQ]
    exact q_iret cx dX9_walksAct_88
  replace h := ine c6_3 h
  by_cases d6_3 : x5 = 3
  · refine q_tabIn cx (off := 83) (tgt := 89) d6_3 dX9_walksAct_6 (by decide) (by decide) ?_
    refine q_aload_n cx (pc' := 90) 0 rfl dX9_walksAct_89 rfl ?_
    refine q_iload_n cx (pc' := 91) 1 rfl dX9_walksAct_90 rfl ?_
    refine q_iload_n cx (pc' := 92) 2 rfl dX9_walksAct_91 rfl ?_
    obtain ⟨⟨c92, M92⟩, hc92, h⟩ := bnd_i h
    replace h := pr2_i h
    refine q_callV cx (pc' := 95) (S := []) (S1 := [.int c92]) (kc' := 0) (ks' := 0) 9 (ct_X9_walkerWalks Γ l M ths p1 p2 ht0 _ _ hc92) lki_X9_walkerWalks lkv_X9_walkerWalks lkc_X9_416 ht0 (r := (RX9, TX9, 70)) ⟨rfl, by decide, rfl⟩ rfl rfl (Nat.le_of_ble_eq_true rfl) ⟨(Nat.le_of_ble_eq_true rfl), (Nat.le_of_ble_eq_true rfl)⟩ ⟨(Nat.le_of_ble_eq_true rfl), (Nat.le_of_ble_eq_true rfl)⟩ dX9_walksAct_92 rfl rfl rfl ?_
    obtain ⟨rfl, rfl⟩ := o2_i h
    rw [hQ]
    exact q_iret cx dX9_walksAct_95
  have nt6_0 := lv_neT c6_0 (a := 2) rfl
  have nt6_1 := lv_neT c6_1 (a := 4) rfl
  have nt6_2 := lv_neT c6_2 (a := 5) rfl
  have nt6_3 := lv_neT c6_3 (a := 6) rfl
  have nd6_3 := lv_neT d6_3 (a := 3) rfl
  refine q_tabOut cx (tgt := 89) dX9_walksAct_6 (by omega) (by decide) ?_
  refine q_aload_n cx (pc' := 90) 0 rfl dX9_walksAct_89 rfl ?_
  refine q_iload_n cx (pc' := 91) 1 rfl dX9_walksAct_90 rfl ?_
  refine q_iload_n cx (pc' := 92) 2 rfl dX9_walksAct_91 rfl ?_
  obtain ⟨⟨c92, M92⟩, hc92, h⟩ := bnd_i h
  replace h := pr2_i h
  refine q_callV cx (pc' := 95) (S := []) (S1 := [.int c92]) (kc' := 0) (ks' := 0) 9 (ct_X9_walkerWalks Γ l M ths p1 p2 ht0 _ _ hc92) lki_X9_walkerWalks lkv_X9_walkerWalks lkc_X9_416 ht0 (r := (RX9, TX9, 70)) ⟨rfl, by decide, rfl⟩ rfl rfl (Nat.le_of_ble_eq_true rfl) ⟨(Nat.le_of_ble_eq_true rfl), (Nat.le_of_ble_eq_true rfl)⟩ ⟨(Nat.le_of_ble_eq_true rfl), (Nat.le_of_ble_eq_true rfl)⟩ dX9_walksAct_92 rfl rfl rfl ?_
  obtain ⟨rfl, rfl⟩ := o2_i h
  rw [hQ]
  exact q_iret cx dX9_walksAct_95

abbrev rm_X9_walkerSinks : Room := { frames := 4, cells := 0, slots := 0, locals := 105 }
def fn_X9_walkerSinks (M : QM) (ths : Nat) (p1 : Int32) (p2 : Int32) : Option (Int32 × QM) :=
  bnd (fn_X9_body M ths 11) fun M3 =>
  ck M3 ths 9 <|
  bnd (fn_X9_walksAct M3 ths p1 p2) fun y9 =>
  pr2 y9 fun c9 M9 =>
  gR M9 ths 9 4 fun r13 =>
  aI M9 20 r13 p1 fun x17 =>
  some ((c9 - x17), M9)
set_option maxRecDepth 100000 in
set_option maxHeartbeats 4000000 in
theorem ct_X9_walkerSinks (Γ : GT) (l : Launch) (M : QM) (ths : Nat) (p1 : Int32) (p2 : Int32) (ht0 : mt M ths = 9) (z : Int32) (M' : QM) (h : fn_X9_walkerSinks M ths p1 p2 = some (z, M')) : CT Γ l yX9_walkerSinks cX9_walkerSinks 3 (some .int) rm_X9_walkerSinks (.ref ths :: [.int p1, .int p2]) M (some (.int z)) M' := by
  refine ct_intro (own := RX9) (L := [(0, .ref ths), (1, .int p1), (2, .int p2)]) (by decide +kernel) rfl (Nat.le_of_ble_eq_true rfl) rfl ?_
  intro p e s m args below meth c Q hQ cx hnm
  unfold fn_X9_walkerSinks at h
  refine q_aload_n cx (pc' := 1) 0 rfl dX9_walkerSinks_0 rfl ?_
  refine q_bipush cx (pc' := 3) kb_11 dX9_walkerSinks_1 rfl ?_
  obtain ⟨M3, hc3, h⟩ := bnd_i h
  refine q_callV cx (pc' := 6) (S := []) (S1 := []) (kc' := 0) (ks' := 0) 9 (ct_X9_body Γ l M ths 11 ht0 _ hc3) lki_X9_body lkv_X9_body lkc_X9_413 ht0 (r := (RX9, TX9, 70)) ⟨rfl, by decide, rfl⟩ rfl rfl (Nat.le_of_ble_eq_true rfl) ⟨(Nat.le_of_ble_eq_true rfl), (Nat.le_of_ble_eq_true rfl)⟩ ⟨(Nat.le_of_ble_eq_true rfl), (Nat.le_of_ble_eq_true rfl)⟩ dX9_walkerSinks_3 rfl rfl rfl ?_
  refine q_aload_n cx (pc' := 7) 0 rfl dX9_walkerSinks_6 rfl ?_
  refine q_iload_n cx (pc' := 8) 1 rfl dX9_walkerSinks_7 rfl ?_
  refine q_iload_n cx (pc' := 9) 2 rfl dX9_walkerSinks_8 rfl ?_
  obtain ⟨hk9, h⟩ := ck_i h
  obtain ⟨⟨c9, M9⟩, hc9, h⟩ := bnd_i h
  replace h := pr2_i h
  refine q_callV cx (pc' := 12) (S := []) (S1 := [.int c9]) (kc' := 0) (ks' := 0) 9 (ct_X9_walksAct Γ l M3 ths p1 p2 hk9 _ _ hc9) lki_X9_walksAct lkv_X9_walksAct lkc_X9_419 hk9 (r := (RX9, TX9, 70)) ⟨rfl, by decide, rfl⟩ rfl rfl (Nat.le_of_ble_eq_true rfl) ⟨(Nat.le_of_ble_eq_true rfl), (Nat.le_of_ble_eq_true rfl)⟩ ⟨(Nat.le_of_ble_eq_true rfl), (Nat.le_of_ble_eq_true rfl)⟩ dX9_walkerSinks_9 rfl rfl rfl ?_
  refine q_aload_n cx (pc' := 13) 0 rfl dX9_walkerSinks_12 rfl ?_
  obtain ⟨ht13, r13, ex13, h⟩ := gR_i h
  refine q_gR cx (pc' := 16) 9 4 fl_X9_23 rfl ht13 ex13 dX9_walkerSinks_13 rfl ?_
  refine q_iload_n cx (pc' := 17) 1 rfl dX9_walkerSinks_16 rfl ?_
  obtain ⟨ht17, hi17, x17, ex17, h⟩ := aI_i h
  refine q_iald cx (pc' := 18) ht17 hi17 ex17 dX9_walkerSinks_17 rfl ?_
  refine q_isub cx (pc' := 19) dX9_walkerSinks_18 rfl ?_
  obtain ⟨rfl, rfl⟩ := o2_i h
  rw [hQ]
  exact q_iret cx dX9_walkerSinks_19

abbrev rm_X9_shrewSinks : Room := { frames := 5, cells := 0, slots := 0, locals := 127 }
def fn_X9_shrewSinks (M : QM) (ths : Nat) (p1 : Int32) (p2 : Int32) : Option (Int32 × QM) :=
  bnd (fn_X9_body M ths 20) fun M3 =>
  ck M3 ths 9 <|
  bnd (fn_X9_walkerSinks M3 ths p1 p2) fun y9 =>
  pr2 y9 fun c9 M9 =>
  some ((c9 ^^^ 6), M9)
set_option maxRecDepth 100000 in
set_option maxHeartbeats 4000000 in
theorem ct_X9_shrewSinks (Γ : GT) (l : Launch) (M : QM) (ths : Nat) (p1 : Int32) (p2 : Int32) (ht0 : mt M ths = 9) (z : Int32) (M' : QM) (h : fn_X9_shrewSinks M ths p1 p2 = some (z, M')) : CT Γ l yX9_shrewSinks cX9_shrewSinks 3 (some .int) rm_X9_shrewSinks (.ref ths :: [.int p1, .int p2]) M (some (.int z)) M' := by
  refine ct_intro (own := RX9) (L := [(0, .ref ths), (1, .int p1), (2, .int p2)]) (by decide +kernel) rfl (Nat.le_of_ble_eq_true rfl) rfl ?_
  intro p e s m args below meth c Q hQ cx hnm
  unfold fn_X9_shrewSinks at h
  refine q_aload_n cx (pc' := 1) 0 rfl dX9_shrewSinks_0 rfl ?_
  refine q_bipush cx (pc' := 3) kb_20 dX9_shrewSinks_1 rfl ?_
  obtain ⟨M3, hc3, h⟩ := bnd_i h
  refine q_callV cx (pc' := 6) (S := []) (S1 := []) (kc' := 0) (ks' := 0) 9 (ct_X9_body Γ l M ths 20 ht0 _ hc3) lki_X9_body lkv_X9_body lkc_X9_413 ht0 (r := (RX9, TX9, 70)) ⟨rfl, by decide, rfl⟩ rfl rfl (Nat.le_of_ble_eq_true rfl) ⟨(Nat.le_of_ble_eq_true rfl), (Nat.le_of_ble_eq_true rfl)⟩ ⟨(Nat.le_of_ble_eq_true rfl), (Nat.le_of_ble_eq_true rfl)⟩ dX9_shrewSinks_3 rfl rfl rfl ?_
  refine q_aload_n cx (pc' := 7) 0 rfl dX9_shrewSinks_6 rfl ?_
  refine q_iload_n cx (pc' := 8) 1 rfl dX9_shrewSinks_7 rfl ?_
  refine q_iload_n cx (pc' := 9) 2 rfl dX9_shrewSinks_8 rfl ?_
  obtain ⟨hk9, h⟩ := ck_i h
  obtain ⟨⟨c9, M9⟩, hc9, h⟩ := bnd_i h
  replace h := pr2_i h
  refine q_callV cx (pc' := 12) (S := []) (S1 := [.int c9]) (kc' := 0) (ks' := 0) 9 (ct_X9_walkerSinks Γ l M3 ths p1 p2 hk9 _ _ hc9) lki_X9_walkerSinks lkv_X9_walkerSinks lkc_X9_422 hk9 (r := (RX9, TX9, 70)) ⟨rfl, by decide, rfl⟩ rfl rfl (Nat.le_of_ble_eq_true rfl) ⟨(Nat.le_of_ble_eq_true rfl), (Nat.le_of_ble_eq_true rfl)⟩ ⟨(Nat.le_of_ble_eq_true rfl), (Nat.le_of_ble_eq_true rfl)⟩ dX9_shrewSinks_9 rfl rfl rfl ?_
  refine q_bipush cx (pc' := 14) kb_6 dX9_shrewSinks_12 rfl ?_
  refine q_ixor cx (pc' := 15) dX9_shrewSinks_14 rfl ?_
  obtain ⟨rfl, rfl⟩ := o2_i h
  rw [hQ]
  exact q_iret cx dX9_shrewSinks_15

abbrev rm_X9_sinksAct : Room := { frames := 6, cells := 0, slots := 0, locals := 149 }
def fn_X9_sinksAct (M : QM) (ths : Nat) (p1 : Int32) (p2 : Int32) : Option (Int32 × QM) :=
  gR M ths 9 3 fun r1 =>
  aI M 20 r1 p1 fun x5 =>
  if x5 = 1 then
    bnd (fn_X9_shrewSinks M ths p1 p2) fun y43 =>
    pr2 y43 fun c43 M43 =>
    some (c43, M43)
  else if x5 = 4 then
    bnd (fn_X9_body M ths 51) fun M50 =>
    ck M50 ths 9 <|
    bnd (fn_X9_shrewSinks M50 ths p1 (p2 + 1)) fun y58 =>
    pr2 y58 fun c58 M58 =>
    some (c58, M58)
  else if x5 = 6 then
    bnd (fn_X9_body M ths 70) fun M65 =>
    ck M65 ths 9 <|
    bnd (fn_X9_walkerSinks M65 ths p1 p2) fun y71 =>
    pr2 y71 fun c71 M71 =>
    ck M71 ths 9 <|
    bnd (fn_X9_walkerWalks M71 ths p1 2) fun y79 =>
    pr2 y79 fun c79 M79 =>
    some ((c71 + c79), M79)
  else 
    bnd (fn_X9_walkerSinks M ths p1 p2) fun y87 =>
    pr2 y87 fun c87 M87 =>
    some (c87, M87)
set_option maxRecDepth 100000 in
set_option maxHeartbeats 4000000 in
theorem ct_X9_sinksAct (Γ : GT) (l : Launch) (M : QM) (ths : Nat) (p1 : Int32) (p2 : Int32) (ht0 : mt M ths = 9) (z : Int32) (M' : QM) (h : fn_X9_sinksAct M ths p1 p2 = some (z, M')) : CT Γ l yX9_sinksAct cX9_sinksAct 4 (some .int) rm_X9_sinksAct (.ref ths :: [.int p1, .int p2]) M (some (.int z)) M' := by
  refine ct_intro (own := RX9) (L := [(0, .ref ths), (1, .int p1), (2, .int p2)]) (by decide +kernel) rfl (Nat.le_of_ble_eq_true rfl) rfl ?_
  intro p e s m args below meth c Q hQ cx hnm
  unfold fn_X9_sinksAct at h
  refine q_aload_n cx (pc' := 1) 0 rfl dX9_sinksAct_0 rfl ?_
  obtain ⟨ht1, r1, ex1, h⟩ := gR_i h
  refine q_gR cx (pc' := 4) 9 3 fl_X9_20 rfl ht1 ex1 dX9_sinksAct_1 rfl ?_
  refine q_iload_n cx (pc' := 5) 1 rfl dX9_sinksAct_4 rfl ?_
  obtain ⟨ht5, hi5, x5, ex5, h⟩ := aI_i h
  refine q_iald cx (pc' := 6) ht5 hi5 ex5 dX9_sinksAct_5 rfl ?_
  rcases Decidable.em (x5 = 1) with c6_0 | c6_0
  · replace h := ip c6_0 h
    refine q_lookup cx (off := 34) (tgt := 40) dX9_sinksAct_6 (by decide) (by rw [c6_0]; decide) (by decide) ?_
    refine q_aload_n cx (pc' := 41) 0 rfl dX9_sinksAct_40 rfl ?_
    refine q_iload_n cx (pc' := 42) 1 rfl dX9_sinksAct_41 rfl ?_
    refine q_iload_n cx (pc' := 43) 2 rfl dX9_sinksAct_42 rfl ?_
    obtain ⟨⟨c43, M43⟩, hc43, h⟩ := bnd_i h
    replace h := pr2_i h
    refine q_callV cx (pc' := 46) (S := []) (S1 := [.int c43]) (kc' := 0) (ks' := 0) 9 (ct_X9_shrewSinks Γ l M ths p1 p2 ht0 _ _ hc43) lki_X9_shrewSinks lkv_X9_shrewSinks lkc_X9_425 ht0 (r := (RX9, TX9, 70)) ⟨rfl, by decide, rfl⟩ rfl rfl (Nat.le_of_ble_eq_true rfl) ⟨(Nat.le_of_ble_eq_true rfl), (Nat.le_of_ble_eq_true rfl)⟩ ⟨(Nat.le_of_ble_eq_true rfl), (Nat.le_of_ble_eq_true rfl)⟩ dX9_sinksAct_43 rfl rfl rfl ?_
    obtain ⟨rfl, rfl⟩ := o2_i h
    rw [hQ]
    exact q_iret cx dX9_sinksAct_46
  replace h := ine c6_0 h
  rcases Decidable.em (x5 = 4) with c6_1 | c6_1
  · replace h := ip c6_1 h
    refine q_lookup cx (off := 41) (tgt := 47) dX9_sinksAct_6 (by decide) (by rw [c6_1]; decide) (by decide) ?_
    refine q_aload_n cx (pc' := 48) 0 rfl dX9_sinksAct_47 rfl ?_
    refine q_bipush cx (pc' := 50) kb_51 dX9_sinksAct_48 rfl ?_
    obtain ⟨M50, hc50, h⟩ := bnd_i h
    refine q_callV cx (pc' := 53) (S := []) (S1 := []) (kc' := 0) (ks' := 0) 9 (ct_X9_body Γ l M ths 51 ht0 _ hc50) lki_X9_body lkv_X9_body lkc_X9_413 ht0 (r := (RX9, TX9, 70)) ⟨rfl, by decide, rfl⟩ rfl rfl (Nat.le_of_ble_eq_true rfl) ⟨(Nat.le_of_ble_eq_true rfl), (Nat.le_of_ble_eq_true rfl)⟩ ⟨(Nat.le_of_ble_eq_true rfl), (Nat.le_of_ble_eq_true rfl)⟩ dX9_sinksAct_50 rfl rfl rfl ?_
    refine q_aload_n cx (pc' := 54) 0 rfl dX9_sinksAct_53 rfl ?_
    refine q_iload_n cx (pc' := 55) 1 rfl dX9_sinksAct_54 rfl ?_
    refine q_iload_n cx (pc' := 56) 2 rfl dX9_sinksAct_55 rfl ?_
    refine q_iconst cx (pc' := 57) ki_1 dX9_sinksAct_56 rfl ?_
    refine q_iadd cx (pc' := 58) dX9_sinksAct_57 rfl ?_
    obtain ⟨hk58, h⟩ := ck_i h
    obtain ⟨⟨c58, M58⟩, hc58, h⟩ := bnd_i h
    replace h := pr2_i h
    refine q_callV cx (pc' := 61) (S := []) (S1 := [.int c58]) (kc' := 0) (ks' := 0) 9 (ct_X9_shrewSinks Γ l M50 ths p1 (p2 + 1) hk58 _ _ hc58) lki_X9_shrewSinks lkv_X9_shrewSinks lkc_X9_425 hk58 (r := (RX9, TX9, 70)) ⟨rfl, by decide, rfl⟩ rfl rfl (Nat.le_of_ble_eq_true rfl) ⟨(Nat.le_of_ble_eq_true rfl), (Nat.le_of_ble_eq_true rfl)⟩ ⟨(Nat.le_of_ble_eq_true rfl), (Nat.le_of_ble_eq_true rfl)⟩ dX9_sinksAct_58 rfl rfl rfl ?_
    obtain ⟨rfl, rfl⟩ := o2_i h
    rw [hQ]
    exact q_iret cx dX9_sinksAct_61
  replace h := ine c6_1 h
  rcases Decidable.em (x5 = 6) with c6_2 | c6_2
  · replace h := ip c6_2 h
    refine q_lookup cx (off := 56) (tgt := 62) dX9_sinksAct_6 (by decide) (by rw [c6_2]; decide) (by decide) ?_
    refine q_aload_n cx (pc' := 63) 0 rfl dX9_sinksAct_62 rfl ?_
    refine q_bipush cx (pc' := 65) kb_70 dX9_sinksAct_63 rfl ?_
    obtain ⟨M65, hc65, h⟩ := bnd_i h
    refine q_callV cx (pc' := 68) (S := []) (S1 := []) (kc' := 0) (ks' := 0) 9 (ct_X9_body Γ l M ths 70 ht0 _ hc65) lki_X9_body lkv_X9_body lkc_X9_413 ht0 (r := (RX9, TX9, 70)) ⟨rfl, by decide, rfl⟩ rfl rfl (Nat.le_of_ble_eq_true rfl) ⟨(Nat.le_of_ble_eq_true rfl), (Nat.le_of_ble_eq_true rfl)⟩ ⟨(Nat.le_of_ble_eq_true rfl), (Nat.le_of_ble_eq_true rfl)⟩ dX9_sinksAct_65 rfl rfl rfl ?_
    refine q_aload_n cx (pc' := 69) 0 rfl dX9_sinksAct_68 rfl ?_
    refine q_iload_n cx (pc' := 70) 1 rfl dX9_sinksAct_69 rfl ?_
    refine q_iload_n cx (pc' := 71) 2 rfl dX9_sinksAct_70 rfl ?_
    obtain ⟨hk71, h⟩ := ck_i h
    obtain ⟨⟨c71, M71⟩, hc71, h⟩ := bnd_i h
    replace h := pr2_i h
    refine q_callV cx (pc' := 74) (S := []) (S1 := [.int c71]) (kc' := 0) (ks' := 0) 9 (ct_X9_walkerSinks Γ l M65 ths p1 p2 hk71 _ _ hc71) lki_X9_walkerSinks lkv_X9_walkerSinks lkc_X9_422 hk71 (r := (RX9, TX9, 70)) ⟨rfl, by decide, rfl⟩ rfl rfl (Nat.le_of_ble_eq_true rfl) ⟨(Nat.le_of_ble_eq_true rfl), (Nat.le_of_ble_eq_true rfl)⟩ ⟨(Nat.le_of_ble_eq_true rfl), (Nat.le_of_ble_eq_true rfl)⟩ dX9_sinksAct_71 rfl rfl rfl ?_
    refine q_istore_n cx (pc' := 75) rfl rfl (by decide) (L' := [(3, .int c71), (0, .ref ths), (1, .int p1), (2, .int p2)]) rfl dX9_sinksAct_74 rfl ?_
    refine q_iload_n cx (pc' := 76) 0 rfl dX9_sinksAct_75 rfl ?_
    refine q_aload_n cx (pc' := 77) 1 rfl dX9_sinksAct_76 rfl ?_
    refine q_iload_n cx (pc' := 78) 2 rfl dX9_sinksAct_77 rfl ?_
    refine q_iconst cx (pc' := 79) ki_2 dX9_sinksAct_78 rfl ?_
    obtain ⟨hk79, h⟩ := ck_i h
    obtain ⟨⟨c79, M79⟩, hc79, h⟩ := bnd_i h
    replace h := pr2_i h
    refine q_callV cx (pc' := 82) (S := [.int c71]) (S1 := [.int c79, .int c71]) (kc' := 0) (ks' := 0) 9 (ct_X9_walkerWalks Γ l M71 ths p1 2 hk79 _ _ hc79) lki_X9_walkerWalks lkv_X9_walkerWalks lkc_X9_416 hk79 (r := (RX9, TX9, 70)) ⟨rfl, by decide, rfl⟩ rfl rfl (Nat.le_of_ble_eq_true rfl) ⟨(Nat.le_of_ble_eq_true rfl), (Nat.le_of_ble_eq_true rfl)⟩ ⟨(Nat.le_of_ble_eq_true rfl), (Nat.le_of_ble_eq_true rfl)⟩ dX9_sinksAct_79 rfl rfl rfl ?_
    refine q_iadd cx (pc' := 83) dX9_sinksAct_82 rfl ?_
    obtain ⟨rfl, rfl⟩ := o2_i h
    rw [hQ]
    exact q_iret cx dX9_sinksAct_83
  replace h := ine c6_2 h
  refine q_lookup cx (off := 78) (tgt := 84) dX9_sinksAct_6 (by decide) ((lv_osw c6_0 (a := 1) rfl).trans ((lv_osw c6_1 (a := 4) rfl).trans ((lv_osw c6_2 (a := 6) rfl).trans rfl))) (by decide) ?_
  refine q_aload_n cx (pc' := 85) 0 rfl dX9_sinksAct_84 rfl ?_
  refine q_iload_n cx (pc' := 86) 1 rfl dX9_sinksAct_85 rfl ?_
  refine q_iload_n cx (pc' := 87) 2 rfl dX9_sinksAct_86 rfl ?_
  obtain ⟨⟨c87, M87⟩, hc87, h⟩ := bnd_i h
  replace h := pr2_i h
  refine q_callV cx (pc' := 90) (S := []) (S1 := [.int c87]) (kc' := 0) (ks' := 0) 9 (ct_X9_walkerSinks Γ l M ths p1 p2 ht0 _ _ hc87) lki_X9_walkerSinks lkv_X9_walkerSinks lkc_X9_422 ht0 (r := (RX9, TX9, 70)) ⟨rfl, by decide, rfl⟩ rfl rfl (Nat.le_of_ble_eq_true rfl) ⟨(Nat.le_of_ble_eq_true rfl), (Nat.le_of_ble_eq_true rfl)⟩ ⟨(Nat.le_of_ble_eq_true rfl), (Nat.le_of_ble_eq_true rfl)⟩ dX9_sinksAct_87 rfl rfl rfl ?_
  obtain ⟨rfl, rfl⟩ := o2_i h
  rw [hQ]
  exact q_iret cx dX9_sinksAct_90

abbrev rm_X9_walkerTells : Room := { frames := 7, cells := 0, slots := 0, locals := 172 }
def fn_X9_walkerTells (M : QM) (ths : Nat) (p1 : Int32) (p2 : Int32) : Option (Int32 × QM) :=
  bnd (fn_X9_body M ths 12) fun M3 =>
  ck M3 ths 9 <|
  bnd (fn_X9_sinksAct M3 ths p1 p2) fun y9 =>
  pr2 y9 fun c9 M9 =>
  some ((c9 * 2), M9)
set_option maxRecDepth 100000 in
set_option maxHeartbeats 4000000 in
theorem ct_X9_walkerTells (Γ : GT) (l : Launch) (M : QM) (ths : Nat) (p1 : Int32) (p2 : Int32) (ht0 : mt M ths = 9) (z : Int32) (M' : QM) (h : fn_X9_walkerTells M ths p1 p2 = some (z, M')) : CT Γ l yX9_walkerTells cX9_walkerTells 3 (some .int) rm_X9_walkerTells (.ref ths :: [.int p1, .int p2]) M (some (.int z)) M' := by
  refine ct_intro (own := RX9) (L := [(0, .ref ths), (1, .int p1), (2, .int p2)]) (by decide +kernel) rfl (Nat.le_of_ble_eq_true rfl) rfl ?_
  intro p e s m args below meth c Q hQ cx hnm
  unfold fn_X9_walkerTells at h
  refine q_aload_n cx (pc' := 1) 0 rfl dX9_walkerTells_0 rfl ?_
  refine q_bipush cx (pc' := 3) kb_12 dX9_walkerTells_1 rfl ?_
  obtain ⟨M3, hc3, h⟩ := bnd_i h
  refine q_callV cx (pc' := 6) (S := []) (S1 := []) (kc' := 0) (ks' := 0) 9 (ct_X9_body Γ l M ths 12 ht0 _ hc3) lki_X9_body lkv_X9_body lkc_X9_413 ht0 (r := (RX9, TX9, 70)) ⟨rfl, by decide, rfl⟩ rfl rfl (Nat.le_of_ble_eq_true rfl) ⟨(Nat.le_of_ble_eq_true rfl), (Nat.le_of_ble_eq_true rfl)⟩ ⟨(Nat.le_of_ble_eq_true rfl), (Nat.le_of_ble_eq_true rfl)⟩ dX9_walkerTells_3 rfl rfl rfl ?_
  refine q_aload_n cx (pc' := 7) 0 rfl dX9_walkerTells_6 rfl ?_
  refine q_iload_n cx (pc' := 8) 1 rfl dX9_walkerTells_7 rfl ?_
  refine q_iload_n cx (pc' := 9) 2 rfl dX9_walkerTells_8 rfl ?_
  obtain ⟨hk9, h⟩ := ck_i h
  obtain ⟨⟨c9, M9⟩, hc9, h⟩ := bnd_i h
  replace h := pr2_i h
  refine q_callV cx (pc' := 12) (S := []) (S1 := [.int c9]) (kc' := 0) (ks' := 0) 9 (ct_X9_sinksAct Γ l M3 ths p1 p2 hk9 _ _ hc9) lki_X9_sinksAct lkv_X9_sinksAct lkc_X9_428 hk9 (r := (RX9, TX9, 70)) ⟨rfl, by decide, rfl⟩ rfl rfl (Nat.le_of_ble_eq_true rfl) ⟨(Nat.le_of_ble_eq_true rfl), (Nat.le_of_ble_eq_true rfl)⟩ ⟨(Nat.le_of_ble_eq_true rfl), (Nat.le_of_ble_eq_true rfl)⟩ dX9_walkerTells_9 rfl rfl rfl ?_
  refine q_iconst cx (pc' := 13) ki_2 dX9_walkerTells_12 rfl ?_
  refine q_imul cx (pc' := 14) dX9_walkerTells_13 rfl ?_
  obtain ⟨rfl, rfl⟩ := o2_i h
  rw [hQ]
  exact q_iret cx dX9_walkerTells_14

abbrev rm_X9_tellsAct : Room := { frames := 8, cells := 0, slots := 0, locals := 194 }
def fn_X9_tellsAct (M : QM) (ths : Nat) (p1 : Int32) (p2 : Int32) : Option (Int32 × QM) :=
  gR M ths 9 3 fun r1 =>
  aI M 20 r1 p1 fun x5 =>
  if x5 = 3 then
    bnd (fn_X9_body M ths 40) fun M39 =>
    ck M39 ths 9 <|
    bnd (fn_X9_walkerTells M39 ths p1 p2) fun y45 =>
    pr2 y45 fun c45 M45 =>
    ck M45 ths 9 <|
    bnd (fn_X9_sinksAct M45 ths p1 1) fun y53 =>
    pr2 y53 fun c53 M53 =>
    some ((c45 + c53), M53)
  else if x5 = 5 then
    bnd (fn_X9_body M ths 60) fun M61 =>
    ck M61 ths 9 <|
    bnd (fn_X9_walkerTells M61 ths p1 (p2 - p1)) fun y69 =>
    pr2 y69 fun c69 M69 =>
    some (c69, M69)
  else if x5 = 6 then
    bnd (fn_X9_body M ths 40) fun M39 =>
    ck M39 ths 9 <|
    bnd (fn_X9_walkerTells M39 ths p1 p2) fun y45 =>
    pr2 y45 fun c45 M45 =>
    ck M45 ths 9 <|
    bnd (fn_X9_sinksAct M45 ths p1 1) fun y53 =>
    pr2 y53 fun c53 M53 =>
    some ((c45 + c53), M53)
  else 
    bnd (fn_X9_walkerTells M ths p1 p2) fun y76 =>
    pr2 y76 fun c76 M76 =>
    some (c76, M76)
set_option maxRecDepth 100000 in
set_option maxHeartbeats 4000000 in
theorem ct_X9_tellsAct (Γ : GT) (l : Launch) (M : QM) (ths : Nat) (p1 : Int32) (p2 : Int32) (ht0 : mt M ths = 9) (z : Int32) (M' : QM) (h : fn_X9_tellsAct M ths p1 p2 = some (z, M')) : CT Γ l yX9_tellsAct cX9_tellsAct 4 (some .int) rm_X9_tellsAct (.ref ths :: [.int p1, .int p2]) M (some (.int z)) M' := by
  refine ct_intro (own := RX9) (L := [(0, .ref ths), (1, .int p1), (2, .int p2)]) (by decide +kernel) rfl (Nat.le_of_ble_eq_true rfl) rfl ?_
  intro p e s m args below meth c Q hQ cx hnm
  unfold fn_X9_tellsAct at h
  refine q_aload_n cx (pc' := 1) 0 rfl dX9_tellsAct_0 rfl ?_
  obtain ⟨ht1, r1, ex1, h⟩ := gR_i h
  refine q_gR cx (pc' := 4) 9 3 fl_X9_20 rfl ht1 ex1 dX9_tellsAct_1 rfl ?_
  refine q_iload_n cx (pc' := 5) 1 rfl dX9_tellsAct_4 rfl ?_
  obtain ⟨ht5, hi5, x5, ex5, h⟩ := aI_i h
  refine q_iald cx (pc' := 6) ht5 hi5 ex5 dX9_tellsAct_5 rfl ?_
  rcases Decidable.em (x5 = 3) with c6_0 | c6_0
  · replace h := ip c6_0 h
    refine q_tabIn cx (off := 30) (tgt := 36) c6_0 dX9_tellsAct_6 (by decide) (by decide) ?_
    refine q_aload_n cx (pc' := 37) 0 rfl dX9_tellsAct_36 rfl ?_
    refine q_bipush cx (pc' := 39) kb_40 dX9_tellsAct_37 rfl ?_
    obtain ⟨M39, hc39, h⟩ := bnd_i h
    refine q_callV cx (pc' := 42) (S := []) (S1 := []) (kc' := 0) (ks' := 0) 9 (ct_X9_body Γ l M ths 40 ht0 _ hc39) lki_X9_body lkv_X9_body lkc_X9_413 ht0 (r := (RX9, TX9, 70)) ⟨rfl, by decide, rfl⟩ rfl rfl (Nat.le_of_ble_eq_true rfl) ⟨(Nat.le_of_ble_eq_true rfl), (Nat.le_of_ble_eq_true rfl)⟩ ⟨(Nat.le_of_ble_eq_true rfl), (Nat.le_of_ble_eq_true rfl)⟩ dX9_tellsAct_39 rfl rfl rfl ?_
    refine q_aload_n cx (pc' := 43) 0 rfl dX9_tellsAct_42 rfl ?_
    refine q_iload_n cx (pc' := 44) 1 rfl dX9_tellsAct_43 rfl ?_
    refine q_iload_n cx (pc' := 45) 2 rfl dX9_tellsAct_44 rfl ?_
    obtain ⟨hk45, h⟩ := ck_i h
    obtain ⟨⟨c45, M45⟩, hc45, h⟩ := bnd_i h
    replace h := pr2_i h
    refine q_callV cx (pc' := 48) (S := []) (S1 := [.int c45]) (kc' := 0) (ks' := 0) 9 (ct_X9_walkerTells Γ l M39 ths p1 p2 hk45 _ _ hc45) lki_X9_walkerTells lkv_X9_walkerTells lkc_X9_431 hk45 (r := (RX9, TX9, 70)) ⟨rfl, by decide, rfl⟩ rfl rfl (Nat.le_of_ble_eq_true rfl) ⟨(Nat.le_of_ble_eq_true rfl), (Nat.le_of_ble_eq_true rfl)⟩ ⟨(Nat.le_of_ble_eq_true rfl), (Nat.le_of_ble_eq_true rfl)⟩ dX9_tellsAct_45 rfl rfl rfl ?_
    refine q_istore_n cx (pc' := 49) rfl rfl (by decide) (L' := [(3, .int c45), (0, .ref ths), (1, .int p1), (2, .int p2)]) rfl dX9_tellsAct_48 rfl ?_
    refine q_iload_n cx (pc' := 50) 0 rfl dX9_tellsAct_49 rfl ?_
    refine q_aload_n cx (pc' := 51) 1 rfl dX9_tellsAct_50 rfl ?_
    refine q_iload_n cx (pc' := 52) 2 rfl dX9_tellsAct_51 rfl ?_
    refine q_iconst cx (pc' := 53) ki_1 dX9_tellsAct_52 rfl ?_
    obtain ⟨hk53, h⟩ := ck_i h
    obtain ⟨⟨c53, M53⟩, hc53, h⟩ := bnd_i h
    replace h := pr2_i h
    refine q_callV cx (pc' := 56) (S := [.int c45]) (S1 := [.int c53, .int c45]) (kc' := 0) (ks' := 0) 9 (ct_X9_sinksAct Γ l M45 ths p1 1 hk53 _ _ hc53) lki_X9_sinksAct lkv_X9_sinksAct lkc_X9_428 hk53 (r := (RX9, TX9, 70)) ⟨rfl, by decide, rfl⟩ rfl rfl (Nat.le_of_ble_eq_true rfl) ⟨(Nat.le_of_ble_eq_true rfl), (Nat.le_of_ble_eq_true rfl)⟩ ⟨(Nat.le_of_ble_eq_true rfl), (Nat.le_of_ble_eq_true rfl)⟩ dX9_tellsAct_53 rfl rfl rfl ?_
    refine q_iadd cx (pc' := 57) dX9_tellsAct_56 rfl ?_
    obtain ⟨rfl, rfl⟩ := o2_i h
    rw [hQ]
    exact q_iret cx dX9_tellsAct_57
  replace h := ine c6_0 h
  rcases Decidable.em (x5 = 5) with c6_1 | c6_1
  · replace h := ip c6_1 h
    refine q_tabIn cx (off := 52) (tgt := 58) c6_1 dX9_tellsAct_6 (by decide) (by decide) ?_
    refine q_aload_n cx (pc' := 59) 0 rfl dX9_tellsAct_58 rfl ?_
    refine q_bipush cx (pc' := 61) kb_60 dX9_tellsAct_59 rfl ?_
    obtain ⟨M61, hc61, h⟩ := bnd_i h
    refine q_callV cx (pc' := 64) (S := []) (S1 := []) (kc' := 0) (ks' := 0) 9 (ct_X9_body Γ l M ths 60 ht0 _ hc61) lki_X9_body lkv_X9_body lkc_X9_413 ht0 (r := (RX9, TX9, 70)) ⟨rfl, by decide, rfl⟩ rfl rfl (Nat.le_of_ble_eq_true rfl) ⟨(Nat.le_of_ble_eq_true rfl), (Nat.le_of_ble_eq_true rfl)⟩ ⟨(Nat.le_of_ble_eq_true rfl), (Nat.le_of_ble_eq_true rfl)⟩ dX9_tellsAct_61 rfl rfl rfl ?_
    refine q_aload_n cx (pc' := 65) 0 rfl dX9_tellsAct_64 rfl ?_
    refine q_iload_n cx (pc' := 66) 1 rfl dX9_tellsAct_65 rfl ?_
    refine q_iload_n cx (pc' := 67) 2 rfl dX9_tellsAct_66 rfl ?_
    refine q_iload_n cx (pc' := 68) 1 rfl dX9_tellsAct_67 rfl ?_
    refine q_isub cx (pc' := 69) dX9_tellsAct_68 rfl ?_
    obtain ⟨hk69, h⟩ := ck_i h
    obtain ⟨⟨c69, M69⟩, hc69, h⟩ := bnd_i h
    replace h := pr2_i h
    refine q_callV cx (pc' := 72) (S := []) (S1 := [.int c69]) (kc' := 0) (ks' := 0) 9 (ct_X9_walkerTells Γ l M61 ths p1 (p2 - p1) hk69 _ _ hc69) lki_X9_walkerTells lkv_X9_walkerTells lkc_X9_431 hk69 (r := (RX9, TX9, 70)) ⟨rfl, by decide, rfl⟩ rfl rfl (Nat.le_of_ble_eq_true rfl) ⟨(Nat.le_of_ble_eq_true rfl), (Nat.le_of_ble_eq_true rfl)⟩ ⟨(Nat.le_of_ble_eq_true rfl), (Nat.le_of_ble_eq_true rfl)⟩ dX9_tellsAct_69 rfl rfl rfl ?_
    obtain ⟨rfl, rfl⟩ := o2_i h
    rw [hQ]
    exact q_iret cx dX9_tellsAct_72
  replace h := ine c6_1 h
  rcases Decidable.em (x5 = 6) with c6_2 | c6_2
  · replace h := ip c6_2 h
    refine q_tabIn cx (off := 30) (tgt := 36) c6_2 dX9_tellsAct_6 (by decide) (by decide) ?_
    refine q_aload_n cx (pc' := 37) 0 rfl dX9_tellsAct_36 rfl ?_
    refine q_bipush cx (pc' := 39) kb_40 dX9_tellsAct_37 rfl ?_
    obtain ⟨M39, hc39, h⟩ := bnd_i h
    refine q_callV cx (pc' := 42) (S := []) (S1 := []) (kc' := 0) (ks' := 0) 9 (ct_X9_body Γ l M ths 40 ht0 _ hc39) lki_X9_body lkv_X9_body lkc_X9_413 ht0 (r := (RX9, TX9, 70)) ⟨rfl, by decide, rfl⟩ rfl rfl (Nat.le_of_ble_eq_true rfl) ⟨(Nat.le_of_ble_eq_true rfl), (Nat.le_of_ble_eq_true rfl)⟩ ⟨(Nat.le_of_ble_eq_true rfl), (Nat.le_of_ble_eq_true rfl)⟩ dX9_tellsAct_39 rfl rfl rfl ?_
    refine q_aload_n cx (pc' := 43) 0 rfl dX9_tellsAct_42 rfl ?_
    refine q_iload_n cx (pc' := 44) 1 rfl dX9_tellsAct_43 rfl ?_
    refine q_iload_n cx (pc' := 45) 2 rfl dX9_tellsAct_44 rfl ?_
    obtain ⟨hk45, h⟩ := ck_i h
    obtain ⟨⟨c45, M45⟩, hc45, h⟩ := bnd_i h
    replace h := pr2_i h
    refine q_callV cx (pc' := 48) (S := []) (S1 := [.int c45]) (kc' := 0) (ks' := 0) 9 (ct_X9_walkerTells Γ l M39 ths p1 p2 hk45 _ _ hc45) lki_X9_walkerTells lkv_X9_walkerTells lkc_X9_431 hk45 (r := (RX9, TX9, 70)) ⟨rfl, by decide, rfl⟩ rfl rfl (Nat.le_of_ble_eq_true rfl) ⟨(Nat.le_of_ble_eq_true rfl), (Nat.le_of_ble_eq_true rfl)⟩ ⟨(Nat.le_of_ble_eq_true rfl), (Nat.le_of_ble_eq_true rfl)⟩ dX9_tellsAct_45 rfl rfl rfl ?_
    refine q_istore_n cx (pc' := 49) rfl rfl (by decide) (L' := [(3, .int c45), (0, .ref ths), (1, .int p1), (2, .int p2)]) rfl dX9_tellsAct_48 rfl ?_
    refine q_iload_n cx (pc' := 50) 0 rfl dX9_tellsAct_49 rfl ?_
    refine q_aload_n cx (pc' := 51) 1 rfl dX9_tellsAct_50 rfl ?_
    refine q_iload_n cx (pc' := 52) 2 rfl dX9_tellsAct_51 rfl ?_
    refine q_iconst cx (pc' := 53) ki_1 dX9_tellsAct_52 rfl ?_
    obtain ⟨hk53, h⟩ := ck_i h
    obtain ⟨⟨c53, M53⟩, hc53, h⟩ := bnd_i h
    replace h := pr2_i h
    refine q_callV cx (pc' := 56) (S := [.int c45]) (S1 := [.int c53, .int c45]) (kc' := 0) (ks' := 0) 9 (ct_X9_sinksAct Γ l M45 ths p1 1 hk53 _ _ hc53) lki_X9_sinksAct lkv_X9_sinksAct lkc_X9_428 hk53 (r := (RX9, TX9, 70)) ⟨rfl, by decide, rfl⟩ rfl rfl (Nat.le_of_ble_eq_true rfl) ⟨(Nat.le_of_ble_eq_true rfl), (Nat.le_of_ble_eq_true rfl)⟩ ⟨(Nat.le_of_ble_eq_true rfl), (Nat.le_of_ble_eq_true rfl)⟩ dX9_tellsAct_53 rfl rfl rfl ?_
    refine q_iadd cx (pc' := 57) dX9_tellsAct_56 rfl ?_
    obtain ⟨rfl, rfl⟩ := o2_i h
    rw [hQ]
    exact q_iret cx dX9_tellsAct_57
  replace h := ine c6_2 h
  by_cases d6_4 : x5 = 4
  · refine q_tabIn cx (off := 67) (tgt := 73) d6_4 dX9_tellsAct_6 (by decide) (by decide) ?_
    refine q_aload_n cx (pc' := 74) 0 rfl dX9_tellsAct_73 rfl ?_
    refine q_iload_n cx (pc' := 75) 1 rfl dX9_tellsAct_74 rfl ?_
    refine q_iload_n cx (pc' := 76) 2 rfl dX9_tellsAct_75 rfl ?_
    obtain ⟨⟨c76, M76⟩, hc76, h⟩ := bnd_i h
    replace h := pr2_i h
    refine q_callV cx (pc' := 79) (S := []) (S1 := [.int c76]) (kc' := 0) (ks' := 0) 9 (ct_X9_walkerTells Γ l M ths p1 p2 ht0 _ _ hc76) lki_X9_walkerTells lkv_X9_walkerTells lkc_X9_431 ht0 (r := (RX9, TX9, 70)) ⟨rfl, by decide, rfl⟩ rfl rfl (Nat.le_of_ble_eq_true rfl) ⟨(Nat.le_of_ble_eq_true rfl), (Nat.le_of_ble_eq_true rfl)⟩ ⟨(Nat.le_of_ble_eq_true rfl), (Nat.le_of_ble_eq_true rfl)⟩ dX9_tellsAct_76 rfl rfl rfl ?_
    obtain ⟨rfl, rfl⟩ := o2_i h
    rw [hQ]
    exact q_iret cx dX9_tellsAct_79
  have nt6_0 := lv_neT c6_0 (a := 3) rfl
  have nt6_1 := lv_neT c6_1 (a := 5) rfl
  have nt6_2 := lv_neT c6_2 (a := 6) rfl
  have nd6_4 := lv_neT d6_4 (a := 4) rfl
  refine q_tabOut cx (tgt := 73) dX9_tellsAct_6 (by omega) (by decide) ?_
  refine q_aload_n cx (pc' := 74) 0 rfl dX9_tellsAct_73 rfl ?_
  refine q_iload_n cx (pc' := 75) 1 rfl dX9_tellsAct_74 rfl ?_
  refine q_iload_n cx (pc' := 76) 2 rfl dX9_tellsAct_75 rfl ?_
  obtain ⟨⟨c76, M76⟩, hc76, h⟩ := bnd_i h
  replace h := pr2_i h
  refine q_callV cx (pc' := 79) (S := []) (S1 := [.int c76]) (kc' := 0) (ks' := 0) 9 (ct_X9_walkerTells Γ l M ths p1 p2 ht0 _ _ hc76) lki_X9_walkerTells lkv_X9_walkerTells lkc_X9_431 ht0 (r := (RX9, TX9, 70)) ⟨rfl, by decide, rfl⟩ rfl rfl (Nat.le_of_ble_eq_true rfl) ⟨(Nat.le_of_ble_eq_true rfl), (Nat.le_of_ble_eq_true rfl)⟩ ⟨(Nat.le_of_ble_eq_true rfl), (Nat.le_of_ble_eq_true rfl)⟩ dX9_tellsAct_76 rfl rfl rfl ?_
  obtain ⟨rfl, rfl⟩ := o2_i h
  rw [hQ]
  exact q_iret cx dX9_tellsAct_79

abbrev rm_X9_act : Room := { frames := 9, cells := 0, slots := 0, locals := 217 }
def fn_X9_act (M : QM) (ths : Nat) (p1 : Int32) (p2 : Int32) (p3 : Int32) : Option (Int32 × QM) :=
  pI M ths 9 64 0 fun M2 =>
  ck M2 ths 9 <|
  bnd (fn_X9_isWalker M2 ths p1) fun c7 =>
  if c7 = 0 then
    some (0, M2)
  else
    ck M2 ths 9 <|
    if (fn_X9_in p2 0 2) = 0 then
      some (0, M2)
    else
      if p2 = 0 then
        ck M2 ths 9 <|
        bnd (fn_X9_walksAct M2 ths p1 p3) fun y32 =>
        pr2 y32 fun c32 M32 =>
        some (c32, M32)
      else
        if p2 = 1 then
          ck M2 ths 9 <|
          bnd (fn_X9_sinksAct M2 ths p1 p3) fun y46 =>
          pr2 y46 fun c46 M46 =>
          some (c46, M46)
        else
          ck M2 ths 9 <|
          bnd (fn_X9_tellsAct M2 ths p1 p3) fun y55 =>
          pr2 y55 fun c55 M55 =>
          some (c55, M55)
set_option maxRecDepth 100000 in
set_option maxHeartbeats 4000000 in
theorem ct_X9_act (Γ : GT) (l : Launch) (M : QM) (ths : Nat) (p1 : Int32) (p2 : Int32) (p3 : Int32) (ht0 : mt M ths = 9) (z : Int32) (M' : QM) (h : fn_X9_act M ths p1 p2 p3 = some (z, M')) : CT Γ l yX9_act cX9_act 4 (some .int) rm_X9_act (.ref ths :: [.int p1, .int p2, .int p3]) M (some (.int z)) M' := by
  refine ct_intro (own := RX9) (L := [(0, .ref ths), (1, .int p1), (2, .int p2), (3, .int p3)]) (by decide +kernel) rfl (Nat.le_of_ble_eq_true rfl) rfl ?_
  intro p e s m args below meth c Q hQ cx hnm
  unfold fn_X9_act at h
  refine q_aload_n cx (pc' := 1) 0 rfl dX9_act_0 rfl ?_
  refine q_iconst cx (pc' := 2) ki_0 dX9_act_1 rfl ?_
  obtain ⟨ht2, M2, eM2, h⟩ := pI_i h
  refine q_pI cx (pc' := 5) 9 64 fl_X9_205 rfl ht2 (ty := .int) ⟨(RX9, TX9, 70), rfl, by decide +kernel, Or.inl rfl⟩ rfl rfl eM2 dX9_act_2 rfl ?_
  refine q_aload_n cx (pc' := 6) 0 rfl dX9_act_5 rfl ?_
  refine q_iload_n cx (pc' := 7) 1 rfl dX9_act_6 rfl ?_
  obtain ⟨hk7, h⟩ := ck_i h
  obtain ⟨c7, hc7, h⟩ := bnd_i h
  refine q_callV cx (pc' := 10) (S := []) (S1 := [.int c7]) (kc' := 0) (ks' := 0) 9 (ct_X9_isWalker Γ l M2 ths p1 hk7 _ hc7) lki_X9_isWalker lkv_X9_isWalker lkc_X9_235 hk7 (r := (RX9, TX9, 70)) ⟨rfl, by decide, rfl⟩ rfl rfl (Nat.le_of_ble_eq_true rfl) ⟨(Nat.le_of_ble_eq_true rfl), (Nat.le_of_ble_eq_true rfl)⟩ ⟨(Nat.le_of_ble_eq_true rfl), (Nat.le_of_ble_eq_true rfl)⟩ dX9_act_7 rfl rfl rfl ?_
  refine q_if_eq cx (pc' := 13) (tgt := 23) dX9_act_10 (by decide) rfl (fun c10 => ?_) (fun c10 => ?_)
  · replace h := ip c10 h
    refine q_iconst cx (pc' := 24) ki_0 dX9_act_23 rfl ?_
    obtain ⟨rfl, rfl⟩ := o2_i h
    rw [hQ]
    exact q_iret cx dX9_act_24
  · replace h := ine c10 h
    refine q_aload_n cx (pc' := 14) 0 rfl dX9_act_13 rfl ?_
    refine q_iload_n cx (pc' := 15) 2 rfl dX9_act_14 rfl ?_
    refine q_iconst cx (pc' := 16) ki_0 dX9_act_15 rfl ?_
    refine q_iconst cx (pc' := 17) ki_2 dX9_act_16 rfl ?_
    obtain ⟨hk17, h⟩ := ck_i h
    refine q_callV cx (pc' := 20) (S := []) (S1 := [.int (fn_X9_in p2 0 2)]) (kc' := 0) (ks' := 0) 9 (ct_X9_in Γ l M2 ths p2 0 2 hk17) lki_X9_in lkv_X9_in lkc_X9_224 hk17 (r := (RX9, TX9, 70)) ⟨rfl, by decide, rfl⟩ rfl rfl (Nat.le_of_ble_eq_true rfl) ⟨(Nat.le_of_ble_eq_true rfl), (Nat.le_of_ble_eq_true rfl)⟩ ⟨(Nat.le_of_ble_eq_true rfl), (Nat.le_of_ble_eq_true rfl)⟩ dX9_act_17 rfl rfl rfl ?_
    refine q_if_ne cx (pc' := 23) (tgt := 25) dX9_act_20 (by decide) rfl (fun c20 => ?_) (fun c20 => ?_)
    · replace h := ine c20 h
      refine q_iload_n cx (pc' := 26) 2 rfl dX9_act_25 rfl ?_
      refine q_if_ne cx (pc' := 29) (tgt := 38) dX9_act_26 (by decide) rfl (fun c26 => ?_) (fun c26 => ?_)
      · replace h := ine c26 h
        refine q_iload_n cx (pc' := 39) 2 rfl dX9_act_38 rfl ?_
        refine q_iconst cx (pc' := 40) ki_1 dX9_act_39 rfl ?_
        refine q_icmp_ne cx (pc' := 43) (tgt := 52) dX9_act_40 (by decide) rfl (fun c40 => ?_) (fun c40 => ?_)
        · replace h := ine c40 h
          refine q_aload_n cx (pc' := 53) 0 rfl dX9_act_52 rfl ?_
          refine q_iload_n cx (pc' := 54) 1 rfl dX9_act_53 rfl ?_
          refine q_iload_n cx (pc' := 55) 3 rfl dX9_act_54 rfl ?_
          obtain ⟨hk55, h⟩ := ck_i h
          obtain ⟨⟨c55, M55⟩, hc55, h⟩ := bnd_i h
          replace h := pr2_i h
          refine q_callV cx (pc' := 58) (S := []) (S1 := [.int c55]) (kc' := 0) (ks' := 0) 9 (ct_X9_tellsAct Γ l M2 ths p1 p3 hk55 _ _ hc55) lki_X9_tellsAct lkv_X9_tellsAct lkc_X9_434 hk55 (r := (RX9, TX9, 70)) ⟨rfl, by decide, rfl⟩ rfl rfl (Nat.le_of_ble_eq_true rfl) ⟨(Nat.le_of_ble_eq_true rfl), (Nat.le_of_ble_eq_true rfl)⟩ ⟨(Nat.le_of_ble_eq_true rfl), (Nat.le_of_ble_eq_true rfl)⟩ dX9_act_55 rfl rfl rfl ?_
          obtain ⟨rfl, rfl⟩ := o2_i h
          rw [hQ]
          exact q_iret cx dX9_act_58
        · replace h := ip c40 h
          refine q_aload_n cx (pc' := 44) 0 rfl dX9_act_43 rfl ?_
          refine q_iload_n cx (pc' := 45) 1 rfl dX9_act_44 rfl ?_
          refine q_iload_n cx (pc' := 46) 3 rfl dX9_act_45 rfl ?_
          obtain ⟨hk46, h⟩ := ck_i h
          obtain ⟨⟨c46, M46⟩, hc46, h⟩ := bnd_i h
          replace h := pr2_i h
          refine q_callV cx (pc' := 49) (S := []) (S1 := [.int c46]) (kc' := 0) (ks' := 0) 9 (ct_X9_sinksAct Γ l M2 ths p1 p3 hk46 _ _ hc46) lki_X9_sinksAct lkv_X9_sinksAct lkc_X9_428 hk46 (r := (RX9, TX9, 70)) ⟨rfl, by decide, rfl⟩ rfl rfl (Nat.le_of_ble_eq_true rfl) ⟨(Nat.le_of_ble_eq_true rfl), (Nat.le_of_ble_eq_true rfl)⟩ ⟨(Nat.le_of_ble_eq_true rfl), (Nat.le_of_ble_eq_true rfl)⟩ dX9_act_46 rfl rfl rfl ?_
          refine q_goto cx dX9_act_49 (tgt := 58) (by decide) ?_
          obtain ⟨rfl, rfl⟩ := o2_i h
          rw [hQ]
          exact q_iret cx dX9_act_58
      · replace h := ip c26 h
        refine q_aload_n cx (pc' := 30) 0 rfl dX9_act_29 rfl ?_
        refine q_iload_n cx (pc' := 31) 1 rfl dX9_act_30 rfl ?_
        refine q_iload_n cx (pc' := 32) 3 rfl dX9_act_31 rfl ?_
        obtain ⟨hk32, h⟩ := ck_i h
        obtain ⟨⟨c32, M32⟩, hc32, h⟩ := bnd_i h
        replace h := pr2_i h
        refine q_callV cx (pc' := 35) (S := []) (S1 := [.int c32]) (kc' := 0) (ks' := 0) 9 (ct_X9_walksAct Γ l M2 ths p1 p3 hk32 _ _ hc32) lki_X9_walksAct lkv_X9_walksAct lkc_X9_419 hk32 (r := (RX9, TX9, 70)) ⟨rfl, by decide, rfl⟩ rfl rfl (Nat.le_of_ble_eq_true rfl) ⟨(Nat.le_of_ble_eq_true rfl), (Nat.le_of_ble_eq_true rfl)⟩ ⟨(Nat.le_of_ble_eq_true rfl), (Nat.le_of_ble_eq_true rfl)⟩ dX9_act_32 rfl rfl rfl ?_
        refine q_goto cx dX9_act_35 (tgt := 58) (by decide) ?_
        obtain ⟨rfl, rfl⟩ := o2_i h
        rw [hQ]
        exact q_iret cx dX9_act_58
    · replace h := ip c20 h
      refine q_iconst cx (pc' := 24) ki_0 dX9_act_23 rfl ?_
      obtain ⟨rfl, rfl⟩ := o2_i h
      rw [hQ]
      exact q_iret cx dX9_act_24

abbrev rm_X9_trace : Room := { frames := 2, cells := 0, slots := 0, locals := 63 }
def fn_X9_trace (M : QM) (ths : Nat) (p1 : Int32) : Option Int32 :=
  if (fn_X9_in p1 0 19) = 0 then
    some (-1)
  else
    gI M ths 9 64 fun x13 =>
    if x13 ≤ p1 then
      some (-1)
    else
      gR M ths 9 65 fun r20 =>
      aI M 20 r20 p1 fun x24 =>
      some x24
set_option maxRecDepth 100000 in
set_option maxHeartbeats 4000000 in
theorem ct_X9_trace (Γ : GT) (l : Launch) (M : QM) (ths : Nat) (p1 : Int32) (ht0 : mt M ths = 9) (z : Int32) (h : fn_X9_trace M ths p1 = some z) : CT Γ l yX9_trace cX9_trace 2 (some .int) rm_X9_trace (.ref ths :: [.int p1]) M (some (.int z)) M := by
  refine ct_intro (own := RX9) (L := [(0, .ref ths), (1, .int p1)]) (by decide +kernel) rfl (Nat.le_of_ble_eq_true rfl) rfl ?_
  intro p e s m args below meth c Q hQ cx hnm
  unfold fn_X9_trace at h
  refine q_aload_n cx (pc' := 1) 0 rfl dX9_trace_0 rfl ?_
  refine q_iload_n cx (pc' := 2) 1 rfl dX9_trace_1 rfl ?_
  refine q_iconst cx (pc' := 3) ki_0 dX9_trace_2 rfl ?_
  refine q_bipush cx (pc' := 5) kb_19 dX9_trace_3 rfl ?_
  refine q_callV cx (pc' := 8) (S := []) (S1 := [.int (fn_X9_in p1 0 19)]) (kc' := 0) (ks' := 0) 9 (ct_X9_in Γ l M ths p1 0 19 ht0) lki_X9_in lkv_X9_in lkc_X9_224 ht0 (r := (RX9, TX9, 70)) ⟨rfl, by decide, rfl⟩ rfl rfl (Nat.le_of_ble_eq_true rfl) ⟨(Nat.le_of_ble_eq_true rfl), (Nat.le_of_ble_eq_true rfl)⟩ ⟨(Nat.le_of_ble_eq_true rfl), (Nat.le_of_ble_eq_true rfl)⟩ dX9_trace_5 rfl rfl rfl ?_
  refine q_if_eq cx (pc' := 11) (tgt := 28) dX9_trace_8 (by decide) rfl (fun c8 => ?_) (fun c8 => ?_)
  · replace h := ip c8 h
    refine q_iconst cx (pc' := 29) ki_m1 dX9_trace_28 rfl ?_
    obtain rfl := o1_i h
    rw [hQ]
    exact q_iret cx dX9_trace_29
  · replace h := ine c8 h
    refine q_iload_n cx (pc' := 12) 1 rfl dX9_trace_11 rfl ?_
    refine q_aload_n cx (pc' := 13) 0 rfl dX9_trace_12 rfl ?_
    obtain ⟨ht13, x13, ex13, h⟩ := gI_i h
    refine q_gI cx (pc' := 16) 9 64 fl_X9_205 rfl ht13 ex13 dX9_trace_13 rfl ?_
    refine q_icmp_ge cx (pc' := 19) (tgt := 28) dX9_trace_16 (by decide) rfl (fun c16 => ?_) (fun c16 => ?_)
    · replace h := ip c16 h
      refine q_iconst cx (pc' := 29) ki_m1 dX9_trace_28 rfl ?_
      obtain rfl := o1_i h
      rw [hQ]
      exact q_iret cx dX9_trace_29
    · replace h := ine c16 h
      refine q_aload_n cx (pc' := 20) 0 rfl dX9_trace_19 rfl ?_
      obtain ⟨ht20, r20, ex20, h⟩ := gR_i h
      refine q_gR cx (pc' := 23) 9 65 fl_X9_208 rfl ht20 ex20 dX9_trace_20 rfl ?_
      refine q_iload_n cx (pc' := 24) 1 rfl dX9_trace_23 rfl ?_
      obtain ⟨ht24, hi24, x24, ex24, h⟩ := aI_i h
      refine q_iald cx (pc' := 25) ht24 hi24 ex24 dX9_trace_24 rfl ?_
      refine q_goto cx dX9_trace_25 (tgt := 29) (by decide) ?_
      obtain rfl := o1_i h
      rw [hQ]
      exact q_iret cx dX9_trace_29

abbrev rm_X9_taken : Room := { frames := 3, cells := 0, slots := 0, locals := 84 }
def jn_X9_taken_61 (p2 : Int32) (j3_61 : Int32) : Option Int32 :=
  if p2 = 3 then
    if j3_61 = 6 then
      some j3_61
    else
      some (-12)
  else
    some (-12)
def jn_X9_taken_51 (p2 : Int32) (j3_51 : Int32) : Option Int32 :=
  if p2 = 2 then
    if j3_51 = 5 then
      some j3_51
    else
      jn_X9_taken_61 p2 j3_51
  else
    jn_X9_taken_61 p2 j3_51
def fn_X9_taken (M : QM) (ths : Nat) (p1 : Int32) (p2 : Int32) : Option Int32 :=
  if (fn_X9_in p2 0 6) = 0 then
    some (-2)
  else
    bnd (fn_X9_isWalker M ths p1) fun c16 =>
    if c16 = 0 then
      some (-11)
    else
      gR M ths 9 3 fun r26 =>
      aI M 20 r26 p1 fun x30 =>
      if p2 = 0 then
        some x30
      else
        if x30 = p2 then
          some x30
        else
          if p2 = 1 then
            if x30 = 4 then
              some x30
            else
              jn_X9_taken_51 p2 x30
          else
            jn_X9_taken_51 p2 x30
set_option maxRecDepth 100000 in
set_option maxHeartbeats 4000000 in
theorem ct_X9_taken (Γ : GT) (l : Launch) (M : QM) (ths : Nat) (p1 : Int32) (p2 : Int32) (ht0 : mt M ths = 9) (z : Int32) (h : fn_X9_taken M ths p1 p2 = some z) : CT Γ l yX9_taken cX9_taken 4 (some .int) rm_X9_taken (.ref ths :: [.int p1, .int p2]) M (some (.int z)) M := by
  refine ct_intro (own := RX9) (L := [(0, .ref ths), (1, .int p1), (2, .int p2)]) (by decide +kernel) rfl (Nat.le_of_ble_eq_true rfl) rfl ?_
  intro p e s m args below meth c Q hQ cx hnm
  unfold fn_X9_taken at h
  have hj61 : ∀ (j3_61 : Int32), jn_X9_taken_61 p2 j3_61 = some z → EE p l e rm_X9_taken s m args below meth c Q Γ 4 0 0 61 [(2, .int p2), (3, .int j3_61)] [] M := by
    intro j3_61 h
    unfold jn_X9_taken_61 at h
    refine q_iload_n cx (pc' := 62) 0 rfl dX9_taken_61 rfl ?_
    refine q_iconst cx (pc' := 63) ki_3 dX9_taken_62 rfl ?_
    refine q_icmp_ne cx (pc' := 66) (tgt := 76) dX9_taken_63 (by decide) rfl (fun c63 => ?_) (fun c63 => ?_)
    · replace h := ine c63 h
      refine q_bipush cx (pc' := 78) kb_m12 dX9_taken_76 rfl ?_
      obtain rfl := o1_i h
      rw [hQ]
      exact q_iret cx dX9_taken_78
    · replace h := ip c63 h
      refine q_iload_n cx (pc' := 67) 1 rfl dX9_taken_66 rfl ?_
      refine q_bipush cx (pc' := 69) kb_6 dX9_taken_67 rfl ?_
      refine q_icmp_ne cx (pc' := 72) (tgt := 76) dX9_taken_69 (by decide) rfl (fun c69 => ?_) (fun c69 => ?_)
      · replace h := ine c69 h
        refine q_bipush cx (pc' := 78) kb_m12 dX9_taken_76 rfl ?_
        obtain rfl := o1_i h
        rw [hQ]
        exact q_iret cx dX9_taken_78
      · replace h := ip c69 h
        refine q_iload_n cx (pc' := 73) 1 rfl dX9_taken_72 rfl ?_
        refine q_goto cx dX9_taken_73 (tgt := 78) (by decide) ?_
        obtain rfl := o1_i h
        rw [hQ]
        exact q_iret cx dX9_taken_78
  have hj51 : ∀ (j3_51 : Int32), jn_X9_taken_51 p2 j3_51 = some z → EE p l e rm_X9_taken s m args below meth c Q Γ 4 0 0 51 [(2, .int p2), (3, .int j3_51)] [] M := by
    intro j3_51 h
    unfold jn_X9_taken_51 at h
    refine q_iload_n cx (pc' := 52) 0 rfl dX9_taken_51 rfl ?_
    refine q_iconst cx (pc' := 53) ki_2 dX9_taken_52 rfl ?_
    refine q_icmp_ne cx (pc' := 56) (tgt := 61) dX9_taken_53 (by decide) rfl (fun c53 => ?_) (fun c53 => ?_)
    · replace h := ine c53 h
      refine q_sub cx [0, 1] rfl ?_
      exact hj61 _ h
    · replace h := ip c53 h
      refine q_iload_n cx (pc' := 57) 1 rfl dX9_taken_56 rfl ?_
      refine q_iconst cx (pc' := 58) ki_5 dX9_taken_57 rfl ?_
      refine q_icmp_eq cx (pc' := 61) (tgt := 72) dX9_taken_58 (by decide) rfl (fun c58 => ?_) (fun c58 => ?_)
      · replace h := ip c58 h
        refine q_iload_n cx (pc' := 73) 1 rfl dX9_taken_72 rfl ?_
        refine q_goto cx dX9_taken_73 (tgt := 78) (by decide) ?_
        obtain rfl := o1_i h
        rw [hQ]
        exact q_iret cx dX9_taken_78
      · replace h := ine c58 h
        refine q_sub cx [0, 1] rfl ?_
        exact hj61 _ h
  refine q_aload_n cx (pc' := 1) 0 rfl dX9_taken_0 rfl ?_
  refine q_iload_n cx (pc' := 2) 2 rfl dX9_taken_1 rfl ?_
  refine q_iconst cx (pc' := 3) ki_0 dX9_taken_2 rfl ?_
  refine q_bipush cx (pc' := 5) kb_6 dX9_taken_3 rfl ?_
  refine q_callV cx (pc' := 8) (S := []) (S1 := [.int (fn_X9_in p2 0 6)]) (kc' := 0) (ks' := 0) 9 (ct_X9_in Γ l M ths p2 0 6 ht0) lki_X9_in lkv_X9_in lkc_X9_224 ht0 (r := (RX9, TX9, 70)) ⟨rfl, by decide, rfl⟩ rfl rfl (Nat.le_of_ble_eq_true rfl) ⟨(Nat.le_of_ble_eq_true rfl), (Nat.le_of_ble_eq_true rfl)⟩ ⟨(Nat.le_of_ble_eq_true rfl), (Nat.le_of_ble_eq_true rfl)⟩ dX9_taken_5 rfl rfl rfl ?_
  refine q_if_ne cx (pc' := 11) (tgt := 14) dX9_taken_8 (by decide) rfl (fun c8 => ?_) (fun c8 => ?_)
  · replace h := ine c8 h
    refine q_aload_n cx (pc' := 15) 0 rfl dX9_taken_14 rfl ?_
    refine q_iload_n cx (pc' := 16) 1 rfl dX9_taken_15 rfl ?_
    obtain ⟨c16, hc16, h⟩ := bnd_i h
    refine q_callV cx (pc' := 19) (S := []) (S1 := [.int c16]) (kc' := 0) (ks' := 0) 9 (ct_X9_isWalker Γ l M ths p1 ht0 _ hc16) lki_X9_isWalker lkv_X9_isWalker lkc_X9_235 ht0 (r := (RX9, TX9, 70)) ⟨rfl, by decide, rfl⟩ rfl rfl (Nat.le_of_ble_eq_true rfl) ⟨(Nat.le_of_ble_eq_true rfl), (Nat.le_of_ble_eq_true rfl)⟩ ⟨(Nat.le_of_ble_eq_true rfl), (Nat.le_of_ble_eq_true rfl)⟩ dX9_taken_16 rfl rfl rfl ?_
    refine q_if_ne cx (pc' := 22) (tgt := 25) dX9_taken_19 (by decide) rfl (fun c19 => ?_) (fun c19 => ?_)
    · replace h := ine c19 h
      refine q_aload_n cx (pc' := 26) 0 rfl dX9_taken_25 rfl ?_
      obtain ⟨ht26, r26, ex26, h⟩ := gR_i h
      refine q_gR cx (pc' := 29) 9 3 fl_X9_20 rfl ht26 ex26 dX9_taken_26 rfl ?_
      refine q_iload_n cx (pc' := 30) 1 rfl dX9_taken_29 rfl ?_
      obtain ⟨ht30, hi30, x30, ex30, h⟩ := aI_i h
      refine q_iald cx (pc' := 31) ht30 hi30 ex30 dX9_taken_30 rfl ?_
      refine q_istore_n cx (pc' := 32) rfl rfl (by decide) (L' := [(3, .int x30), (0, .ref ths), (1, .int p1), (2, .int p2)]) rfl dX9_taken_31 rfl ?_
      refine q_iload_n cx (pc' := 33) 3 rfl dX9_taken_32 rfl ?_
      refine q_if_eq cx (pc' := 36) (tgt := 72) dX9_taken_33 (by decide) rfl (fun c33 => ?_) (fun c33 => ?_)
      · replace h := ip c33 h
        refine q_iload_n cx (pc' := 73) 0 rfl dX9_taken_72 rfl ?_
        refine q_goto cx dX9_taken_73 (tgt := 78) (by decide) ?_
        obtain rfl := o1_i h
        rw [hQ]
        exact q_iret cx dX9_taken_78
      · replace h := ine c33 h
        refine q_iload_n cx (pc' := 37) 0 rfl dX9_taken_36 rfl ?_
        refine q_iload_n cx (pc' := 38) 3 rfl dX9_taken_37 rfl ?_
        refine q_icmp_eq cx (pc' := 41) (tgt := 72) dX9_taken_38 (by decide) rfl (fun c38 => ?_) (fun c38 => ?_)
        · replace h := ip c38 h
          refine q_iload_n cx (pc' := 73) 0 rfl dX9_taken_72 rfl ?_
          refine q_goto cx dX9_taken_73 (tgt := 78) (by decide) ?_
          obtain rfl := o1_i h
          rw [hQ]
          exact q_iret cx dX9_taken_78
        · replace h := ine c38 h
          refine q_iload_n cx (pc' := 42) 3 rfl dX9_taken_41 rfl ?_
          refine q_iconst cx (pc' := 43) ki_1 dX9_taken_42 rfl ?_
          refine q_icmp_ne cx (pc' := 46) (tgt := 51) dX9_taken_43 (by decide) rfl (fun c43 => ?_) (fun c43 => ?_)
          · replace h := ine c43 h
            refine q_sub cx [3, 0] rfl ?_
            exact hj51 _ h
          · replace h := ip c43 h
            refine q_iload_n cx (pc' := 47) 0 rfl dX9_taken_46 rfl ?_
            refine q_iconst cx (pc' := 48) ki_4 dX9_taken_47 rfl ?_
            refine q_icmp_eq cx (pc' := 51) (tgt := 72) dX9_taken_48 (by decide) rfl (fun c48 => ?_) (fun c48 => ?_)
            · replace h := ip c48 h
              refine q_iload_n cx (pc' := 73) 0 rfl dX9_taken_72 rfl ?_
              refine q_goto cx dX9_taken_73 (tgt := 78) (by decide) ?_
              obtain rfl := o1_i h
              rw [hQ]
              exact q_iret cx dX9_taken_78
            · replace h := ine c48 h
              refine q_sub cx [3, 0] rfl ?_
              exact hj51 _ h
    · replace h := ip c19 h
      refine q_bipush cx (pc' := 24) kb_m11 dX9_taken_22 rfl ?_
      obtain rfl := o1_i h
      rw [hQ]
      exact q_iret cx dX9_taken_24
  · replace h := ip c8 h
    refine q_bipush cx (pc' := 13) kb_m2 dX9_taken_11 rfl ?_
    obtain rfl := o1_i h
    rw [hQ]
    exact q_iret cx dX9_taken_13

abbrev rm_X9_count : Room := { frames := 1, cells := 0, slots := 0, locals := 40 }
def fn_X9_count (M : QM) (ths : Nat) (p1 : Int32) : Option Int32 :=
  if p1 = 0 then
    gI M ths 9 0 fun x45 =>
    some x45
  else if p1 = 1 then
    gI M ths 9 7 fun x50 =>
    some x50
  else if p1 = 2 then
    gI M ths 9 33 fun x55 =>
    some x55
  else if p1 = 3 then
    gI M ths 9 38 fun x60 =>
    some x60
  else if p1 = 4 then
    gI M ths 9 39 fun x65 =>
    some x65
  else if p1 = 5 then
    gI M ths 9 9 fun x70 =>
    some x70
  else if p1 = 6 then
    gI M ths 9 64 fun x75 =>
    some x75
  else 
    some (-2)
set_option maxRecDepth 100000 in
set_option maxHeartbeats 4000000 in
theorem ct_X9_count (Γ : GT) (l : Launch) (M : QM) (ths : Nat) (p1 : Int32) (ht0 : mt M ths = 9) (z : Int32) (h : fn_X9_count M ths p1 = some z) : CT Γ l yX9_count cX9_count 2 (some .int) rm_X9_count (.ref ths :: [.int p1]) M (some (.int z)) M := by
  refine ct_intro (own := RX9) (L := [(0, .ref ths), (1, .int p1)]) (by decide +kernel) rfl (Nat.le_of_ble_eq_true rfl) rfl ?_
  intro p e s m args below meth c Q hQ cx hnm
  unfold fn_X9_count at h
  refine q_iload_n cx (pc' := 1) 1 rfl dX9_count_0 rfl ?_
  rcases Decidable.em (p1 = 0) with c1_0 | c1_0
  · replace h := ip c1_0 h
    refine q_tabIn cx (off := 43) (tgt := 44) c1_0 dX9_count_1 (by decide) (by decide) ?_
    refine q_aload_n cx (pc' := 45) 0 rfl dX9_count_44 rfl ?_
    obtain ⟨ht45, x45, ex45, h⟩ := gI_i h
    refine q_gI cx (pc' := 48) 9 0 fl_X9_7 rfl ht45 ex45 dX9_count_45 rfl ?_
    obtain rfl := o1_i h
    rw [hQ]
    exact q_iret cx dX9_count_48
  replace h := ine c1_0 h
  rcases Decidable.em (p1 = 1) with c1_1 | c1_1
  · replace h := ip c1_1 h
    refine q_tabIn cx (off := 48) (tgt := 49) c1_1 dX9_count_1 (by decide) (by decide) ?_
    refine q_aload_n cx (pc' := 50) 0 rfl dX9_count_49 rfl ?_
    obtain ⟨ht50, x50, ex50, h⟩ := gI_i h
    refine q_gI cx (pc' := 53) 9 7 fl_X9_32 rfl ht50 ex50 dX9_count_50 rfl ?_
    obtain rfl := o1_i h
    rw [hQ]
    exact q_iret cx dX9_count_53
  replace h := ine c1_1 h
  rcases Decidable.em (p1 = 2) with c1_2 | c1_2
  · replace h := ip c1_2 h
    refine q_tabIn cx (off := 53) (tgt := 54) c1_2 dX9_count_1 (by decide) (by decide) ?_
    refine q_aload_n cx (pc' := 55) 0 rfl dX9_count_54 rfl ?_
    obtain ⟨ht55, x55, ex55, h⟩ := gI_i h
    refine q_gI cx (pc' := 58) 9 33 fl_X9_111 rfl ht55 ex55 dX9_count_55 rfl ?_
    obtain rfl := o1_i h
    rw [hQ]
    exact q_iret cx dX9_count_58
  replace h := ine c1_2 h
  rcases Decidable.em (p1 = 3) with c1_3 | c1_3
  · replace h := ip c1_3 h
    refine q_tabIn cx (off := 58) (tgt := 59) c1_3 dX9_count_1 (by decide) (by decide) ?_
    refine q_aload_n cx (pc' := 60) 0 rfl dX9_count_59 rfl ?_
    obtain ⟨ht60, x60, ex60, h⟩ := gI_i h
    refine q_gI cx (pc' := 63) 9 38 fl_X9_126 rfl ht60 ex60 dX9_count_60 rfl ?_
    obtain rfl := o1_i h
    rw [hQ]
    exact q_iret cx dX9_count_63
  replace h := ine c1_3 h
  rcases Decidable.em (p1 = 4) with c1_4 | c1_4
  · replace h := ip c1_4 h
    refine q_tabIn cx (off := 63) (tgt := 64) c1_4 dX9_count_1 (by decide) (by decide) ?_
    refine q_aload_n cx (pc' := 65) 0 rfl dX9_count_64 rfl ?_
    obtain ⟨ht65, x65, ex65, h⟩ := gI_i h
    refine q_gI cx (pc' := 68) 9 39 fl_X9_129 rfl ht65 ex65 dX9_count_65 rfl ?_
    obtain rfl := o1_i h
    rw [hQ]
    exact q_iret cx dX9_count_68
  replace h := ine c1_4 h
  rcases Decidable.em (p1 = 5) with c1_5 | c1_5
  · replace h := ip c1_5 h
    refine q_tabIn cx (off := 68) (tgt := 69) c1_5 dX9_count_1 (by decide) (by decide) ?_
    refine q_aload_n cx (pc' := 70) 0 rfl dX9_count_69 rfl ?_
    obtain ⟨ht70, x70, ex70, h⟩ := gI_i h
    refine q_gI cx (pc' := 73) 9 9 fl_X9_38 rfl ht70 ex70 dX9_count_70 rfl ?_
    obtain rfl := o1_i h
    rw [hQ]
    exact q_iret cx dX9_count_73
  replace h := ine c1_5 h
  rcases Decidable.em (p1 = 6) with c1_6 | c1_6
  · replace h := ip c1_6 h
    refine q_tabIn cx (off := 73) (tgt := 74) c1_6 dX9_count_1 (by decide) (by decide) ?_
    refine q_aload_n cx (pc' := 75) 0 rfl dX9_count_74 rfl ?_
    obtain ⟨ht75, x75, ex75, h⟩ := gI_i h
    refine q_gI cx (pc' := 78) 9 64 fl_X9_205 rfl ht75 ex75 dX9_count_75 rfl ?_
    obtain rfl := o1_i h
    rw [hQ]
    exact q_iret cx dX9_count_78
  replace h := ine c1_6 h
  have nt1_0 := lv_neT c1_0 (a := 0) rfl
  have nt1_1 := lv_neT c1_1 (a := 1) rfl
  have nt1_2 := lv_neT c1_2 (a := 2) rfl
  have nt1_3 := lv_neT c1_3 (a := 3) rfl
  have nt1_4 := lv_neT c1_4 (a := 4) rfl
  have nt1_5 := lv_neT c1_5 (a := 5) rfl
  have nt1_6 := lv_neT c1_6 (a := 6) rfl
  refine q_tabOut cx (tgt := 79) dX9_count_1 (by omega) (by decide) ?_
  refine q_bipush cx (pc' := 81) kb_m2 dX9_count_79 rfl ?_
  obtain rfl := o1_i h
  rw [hQ]
  exact q_iret cx dX9_count_81

abbrev rm_X9_tape : Room := { frames := 3, cells := 0, slots := 0, locals := 84 }
def lp_X9_tape_69 (ths : Nat) (p1 : Int32) (w4_69 : Int32) (Mw_69 : QM) : Option ((Int32 × QM) ⊕ (Int32 × QM)) :=
  if 60 ≤ w4_69 then
    some (.inr (1, Mw_69))
  else
    gR Mw_69 ths 9 68 fun r77 =>
    wJ Mw_69 r77 ((60 * p1) + w4_69) 0 fun M88 =>
    nm (w4_69 + 1) fun v4_89 =>
    some (.inl (v4_89, M88))
def jn_X9_tape_65 (ths : Nat) (p1 : Int32) (js0_65 : Int32) (js1_65 : Int32) (js2_65 : Nat) (Mj_65 : QM) : Option (Int32 × QM) :=
  wI Mj_65 20 js2_65 js1_65 js0_65 fun M65 =>
  bnd (itr (fun s69 : Int32 × QM => lp_X9_tape_69 ths p1 s69.1 s69.2) FU (0, M65)) fun r69 =>
  pr2 r69 fun re_69 Mr_69 =>
  some (re_69, Mr_69)
def jn_X9_tape_44 (ths : Nat) (p1 : Int32) (p2 : Int32) (p3 : Int32) (Mj_44 : QM) : Option (Int32 × QM) :=
  gR Mj_44 ths 9 66 fun r45 =>
  wI Mj_44 20 r45 p1 p2 fun M50 =>
  gR M50 ths 9 67 fun r52 =>
  if 0 ≤ p2 then
    jn_X9_tape_65 ths p1 p3 p1 r52 M50
  else
    jn_X9_tape_65 ths p1 0 p1 r52 M50
def jn_X9_tape_33 (ths : Nat) (p1 : Int32) (p2 : Int32) (p3 : Int32) (Mj_33 : QM) : Option (Int32 × QM) :=
  if p2 < 0 then
    jn_X9_tape_44 ths p1 p2 p3 Mj_33
  else
    if 0 ≤ p3 then
      jn_X9_tape_44 ths p1 p2 p3 Mj_33
    else
      some ((-14), Mj_33)
def fn_X9_tape (M : QM) (ths : Nat) (p1 : Int32) (p2 : Int32) (p3 : Int32) : Option (Int32 × QM) :=
  if (fn_X9_isTape p1) = 0 then
    some ((-1), M)
  else
    if (fn_X9_in p2 (-1) 4) = 0 then
      some ((-2), M)
    else
      if p2 < 0 then
        jn_X9_tape_33 ths p1 p2 p3 M
      else
        if p3 ≤ 60 then
          jn_X9_tape_33 ths p1 p2 p3 M
        else
          some ((-2), M)
set_option maxRecDepth 100000 in
set_option maxHeartbeats 4000000 in
theorem ct_X9_tape (Γ : GT) (l : Launch) (M : QM) (ths : Nat) (p1 : Int32) (p2 : Int32) (p3 : Int32) (ht0 : mt M ths = 9) (z : Int32) (M' : QM) (h : fn_X9_tape M ths p1 p2 p3 = some (z, M')) : CT Γ l yX9_tape cX9_tape 5 (some .int) rm_X9_tape (.ref ths :: [.int p1, .int p2, .int p3]) M (some (.int z)) M' := by
  refine ct_intro (own := RX9) (L := [(0, .ref ths), (1, .int p1), (2, .int p2), (3, .int p3)]) (by decide +kernel) rfl (Nat.le_of_ble_eq_true rfl) rfl ?_
  intro p e s m args below meth c Q hQ cx hnm
  unfold fn_X9_tape at h
  have hj65 : ∀ (js0_65 : Int32) (js1_65 : Int32) (js2_65 : Nat) (Mj_65 : QM), jn_X9_tape_65 ths p1 js0_65 js1_65 js2_65 Mj_65 = some (z, M') → EE p l e rm_X9_tape s m args below meth c Q Γ 5 0 0 65 [(0, .ref ths), (1, .int p1)] [.int js0_65, .int js1_65, .ref js2_65] Mj_65 := by
    intro js0_65 js1_65 js2_65 Mj_65 h
    unfold jn_X9_tape_65 at h
    obtain ⟨ht65, hi65, M65, eM65, h⟩ := wI_i h
    refine q_iast cx (pc' := 66) ht65 hi65 eM65 dX9_tape_65 rfl ?_
    refine q_iconst cx (pc' := 67) ki_0 dX9_tape_66 rfl ?_
    refine q_istore cx (pc' := 69) rfl (by decide) (L' := [(4, .int 0), (0, .ref ths), (1, .int p1)]) rfl dX9_tape_67 rfl ?_
    obtain ⟨r69, hL69, h⟩ := bnd_i h
    have hk69_r : ∀ (re_69 : Int32) (Mr_69 : QM), (re_69, Mr_69) = r69 → some (re_69, Mr_69) = some (z, M') := by
      intro re_69 Mr_69 hp
      subst hp
      replace h := pr2_i h
      exact h
    have key69 : ∀ (n : Nat) (w4_69 : Int32) (Mw_69 : QM), itr (fun s69 : Int32 × QM => lp_X9_tape_69 ths p1 s69.1 s69.2) n (w4_69, Mw_69) = some r69 → EE p l e rm_X9_tape s m args below meth c Q Γ 5 0 0 69 [(0, .ref ths), (1, .int p1), (4, .int w4_69)] [] Mw_69 := by
      intro n
      induction n with
      | zero => intro _ _ h; exact (itr_0 h).elim
      | succ n ih =>
        intro w4_69 Mw_69 h
        obtain ⟨z69, h, hz69⟩ := itr_i h
        replace h : lp_X9_tape_69 ths p1 w4_69 Mw_69 = some z69 := h
        unfold lp_X9_tape_69 at h
        refine q_iload cx (pc' := 71) 2 rfl dX9_tape_69 rfl ?_
        refine q_bipush cx (pc' := 73) kb_60 dX9_tape_71 rfl ?_
        refine q_icmp_ge cx (pc' := 76) (tgt := 95) dX9_tape_73 (by decide) rfl (fun c73 => ?_) (fun c73 => ?_)
        · replace h := ip c73 h
          refine q_iconst cx (pc' := 96) ki_1 dX9_tape_95 rfl ?_
          replace h := hk69_r _ _ (hz69.2 _ h)
          obtain ⟨rfl, rfl⟩ := o2_i h
          rw [hQ]
          exact q_iret cx dX9_tape_96
        · replace h := ine c73 h
          refine q_aload_n cx (pc' := 77) 0 rfl dX9_tape_76 rfl ?_
          obtain ⟨ht77, r77, ex77, h⟩ := gR_i h
          refine q_gR cx (pc' := 80) 9 68 fl_X9_217 rfl ht77 ex77 dX9_tape_77 rfl ?_
          refine q_bipush cx (pc' := 82) kb_60 dX9_tape_80 rfl ?_
          refine q_iload_n cx (pc' := 83) 1 rfl dX9_tape_82 rfl ?_
          refine q_imul cx (pc' := 84) dX9_tape_83 rfl ?_
          refine q_iload cx (pc' := 86) 2 rfl dX9_tape_84 rfl ?_
          refine q_iadd cx (pc' := 87) dX9_tape_86 rfl ?_
          refine q_lconst0 cx (pc' := 88) dX9_tape_87 rfl ?_
          obtain ⟨ht88, hi88, M88, eM88, h⟩ := wJ_i h
          refine q_last cx (pc' := 89) ht88 hi88 eM88 dX9_tape_88 rfl ?_
          obtain ⟨v4_89, ev4_89, h⟩ := nm_i h
          refine q_iinc cx (pc' := 92) 2 rfl ki_1 ev4_89 (by decide) (L' := [(4, .int v4_89), (0, .ref ths), (1, .int p1)]) rfl dX9_tape_89 rfl ?_
          refine q_goto cx dX9_tape_92 (tgt := 69) (by decide) ?_
          refine q_sub cx [1, 2, 0] rfl ?_
          exact ih _ _ (hz69.1 _ h)
    refine q_sub cx [1, 2, 0] rfl ?_
    exact key69 FU _ _ hL69
  have hj44 : ∀ (Mj_44 : QM), jn_X9_tape_44 ths p1 p2 p3 Mj_44 = some (z, M') → EE p l e rm_X9_tape s m args below meth c Q Γ 5 0 0 44 [(0, .ref ths), (1, .int p1), (2, .int p2), (3, .int p3)] [] Mj_44 := by
    intro Mj_44 h
    unfold jn_X9_tape_44 at h
    refine q_aload_n cx (pc' := 45) 0 rfl dX9_tape_44 rfl ?_
    obtain ⟨ht45, r45, ex45, h⟩ := gR_i h
    refine q_gR cx (pc' := 48) 9 66 fl_X9_211 rfl ht45 ex45 dX9_tape_45 rfl ?_
    refine q_iload_n cx (pc' := 49) 1 rfl dX9_tape_48 rfl ?_
    refine q_iload_n cx (pc' := 50) 2 rfl dX9_tape_49 rfl ?_
    obtain ⟨ht50, hi50, M50, eM50, h⟩ := wI_i h
    refine q_iast cx (pc' := 51) ht50 hi50 eM50 dX9_tape_50 rfl ?_
    refine q_aload_n cx (pc' := 52) 0 rfl dX9_tape_51 rfl ?_
    obtain ⟨ht52, r52, ex52, h⟩ := gR_i h
    refine q_gR cx (pc' := 55) 9 67 fl_X9_214 rfl ht52 ex52 dX9_tape_52 rfl ?_
    refine q_iload_n cx (pc' := 56) 1 rfl dX9_tape_55 rfl ?_
    refine q_iload_n cx (pc' := 57) 2 rfl dX9_tape_56 rfl ?_
    refine q_if_ge cx (pc' := 60) (tgt := 64) dX9_tape_57 (by decide) rfl (fun c57 => ?_) (fun c57 => ?_)
    · replace h := ip c57 h
      refine q_iload_n cx (pc' := 65) 3 rfl dX9_tape_64 rfl ?_
      refine q_sub cx [0, 1] rfl ?_
      exact hj65 _ _ _ _ h
    · replace h := ine c57 h
      refine q_iconst cx (pc' := 61) ki_0 dX9_tape_60 rfl ?_
      refine q_goto cx dX9_tape_61 (tgt := 65) (by decide) ?_
      refine q_sub cx [0, 1] rfl ?_
      exact hj65 _ _ _ _ h
  have hj33 : ∀ (Mj_33 : QM), jn_X9_tape_33 ths p1 p2 p3 Mj_33 = some (z, M') → EE p l e rm_X9_tape s m args below meth c Q Γ 5 0 0 33 [(0, .ref ths), (1, .int p1), (2, .int p2), (3, .int p3)] [] Mj_33 := by
    intro Mj_33 h
    unfold jn_X9_tape_33 at h
    refine q_iload_n cx (pc' := 34) 2 rfl dX9_tape_33 rfl ?_
    refine q_if_lt cx (pc' := 37) (tgt := 44) dX9_tape_34 (by decide) rfl (fun c34 => ?_) (fun c34 => ?_)
    · replace h := ip c34 h
      refine q_sub cx [0, 1, 2, 3] rfl ?_
      exact hj44 _ h
    · replace h := ine c34 h
      refine q_iload_n cx (pc' := 38) 3 rfl dX9_tape_37 rfl ?_
      refine q_if_ge cx (pc' := 41) (tgt := 44) dX9_tape_38 (by decide) rfl (fun c38 => ?_) (fun c38 => ?_)
      · replace h := ip c38 h
        refine q_sub cx [0, 1, 2, 3] rfl ?_
        exact hj44 _ h
      · replace h := ine c38 h
        refine q_bipush cx (pc' := 43) kb_m14 dX9_tape_41 rfl ?_
        obtain ⟨rfl, rfl⟩ := o2_i h
        rw [hQ]
        exact q_iret cx dX9_tape_43
  refine q_aload_n cx (pc' := 1) 0 rfl dX9_tape_0 rfl ?_
  refine q_iload_n cx (pc' := 2) 1 rfl dX9_tape_1 rfl ?_
  refine q_callV cx (pc' := 5) (S := []) (S1 := [.int (fn_X9_isTape p1)]) (kc' := 0) (ks' := 0) 9 (ct_X9_isTape Γ l M ths p1 ht0) lki_X9_isTape lkv_X9_isTape lkc_X9_410 ht0 (r := (RX9, TX9, 70)) ⟨rfl, by decide, rfl⟩ rfl rfl (Nat.le_of_ble_eq_true rfl) ⟨(Nat.le_of_ble_eq_true rfl), (Nat.le_of_ble_eq_true rfl)⟩ ⟨(Nat.le_of_ble_eq_true rfl), (Nat.le_of_ble_eq_true rfl)⟩ dX9_tape_2 rfl rfl rfl ?_
  refine q_if_ne cx (pc' := 8) (tgt := 10) dX9_tape_5 (by decide) rfl (fun c5 => ?_) (fun c5 => ?_)
  · replace h := ine c5 h
    refine q_aload_n cx (pc' := 11) 0 rfl dX9_tape_10 rfl ?_
    refine q_iload_n cx (pc' := 12) 2 rfl dX9_tape_11 rfl ?_
    refine q_iconst cx (pc' := 13) ki_m1 dX9_tape_12 rfl ?_
    refine q_iconst cx (pc' := 14) ki_4 dX9_tape_13 rfl ?_
    refine q_callV cx (pc' := 17) (S := []) (S1 := [.int (fn_X9_in p2 (-1) 4)]) (kc' := 0) (ks' := 0) 9 (ct_X9_in Γ l M ths p2 (-1) 4 ht0) lki_X9_in lkv_X9_in lkc_X9_224 ht0 (r := (RX9, TX9, 70)) ⟨rfl, by decide, rfl⟩ rfl rfl (Nat.le_of_ble_eq_true rfl) ⟨(Nat.le_of_ble_eq_true rfl), (Nat.le_of_ble_eq_true rfl)⟩ ⟨(Nat.le_of_ble_eq_true rfl), (Nat.le_of_ble_eq_true rfl)⟩ dX9_tape_14 rfl rfl rfl ?_
    refine q_if_eq cx (pc' := 20) (tgt := 30) dX9_tape_17 (by decide) rfl (fun c17 => ?_) (fun c17 => ?_)
    · replace h := ip c17 h
      refine q_bipush cx (pc' := 32) kb_m2 dX9_tape_30 rfl ?_
      obtain ⟨rfl, rfl⟩ := o2_i h
      rw [hQ]
      exact q_iret cx dX9_tape_32
    · replace h := ine c17 h
      refine q_iload_n cx (pc' := 21) 2 rfl dX9_tape_20 rfl ?_
      refine q_if_lt cx (pc' := 24) (tgt := 33) dX9_tape_21 (by decide) rfl (fun c21 => ?_) (fun c21 => ?_)
      · replace h := ip c21 h
        refine q_sub cx [0, 1, 2, 3] rfl ?_
        exact hj33 _ h
      · replace h := ine c21 h
        refine q_iload_n cx (pc' := 25) 3 rfl dX9_tape_24 rfl ?_
        refine q_bipush cx (pc' := 27) kb_60 dX9_tape_25 rfl ?_
        refine q_icmp_le cx (pc' := 30) (tgt := 33) dX9_tape_27 (by decide) rfl (fun c27 => ?_) (fun c27 => ?_)
        · replace h := ip c27 h
          refine q_sub cx [0, 1, 2, 3] rfl ?_
          exact hj33 _ h
        · replace h := ine c27 h
          refine q_bipush cx (pc' := 32) kb_m2 dX9_tape_30 rfl ?_
          obtain ⟨rfl, rfl⟩ := o2_i h
          rw [hQ]
          exact q_iret cx dX9_tape_32
  · replace h := ip c5 h
    refine q_iconst cx (pc' := 9) ki_m1 dX9_tape_8 rfl ?_
    obtain ⟨rfl, rfl⟩ := o2_i h
    rw [hQ]
    exact q_iret cx dX9_tape_9

abbrev rm_X9_narrow : Room := { frames := 1, cells := 0, slots := 0, locals := 40 }
def fn_X9_narrow (p1 : Int32) (p2 : Int64) : Int64 :=
  if p1 = 0 then
    p2.toInt32.toInt8.toInt32.toInt64
  else
    if p1 = 1 then
      p2.toInt32.toInt16.toInt32.toInt64
    else
      if p1 = 2 then
        p2.toInt32.toInt64
      else
        if p1 = 4 then
          if (lg_cmp p2 0) = 0 then
            0
          else
            1
        else
          p2
set_option maxRecDepth 100000 in
set_option maxHeartbeats 4000000 in
theorem ct_X9_narrow (Γ : GT) (l : Launch) (M : QM) (ths : Nat) (p1 : Int32) (p2 : Int64) (ht0 : mt M ths = 9) : CT Γ l yX9_narrow cX9_narrow 4 (some .long) rm_X9_narrow (.ref ths :: [.int p1, .long p2]) M (some (.long (fn_X9_narrow p1 p2))) M := by
  generalize h : fn_X9_narrow p1 p2 = z
  refine ct_intro (own := RX9) (L := [(0, .ref ths), (1, .int p1), (2, .long p2)]) (by decide +kernel) rfl (Nat.le_of_ble_eq_true rfl) rfl ?_
  intro p e s m args below meth c Q hQ cx hnm
  unfold fn_X9_narrow at h
  refine q_iload_n cx (pc' := 1) 1 rfl dX9_narrow_0 rfl ?_
  refine q_if_ne cx (pc' := 4) (tgt := 11) dX9_narrow_1 (by decide) rfl (fun c1 => ?_) (fun c1 => ?_)
  · replace h := ine c1 h
    refine q_iload_n cx (pc' := 12) 1 rfl dX9_narrow_11 rfl ?_
    refine q_iconst cx (pc' := 13) ki_1 dX9_narrow_12 rfl ?_
    refine q_icmp_ne cx (pc' := 16) (tgt := 23) dX9_narrow_13 (by decide) rfl (fun c13 => ?_) (fun c13 => ?_)
    · replace h := ine c13 h
      refine q_iload_n cx (pc' := 24) 1 rfl dX9_narrow_23 rfl ?_
      refine q_iconst cx (pc' := 25) ki_2 dX9_narrow_24 rfl ?_
      refine q_icmp_ne cx (pc' := 28) (tgt := 34) dX9_narrow_25 (by decide) rfl (fun c25 => ?_) (fun c25 => ?_)
      · replace h := ine c25 h
        refine q_iload_n cx (pc' := 35) 1 rfl dX9_narrow_34 rfl ?_
        refine q_iconst cx (pc' := 36) ki_4 dX9_narrow_35 rfl ?_
        refine q_icmp_ne cx (pc' := 39) (tgt := 53) dX9_narrow_36 (by decide) rfl (fun c36 => ?_) (fun c36 => ?_)
        · replace h := ine c36 h
          refine q_lload_n cx (pc' := 54) 2 rfl dX9_narrow_53 rfl ?_
          subst h
          rw [hQ]
          exact q_lret cx dX9_narrow_54
        · replace h := ip c36 h
          refine q_lload_n cx (pc' := 40) 2 rfl dX9_narrow_39 rfl ?_
          refine q_lconst0 cx (pc' := 41) dX9_narrow_40 rfl ?_
          refine q_lcmp cx (pc' := 42) dX9_narrow_41 rfl ?_
          refine q_if_eq cx (pc' := 45) (tgt := 49) dX9_narrow_42 (by decide) rfl (fun c42 => ?_) (fun c42 => ?_)
          · replace h := ip c42 h
            refine q_lconst0 cx (pc' := 50) dX9_narrow_49 rfl ?_
            refine q_goto cx dX9_narrow_50 (tgt := 54) (by decide) ?_
            subst h
            rw [hQ]
            exact q_lret cx dX9_narrow_54
          · replace h := ine c42 h
            refine q_lconst1 cx (pc' := 46) dX9_narrow_45 rfl ?_
            refine q_goto cx dX9_narrow_46 (tgt := 54) (by decide) ?_
            subst h
            rw [hQ]
            exact q_lret cx dX9_narrow_54
      · replace h := ip c25 h
        refine q_lload_n cx (pc' := 29) 2 rfl dX9_narrow_28 rfl ?_
        refine q_l2i cx (pc' := 30) dX9_narrow_29 rfl ?_
        refine q_i2l cx (pc' := 31) dX9_narrow_30 rfl ?_
        refine q_goto cx dX9_narrow_31 (tgt := 54) (by decide) ?_
        subst h
        rw [hQ]
        exact q_lret cx dX9_narrow_54
    · replace h := ip c13 h
      refine q_lload_n cx (pc' := 17) 2 rfl dX9_narrow_16 rfl ?_
      refine q_l2i cx (pc' := 18) dX9_narrow_17 rfl ?_
      refine q_i2s cx (pc' := 19) dX9_narrow_18 rfl ?_
      refine q_i2l cx (pc' := 20) dX9_narrow_19 rfl ?_
      refine q_goto cx dX9_narrow_20 (tgt := 54) (by decide) ?_
      subst h
      rw [hQ]
      exact q_lret cx dX9_narrow_54
  · replace h := ip c1 h
    refine q_lload_n cx (pc' := 5) 2 rfl dX9_narrow_4 rfl ?_
    refine q_l2i cx (pc' := 6) dX9_narrow_5 rfl ?_
    refine q_i2b cx (pc' := 7) dX9_narrow_6 rfl ?_
    refine q_i2l cx (pc' := 8) dX9_narrow_7 rfl ?_
    refine q_goto cx dX9_narrow_8 (tgt := 54) (by decide) ?_
    subst h
    rw [hQ]
    exact q_lret cx dX9_narrow_54

abbrev rm_X9_item : Room := { frames := 3, cells := 0, slots := 0, locals := 84 }
def fn_X9_item (M : QM) (ths : Nat) (p1 : Int32) (p2 : Int32) (p3 : Int64) : Option (Int32 × QM) :=
  if (fn_X9_isTape p1) = 0 then
    some ((-1), M)
  else
    gR M ths 9 66 fun r11 =>
    aI M 20 r11 p1 fun x15 =>
    if 0 ≤ x15 then
      gR M ths 9 67 fun r26 =>
      aI M 20 r26 p1 fun x30 =>
      if (fn_X9_in p2 0 (x30 - 1)) = 0 then
        some ((-13), M)
      else
        gR M ths 9 68 fun r43 =>
        gR M ths 9 66 fun r54 =>
        aI M 20 r54 p1 fun x58 =>
        wJ M r43 ((60 * p1) + p2) (fn_X9_narrow x58 p3) fun M63 =>
        some (1, M63)
    else
      some ((-11), M)
set_option maxRecDepth 100000 in
set_option maxHeartbeats 4000000 in
theorem ct_X9_item (Γ : GT) (l : Launch) (M : QM) (ths : Nat) (p1 : Int32) (p2 : Int32) (p3 : Int64) (ht0 : mt M ths = 9) (z : Int32) (M' : QM) (h : fn_X9_item M ths p1 p2 p3 = some (z, M')) : CT Γ l yX9_item cX9_item 5 (some .int) rm_X9_item (.ref ths :: [.int p1, .int p2, .long p3]) M (some (.int z)) M' := by
  refine ct_intro (own := RX9) (L := [(0, .ref ths), (1, .int p1), (2, .int p2), (3, .long p3)]) (by decide +kernel) rfl (Nat.le_of_ble_eq_true rfl) rfl ?_
  intro p e s m args below meth c Q hQ cx hnm
  unfold fn_X9_item at h
  refine q_aload_n cx (pc' := 1) 0 rfl dX9_item_0 rfl ?_
  refine q_iload_n cx (pc' := 2) 1 rfl dX9_item_1 rfl ?_
  refine q_callV cx (pc' := 5) (S := []) (S1 := [.int (fn_X9_isTape p1)]) (kc' := 0) (ks' := 0) 9 (ct_X9_isTape Γ l M ths p1 ht0) lki_X9_isTape lkv_X9_isTape lkc_X9_410 ht0 (r := (RX9, TX9, 70)) ⟨rfl, by decide, rfl⟩ rfl rfl (Nat.le_of_ble_eq_true rfl) ⟨(Nat.le_of_ble_eq_true rfl), (Nat.le_of_ble_eq_true rfl)⟩ ⟨(Nat.le_of_ble_eq_true rfl), (Nat.le_of_ble_eq_true rfl)⟩ dX9_item_2 rfl rfl rfl ?_
  refine q_if_ne cx (pc' := 8) (tgt := 10) dX9_item_5 (by decide) rfl (fun c5 => ?_) (fun c5 => ?_)
  · replace h := ine c5 h
    refine q_aload_n cx (pc' := 11) 0 rfl dX9_item_10 rfl ?_
    obtain ⟨ht11, r11, ex11, h⟩ := gR_i h
    refine q_gR cx (pc' := 14) 9 66 fl_X9_211 rfl ht11 ex11 dX9_item_11 rfl ?_
    refine q_iload_n cx (pc' := 15) 1 rfl dX9_item_14 rfl ?_
    obtain ⟨ht15, hi15, x15, ex15, h⟩ := aI_i h
    refine q_iald cx (pc' := 16) ht15 hi15 ex15 dX9_item_15 rfl ?_
    refine q_if_ge cx (pc' := 19) (tgt := 22) dX9_item_16 (by decide) rfl (fun c16 => ?_) (fun c16 => ?_)
    · replace h := ip c16 h
      refine q_aload_n cx (pc' := 23) 0 rfl dX9_item_22 rfl ?_
      refine q_iload_n cx (pc' := 24) 2 rfl dX9_item_23 rfl ?_
      refine q_iconst cx (pc' := 25) ki_0 dX9_item_24 rfl ?_
      refine q_aload_n cx (pc' := 26) 0 rfl dX9_item_25 rfl ?_
      obtain ⟨ht26, r26, ex26, h⟩ := gR_i h
      refine q_gR cx (pc' := 29) 9 67 fl_X9_214 rfl ht26 ex26 dX9_item_26 rfl ?_
      refine q_iload_n cx (pc' := 30) 1 rfl dX9_item_29 rfl ?_
      obtain ⟨ht30, hi30, x30, ex30, h⟩ := aI_i h
      refine q_iald cx (pc' := 31) ht30 hi30 ex30 dX9_item_30 rfl ?_
      refine q_iconst cx (pc' := 32) ki_1 dX9_item_31 rfl ?_
      refine q_isub cx (pc' := 33) dX9_item_32 rfl ?_
      refine q_callV cx (pc' := 36) (S := []) (S1 := [.int (fn_X9_in p2 0 (x30 - 1))]) (kc' := 0) (ks' := 0) 9 (ct_X9_in Γ l M ths p2 0 (x30 - 1) ht0) lki_X9_in lkv_X9_in lkc_X9_224 ht0 (r := (RX9, TX9, 70)) ⟨rfl, by decide, rfl⟩ rfl rfl (Nat.le_of_ble_eq_true rfl) ⟨(Nat.le_of_ble_eq_true rfl), (Nat.le_of_ble_eq_true rfl)⟩ ⟨(Nat.le_of_ble_eq_true rfl), (Nat.le_of_ble_eq_true rfl)⟩ dX9_item_33 rfl rfl rfl ?_
      refine q_if_ne cx (pc' := 39) (tgt := 42) dX9_item_36 (by decide) rfl (fun c36 => ?_) (fun c36 => ?_)
      · replace h := ine c36 h
        refine q_aload_n cx (pc' := 43) 0 rfl dX9_item_42 rfl ?_
        obtain ⟨ht43, r43, ex43, h⟩ := gR_i h
        refine q_gR cx (pc' := 46) 9 68 fl_X9_217 rfl ht43 ex43 dX9_item_43 rfl ?_
        refine q_bipush cx (pc' := 48) kb_60 dX9_item_46 rfl ?_
        refine q_iload_n cx (pc' := 49) 1 rfl dX9_item_48 rfl ?_
        refine q_imul cx (pc' := 50) dX9_item_49 rfl ?_
        refine q_iload_n cx (pc' := 51) 2 rfl dX9_item_50 rfl ?_
        refine q_iadd cx (pc' := 52) dX9_item_51 rfl ?_
        refine q_aload_n cx (pc' := 53) 0 rfl dX9_item_52 rfl ?_
        refine q_aload_n cx (pc' := 54) 0 rfl dX9_item_53 rfl ?_
        obtain ⟨ht54, r54, ex54, h⟩ := gR_i h
        refine q_gR cx (pc' := 57) 9 66 fl_X9_211 rfl ht54 ex54 dX9_item_54 rfl ?_
        refine q_iload_n cx (pc' := 58) 1 rfl dX9_item_57 rfl ?_
        obtain ⟨ht58, hi58, x58, ex58, h⟩ := aI_i h
        refine q_iald cx (pc' := 59) ht58 hi58 ex58 dX9_item_58 rfl ?_
        refine q_lload_n cx (pc' := 60) 3 rfl dX9_item_59 rfl ?_
        refine q_callV cx (pc' := 63) (S := [.int ((60 * p1) + p2), .ref r43]) (S1 := [.long (fn_X9_narrow x58 p3), .int ((60 * p1) + p2), .ref r43]) (kc' := 0) (ks' := 0) 9 (ct_X9_narrow Γ l M ths x58 p3 ht0) lki_X9_narrow lkv_X9_narrow lkc_X9_437 ht0 (r := (RX9, TX9, 70)) ⟨rfl, by decide, rfl⟩ rfl rfl (Nat.le_of_ble_eq_true rfl) ⟨(Nat.le_of_ble_eq_true rfl), (Nat.le_of_ble_eq_true rfl)⟩ ⟨(Nat.le_of_ble_eq_true rfl), (Nat.le_of_ble_eq_true rfl)⟩ dX9_item_60 rfl rfl rfl ?_
        obtain ⟨ht63, hi63, M63, eM63, h⟩ := wJ_i h
        refine q_last cx (pc' := 64) ht63 hi63 eM63 dX9_item_63 rfl ?_
        refine q_iconst cx (pc' := 65) ki_1 dX9_item_64 rfl ?_
        obtain ⟨rfl, rfl⟩ := o2_i h
        rw [hQ]
        exact q_iret cx dX9_item_65
      · replace h := ip c36 h
        refine q_bipush cx (pc' := 41) kb_m13 dX9_item_39 rfl ?_
        obtain ⟨rfl, rfl⟩ := o2_i h
        rw [hQ]
        exact q_iret cx dX9_item_41
    · replace h := ine c16 h
      refine q_bipush cx (pc' := 21) kb_m11 dX9_item_19 rfl ?_
      obtain ⟨rfl, rfl⟩ := o2_i h
      rw [hQ]
      exact q_iret cx dX9_item_21
  · replace h := ip c5 h
    refine q_iconst cx (pc' := 9) ki_m1 dX9_item_8 rfl ?_
    obtain ⟨rfl, rfl⟩ := o2_i h
    rw [hQ]
    exact q_iret cx dX9_item_9

abbrev rm_X9_read : Room := { frames := 3, cells := 0, slots := 0, locals := 84 }
def fn_X9_read (M : QM) (ths : Nat) (p1 : Int32) (p2 : Int32) : Option Int64 :=
  if (fn_X9_isTape p1) = 0 then
    some (-9223372036854775808)
  else
    gR M ths 9 66 fun r9 =>
    aI M 20 r9 p1 fun x13 =>
    if x13 < 0 then
      some (-9223372036854775808)
    else
      gR M ths 9 67 fun r21 =>
      aI M 20 r21 p1 fun x25 =>
      if (fn_X9_in p2 0 (x25 - 1)) = 0 then
        some (-9223372036854775808)
      else
        gR M ths 9 68 fun r41 =>
        aJ M r41 ((60 * p1) + p2) fun x50 =>
        some x50
set_option maxRecDepth 100000 in
set_option maxHeartbeats 4000000 in
theorem ct_X9_read (Γ : GT) (l : Launch) (M : QM) (ths : Nat) (p1 : Int32) (p2 : Int32) (ht0 : mt M ths = 9) (z : Int64) (h : fn_X9_read M ths p1 p2 = some z) : CT Γ l yX9_read cX9_read 3 (some .long) rm_X9_read (.ref ths :: [.int p1, .int p2]) M (some (.long z)) M := by
  refine ct_intro (own := RX9) (L := [(0, .ref ths), (1, .int p1), (2, .int p2)]) (by decide +kernel) rfl (Nat.le_of_ble_eq_true rfl) rfl ?_
  intro p e s m args below meth c Q hQ cx hnm
  unfold fn_X9_read at h
  refine q_aload_n cx (pc' := 1) 0 rfl dX9_read_0 rfl ?_
  refine q_iload_n cx (pc' := 2) 1 rfl dX9_read_1 rfl ?_
  refine q_callV cx (pc' := 5) (S := []) (S1 := [.int (fn_X9_isTape p1)]) (kc' := 0) (ks' := 0) 9 (ct_X9_isTape Γ l M ths p1 ht0) lki_X9_isTape lkv_X9_isTape lkc_X9_410 ht0 (r := (RX9, TX9, 70)) ⟨rfl, by decide, rfl⟩ rfl rfl (Nat.le_of_ble_eq_true rfl) ⟨(Nat.le_of_ble_eq_true rfl), (Nat.le_of_ble_eq_true rfl)⟩ ⟨(Nat.le_of_ble_eq_true rfl), (Nat.le_of_ble_eq_true rfl)⟩ dX9_read_2 rfl rfl rfl ?_
  refine q_if_eq cx (pc' := 8) (tgt := 34) dX9_read_5 (by decide) rfl (fun c5 => ?_) (fun c5 => ?_)
  · replace h := ip c5 h
    refine q_ldc2 cx (pc' := 37) aw_154 dX9_read_34 rfl ?_
    refine q_goto cx dX9_read_37 (tgt := 51) (by decide) ?_
    obtain rfl := o1_i h
    rw [hQ]
    exact q_lret cx dX9_read_51
  · replace h := ine c5 h
    refine q_aload_n cx (pc' := 9) 0 rfl dX9_read_8 rfl ?_
    obtain ⟨ht9, r9, ex9, h⟩ := gR_i h
    refine q_gR cx (pc' := 12) 9 66 fl_X9_211 rfl ht9 ex9 dX9_read_9 rfl ?_
    refine q_iload_n cx (pc' := 13) 1 rfl dX9_read_12 rfl ?_
    obtain ⟨ht13, hi13, x13, ex13, h⟩ := aI_i h
    refine q_iald cx (pc' := 14) ht13 hi13 ex13 dX9_read_13 rfl ?_
    refine q_if_lt cx (pc' := 17) (tgt := 34) dX9_read_14 (by decide) rfl (fun c14 => ?_) (fun c14 => ?_)
    · replace h := ip c14 h
      refine q_ldc2 cx (pc' := 37) aw_154 dX9_read_34 rfl ?_
      refine q_goto cx dX9_read_37 (tgt := 51) (by decide) ?_
      obtain rfl := o1_i h
      rw [hQ]
      exact q_lret cx dX9_read_51
    · replace h := ine c14 h
      refine q_aload_n cx (pc' := 18) 0 rfl dX9_read_17 rfl ?_
      refine q_iload_n cx (pc' := 19) 2 rfl dX9_read_18 rfl ?_
      refine q_iconst cx (pc' := 20) ki_0 dX9_read_19 rfl ?_
      refine q_aload_n cx (pc' := 21) 0 rfl dX9_read_20 rfl ?_
      obtain ⟨ht21, r21, ex21, h⟩ := gR_i h
      refine q_gR cx (pc' := 24) 9 67 fl_X9_214 rfl ht21 ex21 dX9_read_21 rfl ?_
      refine q_iload_n cx (pc' := 25) 1 rfl dX9_read_24 rfl ?_
      obtain ⟨ht25, hi25, x25, ex25, h⟩ := aI_i h
      refine q_iald cx (pc' := 26) ht25 hi25 ex25 dX9_read_25 rfl ?_
      refine q_iconst cx (pc' := 27) ki_1 dX9_read_26 rfl ?_
      refine q_isub cx (pc' := 28) dX9_read_27 rfl ?_
      refine q_callV cx (pc' := 31) (S := []) (S1 := [.int (fn_X9_in p2 0 (x25 - 1))]) (kc' := 0) (ks' := 0) 9 (ct_X9_in Γ l M ths p2 0 (x25 - 1) ht0) lki_X9_in lkv_X9_in lkc_X9_224 ht0 (r := (RX9, TX9, 70)) ⟨rfl, by decide, rfl⟩ rfl rfl (Nat.le_of_ble_eq_true rfl) ⟨(Nat.le_of_ble_eq_true rfl), (Nat.le_of_ble_eq_true rfl)⟩ ⟨(Nat.le_of_ble_eq_true rfl), (Nat.le_of_ble_eq_true rfl)⟩ dX9_read_28 rfl rfl rfl ?_
      refine q_if_ne cx (pc' := 34) (tgt := 40) dX9_read_31 (by decide) rfl (fun c31 => ?_) (fun c31 => ?_)
      · replace h := ine c31 h
        refine q_aload_n cx (pc' := 41) 0 rfl dX9_read_40 rfl ?_
        obtain ⟨ht41, r41, ex41, h⟩ := gR_i h
        refine q_gR cx (pc' := 44) 9 68 fl_X9_217 rfl ht41 ex41 dX9_read_41 rfl ?_
        refine q_bipush cx (pc' := 46) kb_60 dX9_read_44 rfl ?_
        refine q_iload_n cx (pc' := 47) 1 rfl dX9_read_46 rfl ?_
        refine q_imul cx (pc' := 48) dX9_read_47 rfl ?_
        refine q_iload_n cx (pc' := 49) 2 rfl dX9_read_48 rfl ?_
        refine q_iadd cx (pc' := 50) dX9_read_49 rfl ?_
        obtain ⟨ht50, hi50, x50, ex50, h⟩ := aJ_i h
        refine q_lald cx (pc' := 51) ht50 hi50 ex50 dX9_read_50 rfl ?_
        obtain rfl := o1_i h
        rw [hQ]
        exact q_lret cx dX9_read_51
      · replace h := ip c31 h
        refine q_ldc2 cx (pc' := 37) aw_154 dX9_read_34 rfl ?_
        refine q_goto cx dX9_read_37 (tgt := 51) (by decide) ?_
        obtain rfl := o1_i h
        rw [hQ]
        exact q_lret cx dX9_read_51

abbrev rm_X9_shift : Room := { frames := 3, cells := 0, slots := 0, locals := 84 }
def lp_X9_shift_104 (ths : Nat) (p1 : Int32) (p2 : Int32) (p5 : Int32) (w6_104 : Int32) (Mw_104 : QM) : Option ((Int32 × QM) ⊕ (QM)) :=
  if p5 ≤ w6_104 then
    some (.inr Mw_104)
  else
    gR Mw_104 ths 9 69 fun r112 =>
    gR Mw_104 ths 9 68 fun r118 =>
    aJ Mw_104 r118 (((60 * p1) + p2) + w6_104) fun x130 =>
    wJ Mw_104 r112 w6_104 x130 fun M131 =>
    nm (w6_104 + 1) fun v6_132 =>
    some (.inl (v6_132, M131))
def lp_X9_shift_141 (ths : Nat) (p3 : Int32) (p4 : Int32) (p5 : Int32) (w6_141 : Int32) (Mw_141 : QM) : Option ((Int32 × QM) ⊕ (Int32 × QM)) :=
  if p5 ≤ w6_141 then
    some (.inr (p5, Mw_141))
  else
    gR Mw_141 ths 9 68 fun r149 =>
    gR Mw_141 ths 9 69 fun r163 =>
    aJ Mw_141 r163 w6_141 fun x168 =>
    wJ Mw_141 r149 (((60 * p3) + p4) + w6_141) x168 fun M169 =>
    nm (w6_141 + 1) fun v6_170 =>
    some (.inl (v6_170, M169))
def fn_X9_shift (M : QM) (ths : Nat) (p1 : Int32) (p2 : Int32) (p3 : Int32) (p4 : Int32) (p5 : Int32) : Option (Int32 × QM) :=
  if (fn_X9_isTape p1) = 0 then
    some ((-1), M)
  else
    if (fn_X9_isTape p3) = 0 then
      some ((-1), M)
    else
      gR M ths 9 66 fun r19 =>
      aI M 20 r19 p1 fun x23 =>
      if x23 < 0 then
        some ((-11), M)
      else
        gR M ths 9 66 fun r28 =>
        aI M 20 r28 p3 fun x32 =>
        if 0 ≤ x32 then
          gR M ths 9 66 fun r40 =>
          aI M 20 r40 p1 fun x44 =>
          gR M ths 9 66 fun r46 =>
          aI M 20 r46 p3 fun x50 =>
          if x44 = x50 then
            if p5 < 0 then
              some ((-13), M)
            else
              if p2 < 0 then
                some ((-13), M)
              else
                if p4 < 0 then
                  some ((-13), M)
                else
                  gR M ths 9 67 fun r73 =>
                  aI M 20 r73 p1 fun x77 =>
                  if (x77 - p5) < p2 then
                    some ((-13), M)
                  else
                    gR M ths 9 67 fun r87 =>
                    aI M 20 r87 p3 fun x91 =>
                    if p4 ≤ (x91 - p5) then
                      bnd (itr (fun s104 : Int32 × QM => lp_X9_shift_104 ths p1 p2 p5 s104.1 s104.2) FU (0, M)) fun Me_104 =>
                      bnd (itr (fun s141 : Int32 × QM => lp_X9_shift_141 ths p3 p4 p5 s141.1 s141.2) FU (0, Me_104)) fun r141 =>
                      pr2 r141 fun re_141 Mr_141 =>
                      some (re_141, Mr_141)
                    else
                      some ((-13), M)
          else
            some ((-12), M)
        else
          some ((-11), M)
set_option maxRecDepth 100000 in
set_option maxHeartbeats 4000000 in
theorem ct_X9_shift (Γ : GT) (l : Launch) (M : QM) (ths : Nat) (p1 : Int32) (p2 : Int32) (p3 : Int32) (p4 : Int32) (p5 : Int32) (ht0 : mt M ths = 9) (z : Int32) (M' : QM) (h : fn_X9_shift M ths p1 p2 p3 p4 p5 = some (z, M')) : CT Γ l yX9_shift cX9_shift 7 (some .int) rm_X9_shift (.ref ths :: [.int p1, .int p2, .int p3, .int p4, .int p5]) M (some (.int z)) M' := by
  refine ct_intro (own := RX9) (L := [(0, .ref ths), (1, .int p1), (2, .int p2), (3, .int p3), (4, .int p4), (5, .int p5)]) (by decide +kernel) rfl (Nat.le_of_ble_eq_true rfl) rfl ?_
  intro p e s m args below meth c Q hQ cx hnm
  unfold fn_X9_shift at h
  refine q_aload_n cx (pc' := 1) 0 rfl dX9_shift_0 rfl ?_
  refine q_iload_n cx (pc' := 2) 1 rfl dX9_shift_1 rfl ?_
  refine q_callV cx (pc' := 5) (S := []) (S1 := [.int (fn_X9_isTape p1)]) (kc' := 0) (ks' := 0) 9 (ct_X9_isTape Γ l M ths p1 ht0) lki_X9_isTape lkv_X9_isTape lkc_X9_410 ht0 (r := (RX9, TX9, 70)) ⟨rfl, by decide, rfl⟩ rfl rfl (Nat.le_of_ble_eq_true rfl) ⟨(Nat.le_of_ble_eq_true rfl), (Nat.le_of_ble_eq_true rfl)⟩ ⟨(Nat.le_of_ble_eq_true rfl), (Nat.le_of_ble_eq_true rfl)⟩ dX9_shift_2 rfl rfl rfl ?_
  refine q_if_eq cx (pc' := 8) (tgt := 16) dX9_shift_5 (by decide) rfl (fun c5 => ?_) (fun c5 => ?_)
  · replace h := ip c5 h
    refine q_iconst cx (pc' := 17) ki_m1 dX9_shift_16 rfl ?_
    obtain ⟨rfl, rfl⟩ := o2_i h
    rw [hQ]
    exact q_iret cx dX9_shift_17
  · replace h := ine c5 h
    refine q_aload_n cx (pc' := 9) 0 rfl dX9_shift_8 rfl ?_
    refine q_iload_n cx (pc' := 10) 3 rfl dX9_shift_9 rfl ?_
    refine q_callV cx (pc' := 13) (S := []) (S1 := [.int (fn_X9_isTape p3)]) (kc' := 0) (ks' := 0) 9 (ct_X9_isTape Γ l M ths p3 ht0) lki_X9_isTape lkv_X9_isTape lkc_X9_410 ht0 (r := (RX9, TX9, 70)) ⟨rfl, by decide, rfl⟩ rfl rfl (Nat.le_of_ble_eq_true rfl) ⟨(Nat.le_of_ble_eq_true rfl), (Nat.le_of_ble_eq_true rfl)⟩ ⟨(Nat.le_of_ble_eq_true rfl), (Nat.le_of_ble_eq_true rfl)⟩ dX9_shift_10 rfl rfl rfl ?_
    refine q_if_ne cx (pc' := 16) (tgt := 18) dX9_shift_13 (by decide) rfl (fun c13 => ?_) (fun c13 => ?_)
    · replace h := ine c13 h
      refine q_aload_n cx (pc' := 19) 0 rfl dX9_shift_18 rfl ?_
      obtain ⟨ht19, r19, ex19, h⟩ := gR_i h
      refine q_gR cx (pc' := 22) 9 66 fl_X9_211 rfl ht19 ex19 dX9_shift_19 rfl ?_
      refine q_iload_n cx (pc' := 23) 1 rfl dX9_shift_22 rfl ?_
      obtain ⟨ht23, hi23, x23, ex23, h⟩ := aI_i h
      refine q_iald cx (pc' := 24) ht23 hi23 ex23 dX9_shift_23 rfl ?_
      refine q_if_lt cx (pc' := 27) (tgt := 36) dX9_shift_24 (by decide) rfl (fun c24 => ?_) (fun c24 => ?_)
      · replace h := ip c24 h
        refine q_bipush cx (pc' := 38) kb_m11 dX9_shift_36 rfl ?_
        obtain ⟨rfl, rfl⟩ := o2_i h
        rw [hQ]
        exact q_iret cx dX9_shift_38
      · replace h := ine c24 h
        refine q_aload_n cx (pc' := 28) 0 rfl dX9_shift_27 rfl ?_
        obtain ⟨ht28, r28, ex28, h⟩ := gR_i h
        refine q_gR cx (pc' := 31) 9 66 fl_X9_211 rfl ht28 ex28 dX9_shift_28 rfl ?_
        refine q_iload_n cx (pc' := 32) 3 rfl dX9_shift_31 rfl ?_
        obtain ⟨ht32, hi32, x32, ex32, h⟩ := aI_i h
        refine q_iald cx (pc' := 33) ht32 hi32 ex32 dX9_shift_32 rfl ?_
        refine q_if_ge cx (pc' := 36) (tgt := 39) dX9_shift_33 (by decide) rfl (fun c33 => ?_) (fun c33 => ?_)
        · replace h := ip c33 h
          refine q_aload_n cx (pc' := 40) 0 rfl dX9_shift_39 rfl ?_
          obtain ⟨ht40, r40, ex40, h⟩ := gR_i h
          refine q_gR cx (pc' := 43) 9 66 fl_X9_211 rfl ht40 ex40 dX9_shift_40 rfl ?_
          refine q_iload_n cx (pc' := 44) 1 rfl dX9_shift_43 rfl ?_
          obtain ⟨ht44, hi44, x44, ex44, h⟩ := aI_i h
          refine q_iald cx (pc' := 45) ht44 hi44 ex44 dX9_shift_44 rfl ?_
          refine q_aload_n cx (pc' := 46) 0 rfl dX9_shift_45 rfl ?_
          obtain ⟨ht46, r46, ex46, h⟩ := gR_i h
          refine q_gR cx (pc' := 49) 9 66 fl_X9_211 rfl ht46 ex46 dX9_shift_46 rfl ?_
          refine q_iload_n cx (pc' := 50) 3 rfl dX9_shift_49 rfl ?_
          obtain ⟨ht50, hi50, x50, ex50, h⟩ := aI_i h
          refine q_iald cx (pc' := 51) ht50 hi50 ex50 dX9_shift_50 rfl ?_
          refine q_icmp_eq cx (pc' := 54) (tgt := 57) dX9_shift_51 (by decide) rfl (fun c51 => ?_) (fun c51 => ?_)
          · replace h := ip c51 h
            refine q_iload cx (pc' := 59) 5 rfl dX9_shift_57 rfl ?_
            refine q_if_lt cx (pc' := 62) (tgt := 98) dX9_shift_59 (by decide) rfl (fun c59 => ?_) (fun c59 => ?_)
            · replace h := ip c59 h
              refine q_bipush cx (pc' := 100) kb_m13 dX9_shift_98 rfl ?_
              obtain ⟨rfl, rfl⟩ := o2_i h
              rw [hQ]
              exact q_iret cx dX9_shift_100
            · replace h := ine c59 h
              refine q_iload_n cx (pc' := 63) 2 rfl dX9_shift_62 rfl ?_
              refine q_if_lt cx (pc' := 66) (tgt := 98) dX9_shift_63 (by decide) rfl (fun c63 => ?_) (fun c63 => ?_)
              · replace h := ip c63 h
                refine q_bipush cx (pc' := 100) kb_m13 dX9_shift_98 rfl ?_
                obtain ⟨rfl, rfl⟩ := o2_i h
                rw [hQ]
                exact q_iret cx dX9_shift_100
              · replace h := ine c63 h
                refine q_iload cx (pc' := 68) 4 rfl dX9_shift_66 rfl ?_
                refine q_if_lt cx (pc' := 71) (tgt := 98) dX9_shift_68 (by decide) rfl (fun c68 => ?_) (fun c68 => ?_)
                · replace h := ip c68 h
                  refine q_bipush cx (pc' := 100) kb_m13 dX9_shift_98 rfl ?_
                  obtain ⟨rfl, rfl⟩ := o2_i h
                  rw [hQ]
                  exact q_iret cx dX9_shift_100
                · replace h := ine c68 h
                  refine q_iload_n cx (pc' := 72) 2 rfl dX9_shift_71 rfl ?_
                  refine q_aload_n cx (pc' := 73) 0 rfl dX9_shift_72 rfl ?_
                  obtain ⟨ht73, r73, ex73, h⟩ := gR_i h
                  refine q_gR cx (pc' := 76) 9 67 fl_X9_214 rfl ht73 ex73 dX9_shift_73 rfl ?_
                  refine q_iload_n cx (pc' := 77) 1 rfl dX9_shift_76 rfl ?_
                  obtain ⟨ht77, hi77, x77, ex77, h⟩ := aI_i h
                  refine q_iald cx (pc' := 78) ht77 hi77 ex77 dX9_shift_77 rfl ?_
                  refine q_iload cx (pc' := 80) 5 rfl dX9_shift_78 rfl ?_
                  refine q_isub cx (pc' := 81) dX9_shift_80 rfl ?_
                  refine q_icmp_gt cx (pc' := 84) (tgt := 98) dX9_shift_81 (by decide) rfl (fun c81 => ?_) (fun c81 => ?_)
                  · replace h := ip c81 h
                    refine q_bipush cx (pc' := 100) kb_m13 dX9_shift_98 rfl ?_
                    obtain ⟨rfl, rfl⟩ := o2_i h
                    rw [hQ]
                    exact q_iret cx dX9_shift_100
                  · replace h := ine c81 h
                    refine q_iload cx (pc' := 86) 4 rfl dX9_shift_84 rfl ?_
                    refine q_aload_n cx (pc' := 87) 0 rfl dX9_shift_86 rfl ?_
                    obtain ⟨ht87, r87, ex87, h⟩ := gR_i h
                    refine q_gR cx (pc' := 90) 9 67 fl_X9_214 rfl ht87 ex87 dX9_shift_87 rfl ?_
                    refine q_iload_n cx (pc' := 91) 3 rfl dX9_shift_90 rfl ?_
                    obtain ⟨ht91, hi91, x91, ex91, h⟩ := aI_i h
                    refine q_iald cx (pc' := 92) ht91 hi91 ex91 dX9_shift_91 rfl ?_
                    refine q_iload cx (pc' := 94) 5 rfl dX9_shift_92 rfl ?_
                    refine q_isub cx (pc' := 95) dX9_shift_94 rfl ?_
                    refine q_icmp_le cx (pc' := 98) (tgt := 101) dX9_shift_95 (by decide) rfl (fun c95 => ?_) (fun c95 => ?_)
                    · replace h := ip c95 h
                      refine q_iconst cx (pc' := 102) ki_0 dX9_shift_101 rfl ?_
                      refine q_istore cx (pc' := 104) rfl (by decide) (L' := [(6, .int 0), (0, .ref ths), (1, .int p1), (2, .int p2), (3, .int p3), (4, .int p4), (5, .int p5)]) rfl dX9_shift_102 rfl ?_
                      obtain ⟨r104, hL104, h⟩ := bnd_i h
                      have hk104_0 : ∀ (Me_104 : QM), Me_104 = r104 → EE p l e rm_X9_shift s m args below meth c Q Γ 7 0 0 138 [(0, .ref ths), (3, .int p3), (4, .int p4), (5, .int p5)] [] Me_104 := by
                        intro Me_104 hp
                        subst hp
                        refine q_iconst cx (pc' := 139) ki_0 dX9_shift_138 rfl ?_
                        refine q_istore cx (pc' := 141) rfl (by decide) (L' := [(6, .int 0), (0, .ref ths), (3, .int p3), (4, .int p4), (5, .int p5)]) rfl dX9_shift_139 rfl ?_
                        obtain ⟨r141, hL141, h⟩ := bnd_i h
                        have hk141_r : ∀ (re_141 : Int32) (Mr_141 : QM), (re_141, Mr_141) = r141 → some (re_141, Mr_141) = some (z, M') := by
                          intro re_141 Mr_141 hp
                          subst hp
                          replace h := pr2_i h
                          exact h
                        have key141 : ∀ (n : Nat) (w6_141 : Int32) (Mw_141 : QM), itr (fun s141 : Int32 × QM => lp_X9_shift_141 ths p3 p4 p5 s141.1 s141.2) n (w6_141, Mw_141) = some r141 → EE p l e rm_X9_shift s m args below meth c Q Γ 7 0 0 141 [(0, .ref ths), (3, .int p3), (4, .int p4), (5, .int p5), (6, .int w6_141)] [] Mw_141 := by
                          intro n
                          induction n with
                          | zero => intro _ _ h; exact (itr_0 h).elim
                          | succ n ih =>
                            intro w6_141 Mw_141 h
                            obtain ⟨z141, h, hz141⟩ := itr_i h
                            replace h : lp_X9_shift_141 ths p3 p4 p5 w6_141 Mw_141 = some z141 := h
                            unfold lp_X9_shift_141 at h
                            refine q_iload cx (pc' := 143) 4 rfl dX9_shift_141 rfl ?_
                            refine q_iload cx (pc' := 145) 3 rfl dX9_shift_143 rfl ?_
                            refine q_icmp_ge cx (pc' := 148) (tgt := 176) dX9_shift_145 (by decide) rfl (fun c145 => ?_) (fun c145 => ?_)
                            · replace h := ip c145 h
                              refine q_iload cx (pc' := 178) 3 rfl dX9_shift_176 rfl ?_
                              replace h := hk141_r _ _ (hz141.2 _ h)
                              obtain ⟨rfl, rfl⟩ := o2_i h
                              rw [hQ]
                              exact q_iret cx dX9_shift_178
                            · replace h := ine c145 h
                              refine q_aload_n cx (pc' := 149) 0 rfl dX9_shift_148 rfl ?_
                              obtain ⟨ht149, r149, ex149, h⟩ := gR_i h
                              refine q_gR cx (pc' := 152) 9 68 fl_X9_217 rfl ht149 ex149 dX9_shift_149 rfl ?_
                              refine q_bipush cx (pc' := 154) kb_60 dX9_shift_152 rfl ?_
                              refine q_iload_n cx (pc' := 155) 1 rfl dX9_shift_154 rfl ?_
                              refine q_imul cx (pc' := 156) dX9_shift_155 rfl ?_
                              refine q_iload cx (pc' := 158) 2 rfl dX9_shift_156 rfl ?_
                              refine q_iadd cx (pc' := 159) dX9_shift_158 rfl ?_
                              refine q_iload cx (pc' := 161) 4 rfl dX9_shift_159 rfl ?_
                              refine q_iadd cx (pc' := 162) dX9_shift_161 rfl ?_
                              refine q_aload_n cx (pc' := 163) 0 rfl dX9_shift_162 rfl ?_
                              obtain ⟨ht163, r163, ex163, h⟩ := gR_i h
                              refine q_gR cx (pc' := 166) 9 69 fl_X9_221 rfl ht163 ex163 dX9_shift_163 rfl ?_
                              refine q_iload cx (pc' := 168) 4 rfl dX9_shift_166 rfl ?_
                              obtain ⟨ht168, hi168, x168, ex168, h⟩ := aJ_i h
                              refine q_lald cx (pc' := 169) ht168 hi168 ex168 dX9_shift_168 rfl ?_
                              obtain ⟨ht169, hi169, M169, eM169, h⟩ := wJ_i h
                              refine q_last cx (pc' := 170) ht169 hi169 eM169 dX9_shift_169 rfl ?_
                              obtain ⟨v6_170, ev6_170, h⟩ := nm_i h
                              refine q_iinc cx (pc' := 173) 4 rfl ki_1 ev6_170 (by decide) (L' := [(6, .int v6_170), (0, .ref ths), (3, .int p3), (4, .int p4), (5, .int p5)]) rfl dX9_shift_170 rfl ?_
                              refine q_goto cx dX9_shift_173 (tgt := 141) (by decide) ?_
                              refine q_sub cx [1, 2, 3, 4, 0] rfl ?_
                              exact ih _ _ (hz141.1 _ h)
                        refine q_sub cx [1, 2, 3, 4, 0] rfl ?_
                        exact key141 FU _ _ hL141
                      have key104 : ∀ (n : Nat) (w6_104 : Int32) (Mw_104 : QM), itr (fun s104 : Int32 × QM => lp_X9_shift_104 ths p1 p2 p5 s104.1 s104.2) n (w6_104, Mw_104) = some r104 → EE p l e rm_X9_shift s m args below meth c Q Γ 7 0 0 104 [(0, .ref ths), (1, .int p1), (2, .int p2), (3, .int p3), (4, .int p4), (5, .int p5), (6, .int w6_104)] [] Mw_104 := by
                        intro n
                        induction n with
                        | zero => intro _ _ h; exact (itr_0 h).elim
                        | succ n ih =>
                          intro w6_104 Mw_104 h
                          obtain ⟨z104, h, hz104⟩ := itr_i h
                          replace h : lp_X9_shift_104 ths p1 p2 p5 w6_104 Mw_104 = some z104 := h
                          unfold lp_X9_shift_104 at h
                          refine q_iload cx (pc' := 106) 6 rfl dX9_shift_104 rfl ?_
                          refine q_iload cx (pc' := 108) 5 rfl dX9_shift_106 rfl ?_
                          refine q_icmp_ge cx (pc' := 111) (tgt := 138) dX9_shift_108 (by decide) rfl (fun c108 => ?_) (fun c108 => ?_)
                          · replace h := ip c108 h
                            refine q_sub cx [0, 3, 4, 5] rfl ?_
                            exact hk104_0 _ (hz104.2 _ h)
                          · replace h := ine c108 h
                            refine q_aload_n cx (pc' := 112) 0 rfl dX9_shift_111 rfl ?_
                            obtain ⟨ht112, r112, ex112, h⟩ := gR_i h
                            refine q_gR cx (pc' := 115) 9 69 fl_X9_221 rfl ht112 ex112 dX9_shift_112 rfl ?_
                            refine q_iload cx (pc' := 117) 6 rfl dX9_shift_115 rfl ?_
                            refine q_aload_n cx (pc' := 118) 0 rfl dX9_shift_117 rfl ?_
                            obtain ⟨ht118, r118, ex118, h⟩ := gR_i h
                            refine q_gR cx (pc' := 121) 9 68 fl_X9_217 rfl ht118 ex118 dX9_shift_118 rfl ?_
                            refine q_bipush cx (pc' := 123) kb_60 dX9_shift_121 rfl ?_
                            refine q_iload_n cx (pc' := 124) 1 rfl dX9_shift_123 rfl ?_
                            refine q_imul cx (pc' := 125) dX9_shift_124 rfl ?_
                            refine q_iload_n cx (pc' := 126) 2 rfl dX9_shift_125 rfl ?_
                            refine q_iadd cx (pc' := 127) dX9_shift_126 rfl ?_
                            refine q_iload cx (pc' := 129) 6 rfl dX9_shift_127 rfl ?_
                            refine q_iadd cx (pc' := 130) dX9_shift_129 rfl ?_
                            obtain ⟨ht130, hi130, x130, ex130, h⟩ := aJ_i h
                            refine q_lald cx (pc' := 131) ht130 hi130 ex130 dX9_shift_130 rfl ?_
                            obtain ⟨ht131, hi131, M131, eM131, h⟩ := wJ_i h
                            refine q_last cx (pc' := 132) ht131 hi131 eM131 dX9_shift_131 rfl ?_
                            obtain ⟨v6_132, ev6_132, h⟩ := nm_i h
                            refine q_iinc cx (pc' := 135) 6 rfl ki_1 ev6_132 (by decide) (L' := [(6, .int v6_132), (0, .ref ths), (1, .int p1), (2, .int p2), (3, .int p3), (4, .int p4), (5, .int p5)]) rfl dX9_shift_132 rfl ?_
                            refine q_goto cx dX9_shift_135 (tgt := 104) (by decide) ?_
                            refine q_sub cx [1, 2, 3, 4, 5, 6, 0] rfl ?_
                            exact ih _ _ (hz104.1 _ h)
                      refine q_sub cx [1, 2, 3, 4, 5, 6, 0] rfl ?_
                      exact key104 FU _ _ hL104
                    · replace h := ine c95 h
                      refine q_bipush cx (pc' := 100) kb_m13 dX9_shift_98 rfl ?_
                      obtain ⟨rfl, rfl⟩ := o2_i h
                      rw [hQ]
                      exact q_iret cx dX9_shift_100
          · replace h := ine c51 h
            refine q_bipush cx (pc' := 56) kb_m12 dX9_shift_54 rfl ?_
            obtain ⟨rfl, rfl⟩ := o2_i h
            rw [hQ]
            exact q_iret cx dX9_shift_56
        · replace h := ine c33 h
          refine q_bipush cx (pc' := 38) kb_m11 dX9_shift_36 rfl ?_
          obtain ⟨rfl, rfl⟩ := o2_i h
          rw [hQ]
          exact q_iret cx dX9_shift_38
    · replace h := ip c13 h
      refine q_iconst cx (pc' := 17) ki_m1 dX9_shift_16 rfl ?_
      obtain ⟨rfl, rfl⟩ := o2_i h
      rw [hQ]
      exact q_iret cx dX9_shift_17
