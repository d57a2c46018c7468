abbrev rm_X8_init : Room := { frames := 4, cells := 12333, slots := 164057, locals := 122 }
def lp_X8_init_121 (ths : Nat) (w1_121 : Int32) (Mw_121 : QM) : Option ((Int32 × QM) ⊕ (QM)) :=
  if 6 ≤ w1_121 then
    some (.inr Mw_121)
  else
    gR Mw_121 ths 8 6 fun r128 =>
    nO Mw_121 6 fun M132 r132 =>
    ck M132 r132 6 <|
    bnd (fn_X6_init M132 r132) fun M136 =>
    wR M136 25 r128 w1_121 6 r132 fun M139 =>
    nm (w1_121 + 1) fun v1_140 =>
    some (.inl (v1_140, M139))
def fn_X8_init (M : QM) (ths : Nat) : Option QM :=
  nO M 5 fun M5 r5 =>
  ck M5 r5 5 <|
  bnd (fn_X5_init M5 r5) fun M9 =>
  pR M9 ths 8 0 r5 fun M12 =>
  nO M12 5 fun M16 r16 =>
  ck M16 r16 5 <|
  bnd (fn_X5_init M16 r16) fun M20 =>
  pR M20 ths 8 1 r16 fun M23 =>
  nO M23 3 fun M27 r27 =>
  ck M27 r27 3 <|
  bnd (fn_X3_init M27 r27) fun M31 =>
  pR M31 ths 8 4 r27 fun M34 =>
  nO M34 0 fun M38 r38 =>
  ck M38 r38 0 <|
  bnd (fn_X0_init M38 r38) fun M42 =>
  pR M42 ths 8 5 r38 fun M45 =>
  nA M45 25 6 6 fun M51 r51 =>
  pR M51 ths 8 6 r51 fun M54 =>
  nO M54 2 fun M58 r58 =>
  ck M58 r58 2 <|
  bnd (fn_X2_init M58 r58) fun M62 =>
  pR M62 ths 8 7 r58 fun M65 =>
  nO M65 7 fun M69 r69 =>
  ck M69 r69 7 <|
  bnd (fn_X7_init M69 r69) fun M73 =>
  pR M73 ths 8 8 r69 fun M76 =>
  nA M76 21 100 100 fun M82 r82 =>
  pR M82 ths 8 9 r82 fun M84 =>
  gR M84 ths 8 0 fun r88 =>
  nO M84 1 fun M91 r91 =>
  ck M91 r91 1 <|
  bnd (fn_X1_init M91 r91 99 10) fun M99 =>
  pR M99 r88 5 7 r91 fun M102 =>
  gR M102 ths 8 1 fun r106 =>
  gR M102 ths 8 0 fun r110 =>
  gR M102 r110 5 7 fun r113 =>
  pR M102 r106 5 7 r113 fun M116 =>
  bnd (itr (fun s121 : Int32 × QM => lp_X8_init_121 ths s121.1 s121.2) FU (0, M116)) fun Mr_121 =>
  some Mr_121
set_option maxRecDepth 100000 in
set_option maxHeartbeats 4000000 in
theorem ct_X8_init (Γ : GT) (l : Launch) (M : QM) (ths : Nat) (ht0 : mt M ths = 8) (M' : QM) (h : fn_X8_init M ths = some M') : CT Γ l yX8_init cX8_init 2 none rm_X8_init (.ref ths :: []) M none M' := by
  refine ct_intro (own := RX8) (L := [(0, .ref ths)]) (by decide +kernel) rfl (Nat.le_of_ble_eq_true rfl) rfl ?_
  intro p e s m args below meth c Q hQ cx hnm
  unfold fn_X8_init at h
  refine q_aload_n cx (pc' := 1) 0 rfl dX8_init_0 rfl ?_
  refine q_objInit cx (pc' := 4) aw_41 ⟨aw_1, aw_2⟩ ⟨(Nat.le_of_ble_eq_true rfl), (Nat.le_of_ble_eq_true rfl)⟩ (Nat.le_of_ble_eq_true rfl) dX8_init_1 rfl ?_
  refine q_aload_n cx (pc' := 5) 0 rfl dX8_init_4 rfl ?_
  obtain ⟨M5, r5, eM5, er5, h⟩ := nO_i h
  refine q_new cx (pc' := 8) 5 (by decide) (r := (RX5, TX5, 8)) rfl rfl aw_42 aw_43 aw_44 (Nat.le_of_ble_eq_true rfl) (Nat.le_of_ble_eq_true rfl) eM5 dX8_init_5 rfl ?_
  rw [← er5]
  refine q_dup cx (pc' := 9) rfl dX8_init_8 rfl ?_
  obtain ⟨hk9, h⟩ := ck_i h
  obtain ⟨M9, hc9, h⟩ := bnd_i h
  refine q_callI cx (pc' := 12) (S := [.ref r5, .ref ths]) (kc' := 4112) (ks' := 16574) (ct_X5_init Γ l M5 r5 hk9 _ hc9) lki_X5_init lkv_X5_init lkc_X8_11 rfl (Nat.le_of_ble_eq_true rfl) ⟨(Nat.le_of_ble_eq_true rfl), (Nat.le_of_ble_eq_true rfl)⟩ ⟨(Nat.le_of_ble_eq_true rfl), (Nat.le_of_ble_eq_true rfl)⟩ dX8_init_9 rfl rfl rfl ?_
  obtain ⟨ht12, M12, eM12, h⟩ := pR_i h
  refine q_pR cx (pc' := 15) 8 0 fl_X8_12 rfl ht12 (ty := (.object "BearMouse$Scene")) ⟨(RX8, TX8, 10), rfl, by decide +kernel, Or.inr ⟨hnm, rfl, aw_45⟩⟩ rfl rfl eM12 dX8_init_12 rfl ?_
  refine q_aload_n cx (pc' := 16) 0 rfl dX8_init_15 rfl ?_
  obtain ⟨M16, r16, eM16, er16, h⟩ := nO_i h
  refine q_new cx (pc' := 19) 5 (by decide) (r := (RX5, TX5, 8)) rfl rfl aw_42 aw_43 aw_44 (Nat.le_of_ble_eq_true rfl) (Nat.le_of_ble_eq_true rfl) eM16 dX8_init_16 rfl ?_
  rw [← er16]
  refine q_dup cx (pc' := 20) rfl dX8_init_19 rfl ?_
  obtain ⟨hk20, h⟩ := ck_i h
  obtain ⟨M20, hc20, h⟩ := bnd_i h
  refine q_callI cx (pc' := 23) (S := [.ref r16, .ref ths]) (kc' := 8224) (ks' := 33148) (ct_X5_init Γ l M16 r16 hk20 _ hc20) lki_X5_init lkv_X5_init lkc_X8_11 rfl (Nat.le_of_ble_eq_true rfl) ⟨(Nat.le_of_ble_eq_true rfl), (Nat.le_of_ble_eq_true rfl)⟩ ⟨(Nat.le_of_ble_eq_true rfl), (Nat.le_of_ble_eq_true rfl)⟩ dX8_init_20 rfl rfl rfl ?_
  obtain ⟨ht23, M23, eM23, h⟩ := pR_i h
  refine q_pR cx (pc' := 26) 8 1 fl_X8_18 rfl ht23 (ty := (.object "BearMouse$Scene")) ⟨(RX8, TX8, 10), rfl, by decide +kernel, Or.inr ⟨hnm, rfl, aw_46⟩⟩ rfl rfl eM23 dX8_init_23 rfl ?_
  refine q_aload_n cx (pc' := 27) 0 rfl dX8_init_26 rfl ?_
  obtain ⟨M27, r27, eM27, er27, h⟩ := nO_i h
  refine q_new cx (pc' := 30) 3 (by decide) (r := (RX3, TX3, 9)) rfl rfl aw_47 aw_48 aw_49 (Nat.le_of_ble_eq_true rfl) (Nat.le_of_ble_eq_true rfl) eM27 dX8_init_27 rfl ?_
  rw [← er27]
  refine q_dup cx (pc' := 31) rfl dX8_init_30 rfl ?_
  obtain ⟨hk31, h⟩ := ck_i h
  obtain ⟨M31, hc31, h⟩ := bnd_i h
  refine q_callI cx (pc' := 34) (S := [.ref r27, .ref ths]) (kc' := 8227) (ks' := 33273) (ct_X3_init Γ l M27 r27 hk31 _ hc31) lki_X3_init lkv_X3_init lkc_X8_23 rfl (Nat.le_of_ble_eq_true rfl) ⟨(Nat.le_of_ble_eq_true rfl), (Nat.le_of_ble_eq_true rfl)⟩ ⟨(Nat.le_of_ble_eq_true rfl), (Nat.le_of_ble_eq_true rfl)⟩ dX8_init_31 rfl rfl rfl ?_
  obtain ⟨ht34, M34, eM34, h⟩ := pR_i h
  refine q_pR cx (pc' := 37) 8 4 fl_X8_24 rfl ht34 (ty := (.object "BearMouse$Reader")) ⟨(RX8, TX8, 10), rfl, by decide +kernel, Or.inr ⟨hnm, rfl, aw_50⟩⟩ rfl rfl eM34 dX8_init_34 rfl ?_
  refine q_aload_n cx (pc' := 38) 0 rfl dX8_init_37 rfl ?_
  obtain ⟨M38, r38, eM38, er38, h⟩ := nO_i h
  refine q_new cx (pc' := 41) 0 (by decide) (r := (RX0, TX0, 5)) rfl rfl aw_51 aw_52 aw_53 (Nat.le_of_ble_eq_true rfl) (Nat.le_of_ble_eq_true rfl) eM38 dX8_init_38 rfl ?_
  rw [← er38]
  refine q_dup cx (pc' := 42) rfl dX8_init_41 rfl ?_
  obtain ⟨hk42, h⟩ := ck_i h
  obtain ⟨M42, hc42, h⟩ := bnd_i h
  refine q_callI cx (pc' := 45) (S := [.ref r38, .ref ths]) (kc' := 8229) (ks' := 33298) (ct_X0_init Γ l M38 r38 hk42 _ hc42) lki_X0_init lkv_X0_init lkc_X8_30 rfl (Nat.le_of_ble_eq_true rfl) ⟨(Nat.le_of_ble_eq_true rfl), (Nat.le_of_ble_eq_true rfl)⟩ ⟨(Nat.le_of_ble_eq_true rfl), (Nat.le_of_ble_eq_true rfl)⟩ dX8_init_42 rfl rfl rfl ?_
  obtain ⟨ht45, M45, eM45, h⟩ := pR_i h
  refine q_pR cx (pc' := 48) 8 5 fl_X8_31 rfl ht45 (ty := (.object "BearMouse$Acts")) ⟨(RX8, TX8, 10), rfl, by decide +kernel, Or.inr ⟨hnm, rfl, aw_54⟩⟩ rfl rfl eM45 dX8_init_45 rfl ?_
  refine q_aload_n cx (pc' := 49) 0 rfl dX8_init_48 rfl ?_
  refine q_bipush cx (pc' := 51) kb_6 dX8_init_49 rfl ?_
  obtain ⟨hn51, hb51, M51, r51, eM51, er51, h⟩ := nA_i h
  refine q_newT cx (pc' := 54) aw_55 hn51 rfl (by omega) (Nat.le_of_ble_eq_true rfl) (Nat.le_trans (Nat.add_le_add_left hb51 _) (Nat.le_of_ble_eq_true rfl)) eM51 dX8_init_51 rfl ?_
  refine q_widen (k2 := 8230) (s2 := 33304) (Nat.le_refl _) (Nat.add_le_add_left hb51 _) ?_
  rw [← er51]
  obtain ⟨ht54, M54, eM54, h⟩ := pR_i h
  refine q_pR cx (pc' := 57) 8 6 fl_X8_37 rfl ht54 (ty := (.array (.object "BearMouse$Tape"))) ⟨(RX8, TX8, 10), rfl, by decide +kernel, Or.inr ⟨hnm, rfl, aw_56⟩⟩ rfl rfl eM54 dX8_init_54 rfl ?_
  refine q_aload_n cx (pc' := 58) 0 rfl dX8_init_57 rfl ?_
  obtain ⟨M58, r58, eM58, er58, h⟩ := nO_i h
  refine q_new cx (pc' := 61) 2 (by decide) (r := (RX2, TX2, 2)) rfl rfl aw_57 aw_14 aw_15 (Nat.le_of_ble_eq_true rfl) (Nat.le_of_ble_eq_true rfl) eM58 dX8_init_58 rfl ?_
  rw [← er58]
  refine q_dup cx (pc' := 62) rfl dX8_init_61 rfl ?_
  obtain ⟨hk62, h⟩ := ck_i h
  obtain ⟨M62, hc62, h⟩ := bnd_i h
  refine q_callI cx (pc' := 65) (S := [.ref r58, .ref ths]) (kc' := 8232) (ks' := 33322) (ct_X2_init Γ l M58 r58 hk62 _ hc62) lki_X2_init lkv_X2_init lkc_X8_43 rfl (Nat.le_of_ble_eq_true rfl) ⟨(Nat.le_of_ble_eq_true rfl), (Nat.le_of_ble_eq_true rfl)⟩ ⟨(Nat.le_of_ble_eq_true rfl), (Nat.le_of_ble_eq_true rfl)⟩ dX8_init_62 rfl rfl rfl ?_
  obtain ⟨ht65, M65, eM65, h⟩ := pR_i h
  refine q_pR cx (pc' := 68) 8 7 fl_X8_44 rfl ht65 (ty := (.object "BearMouse$Cup")) ⟨(RX8, TX8, 10), rfl, by decide +kernel, Or.inr ⟨hnm, rfl, aw_58⟩⟩ rfl rfl eM65 dX8_init_65 rfl ?_
  refine q_aload_n cx (pc' := 69) 0 rfl dX8_init_68 rfl ?_
  obtain ⟨M69, r69, eM69, er69, h⟩ := nO_i h
  refine q_new cx (pc' := 72) 7 (by decide) (r := (RX7, TX7, 4)) rfl rfl aw_59 aw_26 aw_27 (Nat.le_of_ble_eq_true rfl) (Nat.le_of_ble_eq_true rfl) eM69 dX8_init_69 rfl ?_
  rw [← er69]
  refine q_dup cx (pc' := 73) rfl dX8_init_72 rfl ?_
  obtain ⟨hk73, h⟩ := ck_i h
  obtain ⟨M73, hc73, h⟩ := bnd_i h
  refine q_callI cx (pc' := 76) (S := [.ref r69, .ref ths]) (kc' := 8234) (ks' := 33330) (ct_X7_init Γ l M69 r69 hk73 _ hc73) lki_X7_init lkv_X7_init lkc_X8_50 rfl (Nat.le_of_ble_eq_true rfl) ⟨(Nat.le_of_ble_eq_true rfl), (Nat.le_of_ble_eq_true rfl)⟩ ⟨(Nat.le_of_ble_eq_true rfl), (Nat.le_of_ble_eq_true rfl)⟩ dX8_init_73 rfl rfl rfl ?_
  obtain ⟨ht76, M76, eM76, h⟩ := pR_i h
  refine q_pR cx (pc' := 79) 8 8 fl_X8_51 rfl ht76 (ty := (.object "BearMouse$Walker")) ⟨(RX8, TX8, 10), rfl, by decide +kernel, Or.inr ⟨hnm, rfl, aw_60⟩⟩ rfl rfl eM76 dX8_init_76 rfl ?_
  refine q_aload_n cx (pc' := 80) 0 rfl dX8_init_79 rfl ?_
  refine q_bipush cx (pc' := 82) kb_100 dX8_init_80 rfl ?_
  obtain ⟨hn82, hb82, M82, r82, eM82, er82, h⟩ := nA_i h
  refine q_newZ cx (pc' := 84) aw_61 hn82 rfl (by omega) (Nat.le_of_ble_eq_true rfl) (Nat.le_trans (Nat.add_le_add_left hb82 _) (Nat.le_of_ble_eq_true rfl)) eM82 dX8_init_82 rfl ?_
  refine q_widen (k2 := 8235) (s2 := 33430) (Nat.le_refl _) (Nat.add_le_add_left hb82 _) ?_
  rw [← er82]
  obtain ⟨ht84, M84, eM84, h⟩ := pR_i h
  refine q_pR cx (pc' := 87) 8 9 fl_X8_55 rfl ht84 (ty := (.array .boolean)) ⟨(RX8, TX8, 10), rfl, by decide +kernel, Or.inr ⟨hnm, rfl, aw_62⟩⟩ rfl rfl eM84 dX8_init_84 rfl ?_
  refine q_aload_n cx (pc' := 88) 0 rfl dX8_init_87 rfl ?_
  obtain ⟨ht88, r88, ex88, h⟩ := gR_i h
  refine q_gR cx (pc' := 91) 8 0 fl_X8_12 rfl ht88 ex88 dX8_init_88 rfl ?_
  obtain ⟨M91, r91, eM91, er91, h⟩ := nO_i h
  refine q_new cx (pc' := 94) 1 (by decide) (r := (RX1, TX1, 3)) rfl rfl aw_63 aw_64 aw_65 (Nat.le_of_ble_eq_true rfl) (Nat.le_of_ble_eq_true rfl) eM91 dX8_init_91 rfl ?_
  rw [← er91]
  refine q_dup cx (pc' := 95) rfl dX8_init_94 rfl ?_
  refine q_bipush cx (pc' := 97) kb_99 dX8_init_95 rfl ?_
  refine q_bipush cx (pc' := 99) kb_10 dX8_init_97 rfl ?_
  obtain ⟨hk99, h⟩ := ck_i h
  obtain ⟨M99, hc99, h⟩ := bnd_i h
  refine q_callI cx (pc' := 102) (S := [.ref r91, .ref r88]) (kc' := 8237) (ks' := 35033) (ct_X1_init Γ l M91 r91 99 10 hk99 _ hc99) lki_X1_init lkv_X1_init lkc_X8_61 rfl (Nat.le_of_ble_eq_true rfl) ⟨(Nat.le_of_ble_eq_true rfl), (Nat.le_of_ble_eq_true rfl)⟩ ⟨(Nat.le_of_ble_eq_true rfl), (Nat.le_of_ble_eq_true rfl)⟩ dX8_init_99 rfl rfl rfl ?_
  obtain ⟨ht102, M102, eM102, h⟩ := pR_i h
  refine q_pR cx (pc' := 105) 5 7 fl_X8_64 rfl ht102 (ty := (.object "BearMouse$Brew")) ⟨(RX5, TX5, 8), rfl, by decide +kernel, Or.inl rfl⟩ rfl rfl eM102 dX8_init_102 rfl ?_
  refine q_aload_n cx (pc' := 106) 0 rfl dX8_init_105 rfl ?_
  obtain ⟨ht106, r106, ex106, h⟩ := gR_i h
  refine q_gR cx (pc' := 109) 8 1 fl_X8_18 rfl ht106 ex106 dX8_init_106 rfl ?_
  refine q_aload_n cx (pc' := 110) 0 rfl dX8_init_109 rfl ?_
  obtain ⟨ht110, r110, ex110, h⟩ := gR_i h
  refine q_gR cx (pc' := 113) 8 0 fl_X8_12 rfl ht110 ex110 dX8_init_110 rfl ?_
  obtain ⟨ht113, r113, ex113, h⟩ := gR_i h
  refine q_gR cx (pc' := 116) 5 7 fl_X8_64 rfl ht113 ex113 dX8_init_113 rfl ?_
  obtain ⟨ht116, M116, eM116, h⟩ := pR_i h
  refine q_pR cx (pc' := 119) 5 7 fl_X8_64 rfl ht116 (ty := (.object "BearMouse$Brew")) ⟨(RX5, TX5, 8), rfl, by decide +kernel, Or.inl rfl⟩ rfl rfl eM116 dX8_init_116 rfl ?_
  refine q_iconst cx (pc' := 120) ki_0 dX8_init_119 rfl ?_
  refine q_istore_n cx (pc' := 121) rfl rfl (by decide) (L' := [(1, .int 0), (0, .ref ths)]) rfl dX8_init_120 rfl ?_
  obtain ⟨r121, hL121, h⟩ := bnd_i h
  have hk121_r : ∀ (Mr_121 : QM), Mr_121 = r121 → some Mr_121 = some M' := by
    intro Mr_121 hp
    subst hp
    exact h
  have key121 : ∀ (n kq121 sq121 : Nat) (w1_121 : Int32) (Mw_121 : QM), kq121 + 2 * n ≤ 12333 → sq121 + 63 * n ≤ 164057 → itr (fun s121 : Int32 × QM => lp_X8_init_121 ths s121.1 s121.2) n (w1_121, Mw_121) = some r121 → EE p l e rm_X8_init s m args below meth c Q Γ 2 kq121 sq121 121 [(0, .ref ths), (1, .int w1_121)] [] Mw_121 := by
    intro n
    induction n with
    | zero => intro _ _ _ _ _ _ h; exact (itr_0 h).elim
    | succ n ih =>
      intro kq121 sq121 w1_121 Mw_121 hkq121 hsq121 h
      obtain ⟨z121, h, hz121⟩ := itr_i h
      replace h : lp_X8_init_121 ths w1_121 Mw_121 = some z121 := h
      unfold lp_X8_init_121 at h
      refine q_iload_n cx (pc' := 122) 1 rfl dX8_init_121 rfl ?_
      refine q_bipush cx (pc' := 124) kb_6 dX8_init_122 rfl ?_
      refine q_icmp_ge cx (pc' := 127) (tgt := 146) dX8_init_124 (by decide) rfl (fun c124 => ?_) (fun c124 => ?_)
      · replace h := ip c124 h
        replace h := hk121_r _ (hz121.2 _ h)
        obtain rfl := o1_i h
        refine q_widen (k2 := 12333) (s2 := 164057) (by omega) (by omega) ?_
        rw [hQ]
        exact q_vret cx dX8_init_146
      · replace h := ine c124 h
        refine q_aload_n cx (pc' := 128) 0 rfl dX8_init_127 rfl ?_
        obtain ⟨ht128, r128, ex128, h⟩ := gR_i h
        refine q_gR cx (pc' := 131) 8 6 fl_X8_37 rfl ht128 ex128 dX8_init_128 rfl ?_
        refine q_iload_n cx (pc' := 132) 1 rfl dX8_init_131 rfl ?_
        obtain ⟨M132, r132, eM132, er132, h⟩ := nO_i h
        refine q_new cx (pc' := 135) 6 (by decide) (r := (RX6, TX6, 3)) rfl rfl aw_66 aw_67 aw_68 (by show kq121 + 1 ≤ 12333; omega) (by show sq121 + 3 ≤ 164057; omega) eM132 dX8_init_132 rfl ?_
        rw [← er132]
        refine q_dup cx (pc' := 136) rfl dX8_init_135 rfl ?_
        obtain ⟨hk136, h⟩ := ck_i h
        obtain ⟨M136, hc136, h⟩ := bnd_i h
        refine q_callI cx (pc' := 139) (S := [.ref r132, .int w1_121, .ref r128]) (kc' := kq121 + 1 + 1) (ks' := sq121 + 3 + 60) (ct_X6_init Γ l M132 r132 hk136 _ hc136) lki_X6_init lkv_X6_init lkc_X8_68 rfl (Nat.le_of_ble_eq_true rfl) ⟨(Nat.le_of_ble_eq_true rfl), (Nat.le_of_ble_eq_true rfl)⟩ ⟨(by show kq121 + 1 + 1 ≤ 12333; omega), (by show sq121 + 3 + 60 ≤ 164057; omega)⟩ dX8_init_136 rfl rfl rfl ?_
        obtain ⟨ht139, hi139, hb139, M139, eM139, h⟩ := wR_i h
        refine q_aast5 cx (pc' := 140) ht139 hi139 hb139 eM139 dX8_init_139 rfl ?_
        obtain ⟨v1_140, ev1_140, h⟩ := nm_i h
        refine q_iinc cx (pc' := 143) 1 rfl ki_1 ev1_140 (by decide) (L' := [(1, .int v1_140), (0, .ref ths)]) rfl dX8_init_140 rfl ?_
        refine q_goto cx dX8_init_143 (tgt := 121) (by decide) ?_
        refine q_sub cx [1, 0] rfl ?_
        exact ih _ _ _ _ (by omega) (by omega) (hz121.1 _ h)
  refine q_sub cx [1, 0] rfl ?_
  exact key121 FU _ _ _ _ (by show _ + _ * 2048 ≤ _; omega) (by show _ + _ * 2048 ≤ _; omega) hL121

abbrev rm_X8_walker : Room := { frames := 2, cells := 0, slots := 0, locals := 64 }
def fn_X8_walker (M : QM) (ths : Nat) (p1 : Int32) (p2 : Int32) (p3 : Int32) : Option (Int32 × QM) :=
  if (fn_X8_isBelow p1 7) = 0 then
    some ((-1), M)
  else
    if (fn_X8_isBelow p2 10) = 0 then
      some ((-2), M)
    else
      if (fn_X8_isBelow p3 100) = 0 then
        some ((-2), M)
      else
        gR M ths 8 0 fun r33 =>
        gI M r33 5 2 fun x36 =>
        if x36 < 5 then
          gR M ths 8 0 fun r47 =>
          gR M r47 5 1 fun r50 =>
          gR M ths 8 0 fun r54 =>
          gI M r54 5 2 fun x57 =>
          aR M 26 r50 x57 fun r60 =>
          ck M r60 7 <|
          bnd (fn_X7_become M r60 p1 p2 p3) fun M64 =>
          gR M64 ths 8 0 fun r68 =>
          gI M64 r68 5 2 fun x72 =>
          pI M64 r68 5 2 (x72 + 1) fun M77 =>
          gR M77 ths 8 0 fun r81 =>
          gI M77 r81 5 2 fun x84 =>
          some ((x84 - 1), M77)
        else
          some ((-4), M)
set_option maxRecDepth 100000 in
set_option maxHeartbeats 4000000 in
theorem ct_X8_walker (Γ : GT) (l : Launch) (M : QM) (ths : Nat) (p1 : Int32) (p2 : Int32) (p3 : Int32) (ht0 : mt M ths = 8) (z : Int32) (M' : QM) (h : fn_X8_walker M ths p1 p2 p3 = some (z, M')) : CT Γ l yX8_walker cX8_walker 4 (some .int) rm_X8_walker (.ref ths :: [.int p1, .int p2, .int p3]) M (some (.int z)) M' := by
  refine ct_intro (own := RX8) (L := [(0, .ref ths), (1, .int p1), (2, .int p2), (3, .int p3)]) (by decide +kernel) rfl (Nat.le_of_ble_eq_true rfl) rfl ?_
  intro p e s m args below meth c Q hQ cx hnm
  unfold fn_X8_walker at h
  refine q_iload_n cx (pc' := 1) 1 rfl dX8_walker_0 rfl ?_
  refine q_bipush cx (pc' := 3) kb_7 dX8_walker_1 rfl ?_
  refine q_callS cx (pc' := 6) (S := []) (S1 := [.int (fn_X8_isBelow p1 7)]) (kc' := 0) (ks' := 0) (ct_X8_isBelow Γ l M p1 7) lki_X8_isBelow lkv_X8_isBelow lkc_X8_69 rfl rfl (Nat.le_of_ble_eq_true rfl) ⟨(Nat.le_of_ble_eq_true rfl), (Nat.le_of_ble_eq_true rfl)⟩ ⟨(Nat.le_of_ble_eq_true rfl), (Nat.le_of_ble_eq_true rfl)⟩ dX8_walker_3 rfl rfl rfl ?_
  refine q_if_ne cx (pc' := 9) (tgt := 11) dX8_walker_6 (by decide) rfl (fun c6 => ?_) (fun c6 => ?_)
  · replace h := ine c6 h
    refine q_iload_n cx (pc' := 12) 2 rfl dX8_walker_11 rfl ?_
    refine q_bipush cx (pc' := 14) kb_10 dX8_walker_12 rfl ?_
    refine q_callS cx (pc' := 17) (S := []) (S1 := [.int (fn_X8_isBelow p2 10)]) (kc' := 0) (ks' := 0) (ct_X8_isBelow Γ l M p2 10) lki_X8_isBelow lkv_X8_isBelow lkc_X8_69 rfl rfl (Nat.le_of_ble_eq_true rfl) ⟨(Nat.le_of_ble_eq_true rfl), (Nat.le_of_ble_eq_true rfl)⟩ ⟨(Nat.le_of_ble_eq_true rfl), (Nat.le_of_ble_eq_true rfl)⟩ dX8_walker_14 rfl rfl rfl ?_
    refine q_if_eq cx (pc' := 20) (tgt := 29) dX8_walker_17 (by decide) rfl (fun c17 => ?_) (fun c17 => ?_)
    · replace h := ip c17 h
      refine q_bipush cx (pc' := 31) kb_m2 dX8_walker_29 rfl ?_
      obtain ⟨rfl, rfl⟩ := o2_i h
      rw [hQ]
      exact q_iret cx dX8_walker_31
    · replace h := ine c17 h
      refine q_iload_n cx (pc' := 21) 3 rfl dX8_walker_20 rfl ?_
      refine q_bipush cx (pc' := 23) kb_100 dX8_walker_21 rfl ?_
      refine q_callS cx (pc' := 26) (S := []) (S1 := [.int (fn_X8_isBelow p3 100)]) (kc' := 0) (ks' := 0) (ct_X8_isBelow Γ l M p3 100) lki_X8_isBelow lkv_X8_isBelow lkc_X8_69 rfl rfl (Nat.le_of_ble_eq_true rfl) ⟨(Nat.le_of_ble_eq_true rfl), (Nat.le_of_ble_eq_true rfl)⟩ ⟨(Nat.le_of_ble_eq_true rfl), (Nat.le_of_ble_eq_true rfl)⟩ dX8_walker_23 rfl rfl rfl ?_
      refine q_if_ne cx (pc' := 29) (tgt := 32) dX8_walker_26 (by decide) rfl (fun c26 => ?_) (fun c26 => ?_)
      · replace h := ine c26 h
        refine q_aload_n cx (pc' := 33) 0 rfl dX8_walker_32 rfl ?_
        obtain ⟨ht33, r33, ex33, h⟩ := gR_i h
        refine q_gR cx (pc' := 36) 8 0 fl_X8_12 rfl ht33 ex33 dX8_walker_33 rfl ?_
        obtain ⟨ht36, x36, ex36, h⟩ := gI_i h
        refine q_gI cx (pc' := 39) 5 2 fl_X8_73 rfl ht36 ex36 dX8_walker_36 rfl ?_
        refine q_iconst cx (pc' := 40) ki_5 dX8_walker_39 rfl ?_
        refine q_icmp_lt cx (pc' := 43) (tgt := 46) dX8_walker_40 (by decide) rfl (fun c40 => ?_) (fun c40 => ?_)
        · replace h := ip c40 h
          refine q_aload_n cx (pc' := 47) 0 rfl dX8_walker_46 rfl ?_
          obtain ⟨ht47, r47, ex47, h⟩ := gR_i h
          refine q_gR cx (pc' := 50) 8 0 fl_X8_12 rfl ht47 ex47 dX8_walker_47 rfl ?_
          obtain ⟨ht50, r50, ex50, h⟩ := gR_i h
          refine q_gR cx (pc' := 53) 5 1 fl_X8_77 rfl ht50 ex50 dX8_walker_50 rfl ?_
          refine q_aload_n cx (pc' := 54) 0 rfl dX8_walker_53 rfl ?_
          obtain ⟨ht54, r54, ex54, h⟩ := gR_i h
          refine q_gR cx (pc' := 57) 8 0 fl_X8_12 rfl ht54 ex54 dX8_walker_54 rfl ?_
          obtain ⟨ht57, x57, ex57, h⟩ := gI_i h
          refine q_gI cx (pc' := 60) 5 2 fl_X8_73 rfl ht57 ex57 dX8_walker_57 rfl ?_
          obtain ⟨ht60, hi60, r60, ex60, h⟩ := aR_i h
          refine q_aald6 cx (pc' := 61) ht60 hi60 ex60 dX8_walker_60 rfl ?_
          refine q_iload_n cx (pc' := 62) 1 rfl dX8_walker_61 rfl ?_
          refine q_iload_n cx (pc' := 63) 2 rfl dX8_walker_62 rfl ?_
          refine q_iload_n cx (pc' := 64) 3 rfl dX8_walker_63 rfl ?_
          obtain ⟨hk64, h⟩ := ck_i h
          obtain ⟨M64, hc64, h⟩ := bnd_i h
          refine q_callV cx (pc' := 67) (S := []) (S1 := []) (kc' := 0) (ks' := 0) 7 (ct_X7_become Γ l M r60 p1 p2 p3 hk64 _ hc64) lki_X7_become lkv_X7_become lkc_X8_81 hk64 (r := (RX7, TX7, 4)) ⟨rfl, by decide, rfl⟩ rfl rfl (Nat.le_of_ble_eq_true rfl) ⟨(Nat.le_of_ble_eq_true rfl), (Nat.le_of_ble_eq_true rfl)⟩ ⟨(Nat.le_of_ble_eq_true rfl), (Nat.le_of_ble_eq_true rfl)⟩ dX8_walker_64 rfl rfl rfl ?_
          refine q_aload_n cx (pc' := 68) 0 rfl dX8_walker_67 rfl ?_
          obtain ⟨ht68, r68, ex68, h⟩ := gR_i h
          refine q_gR cx (pc' := 71) 8 0 fl_X8_12 rfl ht68 ex68 dX8_walker_68 rfl ?_
          refine q_dup cx (pc' := 72) rfl dX8_walker_71 rfl ?_
          obtain ⟨ht72, x72, ex72, h⟩ := gI_i h
          refine q_gI cx (pc' := 75) 5 2 fl_X8_73 rfl ht72 ex72 dX8_walker_72 rfl ?_
          refine q_iconst cx (pc' := 76) ki_1 dX8_walker_75 rfl ?_
          refine q_iadd cx (pc' := 77) dX8_walker_76 rfl ?_
          obtain ⟨ht77, M77, eM77, h⟩ := pI_i h
          refine q_pI cx (pc' := 80) 5 2 fl_X8_73 rfl ht77 (ty := .int) ⟨(RX5, TX5, 8), rfl, by decide +kernel, Or.inl rfl⟩ rfl rfl eM77 dX8_walker_77 rfl ?_
          refine q_aload_n cx (pc' := 81) 0 rfl dX8_walker_80 rfl ?_
          obtain ⟨ht81, r81, ex81, h⟩ := gR_i h
          refine q_gR cx (pc' := 84) 8 0 fl_X8_12 rfl ht81 ex81 dX8_walker_81 rfl ?_
          obtain ⟨ht84, x84, ex84, h⟩ := gI_i h
          refine q_gI cx (pc' := 87) 5 2 fl_X8_73 rfl ht84 ex84 dX8_walker_84 rfl ?_
          refine q_iconst cx (pc' := 88) ki_1 dX8_walker_87 rfl ?_
          refine q_isub cx (pc' := 89) dX8_walker_88 rfl ?_
          obtain ⟨rfl, rfl⟩ := o2_i h
          rw [hQ]
          exact q_iret cx dX8_walker_89
        · replace h := ine c40 h
          refine q_bipush cx (pc' := 45) kb_m4 dX8_walker_43 rfl ?_
          obtain ⟨rfl, rfl⟩ := o2_i h
          rw [hQ]
          exact q_iret cx dX8_walker_45
      · replace h := ip c26 h
        refine q_bipush cx (pc' := 31) kb_m2 dX8_walker_29 rfl ?_
        obtain ⟨rfl, rfl⟩ := o2_i h
        rw [hQ]
        exact q_iret cx dX8_walker_31
  · replace h := ip c6 h
    refine q_iconst cx (pc' := 10) ki_m1 dX8_walker_9 rfl ?_
    obtain ⟨rfl, rfl⟩ := o2_i h
    rw [hQ]
    exact q_iret cx dX8_walker_10

abbrev rm_X8_of : Room := { frames := 5, cells := 0, slots := 0, locals := 149 }
def fn_X8_of (M : QM) (ths : Nat) (p1 : Int32) (p2 : Int32) : Option Int32 :=
  gR M ths 8 0 fun r1 =>
  ck M r1 5 <|
  bnd (fn_X5_walkerAt M r1 p1) fun c5 =>
  cnul c5 (
    some (-1)) fun r10 =>
  if p2 = 0 then
    gI M r10 7 0 fun x20 =>
    some x20
  else
    if p2 = 1 then
      gI M r10 7 1 fun x30 =>
      some x30
    else
      if p2 = 2 then
        gI M r10 7 2 fun x40 =>
        some x40
      else
        if p2 = 3 then
          gR M ths 8 0 fun r51 =>
          gR M r51 5 0 fun r54 =>
          gR M ths 8 0 fun r58 =>
          gR M r58 5 7 fun r61 =>
          gI M r61 1 1 fun x64 =>
          ck M r10 7 <|
          bnd (fn_X7_crossing M r10 r54 x64) fun c67 =>
          some c67
        else
          if p2 < 10 then
            some (-1)
          else
            if 26 ≤ p2 then
              some (-1)
            else
              ck M r10 7 <|
              bnd (fn_X7_needs M r10 (fn_X8_rowOf (p2 - 10))) fun c91 =>
              some c91
set_option maxRecDepth 100000 in
set_option maxHeartbeats 4000000 in
theorem ct_X8_of (Γ : GT) (l : Launch) (M : QM) (ths : Nat) (p1 : Int32) (p2 : Int32) (ht0 : mt M ths = 8) (z : Int32) (h : fn_X8_of M ths p1 p2 = some z) : CT Γ l yX8_of cX8_of 4 (some .int) rm_X8_of (.ref ths :: [.int p1, .int p2]) M (some (.int z)) M := by
  refine ct_intro (own := RX8) (L := [(0, .ref ths), (1, .int p1), (2, .int p2)]) (by decide +kernel) rfl (Nat.le_of_ble_eq_true rfl) rfl ?_
  intro p e s m args below meth c Q hQ cx hnm
  unfold fn_X8_of at h
  refine q_aload_n cx (pc' := 1) 0 rfl dX8_of_0 rfl ?_
  obtain ⟨ht1, r1, ex1, h⟩ := gR_i h
  refine q_gR cx (pc' := 4) 8 0 fl_X8_12 rfl ht1 ex1 dX8_of_1 rfl ?_
  refine q_iload_n cx (pc' := 5) 1 rfl dX8_of_4 rfl ?_
  obtain ⟨hk5, h⟩ := ck_i h
  obtain ⟨c5, hc5, h⟩ := bnd_i h
  refine q_callV cx (pc' := 8) (S := []) (S1 := [va_rf c5]) (kc' := 0) (ks' := 0) 5 (ct_X5_walkerAt Γ l M r1 p1 hk5 _ hc5) lki_X5_walkerAt lkv_X5_walkerAt lkc_X8_85 hk5 (r := (RX5, TX5, 8)) ⟨rfl, by decide, rfl⟩ rfl rfl (Nat.le_of_ble_eq_true rfl) ⟨(Nat.le_of_ble_eq_true rfl), (Nat.le_of_ble_eq_true rfl)⟩ ⟨(Nat.le_of_ble_eq_true rfl), (Nat.le_of_ble_eq_true rfl)⟩ dX8_of_5 rfl rfl rfl ?_
  refine q_astore_nO cx (pc' := 9) rfl rfl (by decide) (L' := [(3, va_rf c5), (0, .ref ths), (1, .int p1), (2, .int p2)]) rfl dX8_of_8 rfl ?_
  refine q_aload_nO cx (pc' := 10) 0 rfl dX8_of_9 rfl ?_
  rcases c5 with _ | r10
  · replace h := cnul_n h
    refine q_ifnonnull_null cx (pc' := 13) dX8_of_10 rfl ?_
    refine q_iconst cx (pc' := 14) ki_m1 dX8_of_13 rfl ?_
    obtain rfl := o1_i h
    rw [hQ]
    exact q_iret cx dX8_of_14
  · replace h := cnul_s h
    refine q_ifnonnull_ref cx dX8_of_10 (tgt := 15) (by decide) ?_
    refine q_iload_n cx (pc' := 16) 3 rfl dX8_of_15 rfl ?_
    refine q_if_ne cx (pc' := 19) (tgt := 24) dX8_of_16 (by decide) rfl (fun c16 => ?_) (fun c16 => ?_)
    · replace h := ine c16 h
      refine q_iload_n cx (pc' := 25) 3 rfl dX8_of_24 rfl ?_
      refine q_iconst cx (pc' := 26) ki_1 dX8_of_25 rfl ?_
      refine q_icmp_ne cx (pc' := 29) (tgt := 34) dX8_of_26 (by decide) rfl (fun c26 => ?_) (fun c26 => ?_)
      · replace h := ine c26 h
        refine q_iload_n cx (pc' := 35) 3 rfl dX8_of_34 rfl ?_
        refine q_iconst cx (pc' := 36) ki_2 dX8_of_35 rfl ?_
        refine q_icmp_ne cx (pc' := 39) (tgt := 44) dX8_of_36 (by decide) rfl (fun c36 => ?_) (fun c36 => ?_)
        · replace h := ine c36 h
          refine q_iload_n cx (pc' := 45) 3 rfl dX8_of_44 rfl ?_
          refine q_iconst cx (pc' := 46) ki_3 dX8_of_45 rfl ?_
          refine q_icmp_ne cx (pc' := 49) (tgt := 71) dX8_of_46 (by decide) rfl (fun c46 => ?_) (fun c46 => ?_)
          · replace h := ine c46 h
            refine q_iload_n cx (pc' := 72) 3 rfl dX8_of_71 rfl ?_
            refine q_bipush cx (pc' := 74) kb_10 dX8_of_72 rfl ?_
            refine q_icmp_lt cx (pc' := 77) (tgt := 95) dX8_of_74 (by decide) rfl (fun c74 => ?_) (fun c74 => ?_)
            · replace h := ip c74 h
              refine q_iconst cx (pc' := 96) ki_m1 dX8_of_95 rfl ?_
              obtain rfl := o1_i h
              rw [hQ]
              exact q_iret cx dX8_of_96
            · replace h := ine c74 h
              refine q_iload_n cx (pc' := 78) 3 rfl dX8_of_77 rfl ?_
              refine q_bipush cx (pc' := 80) kb_26 dX8_of_78 rfl ?_
              refine q_icmp_ge cx (pc' := 83) (tgt := 95) dX8_of_80 (by decide) rfl (fun c80 => ?_) (fun c80 => ?_)
              · replace h := ip c80 h
                refine q_iconst cx (pc' := 96) ki_m1 dX8_of_95 rfl ?_
                obtain rfl := o1_i h
                rw [hQ]
                exact q_iret cx dX8_of_96
              · replace h := ine c80 h
                refine q_aload_n cx (pc' := 84) 0 rfl dX8_of_83 rfl ?_
                refine q_iload_n cx (pc' := 85) 3 rfl dX8_of_84 rfl ?_
                refine q_bipush cx (pc' := 87) kb_10 dX8_of_85 rfl ?_
                refine q_isub cx (pc' := 88) dX8_of_87 rfl ?_
                refine q_callS cx (pc' := 91) (S := [.ref r10]) (S1 := [.int (fn_X8_rowOf (p2 - 10)), .ref r10]) (kc' := 0) (ks' := 0) (ct_X8_rowOf Γ l M (p2 - 10)) lki_X8_rowOf lkv_X8_rowOf lkc_X8_108 rfl rfl (Nat.le_of_ble_eq_true rfl) ⟨(Nat.le_of_ble_eq_true rfl), (Nat.le_of_ble_eq_true rfl)⟩ ⟨(Nat.le_of_ble_eq_true rfl), (Nat.le_of_ble_eq_true rfl)⟩ dX8_of_88 rfl rfl rfl ?_
                obtain ⟨hk91, h⟩ := ck_i h
                obtain ⟨c91, hc91, h⟩ := bnd_i h
                refine q_callV cx (pc' := 94) (S := []) (S1 := [.int c91]) (kc' := 0) (ks' := 0) 7 (ct_X7_needs Γ l M r10 (fn_X8_rowOf (p2 - 10)) hk91 _ hc91) lki_X7_needs lkv_X7_needs lkc_X8_112 hk91 (r := (RX7, TX7, 4)) ⟨rfl, by decide, rfl⟩ rfl rfl (Nat.le_of_ble_eq_true rfl) ⟨(Nat.le_of_ble_eq_true rfl), (Nat.le_of_ble_eq_true rfl)⟩ ⟨(Nat.le_of_ble_eq_true rfl), (Nat.le_of_ble_eq_true rfl)⟩ dX8_of_91 rfl rfl rfl ?_
                obtain rfl := o1_i h
                rw [hQ]
                exact q_iret cx dX8_of_94
          · replace h := ip c46 h
            refine q_aload_n cx (pc' := 50) 0 rfl dX8_of_49 rfl ?_
            refine q_aload_n cx (pc' := 51) 1 rfl dX8_of_50 rfl ?_
            obtain ⟨ht51, r51, ex51, h⟩ := gR_i h
            refine q_gR cx (pc' := 54) 8 0 fl_X8_12 rfl ht51 ex51 dX8_of_51 rfl ?_
            obtain ⟨ht54, r54, ex54, h⟩ := gR_i h
            refine q_gR cx (pc' := 57) 5 0 fl_X8_98 rfl ht54 ex54 dX8_of_54 rfl ?_
            refine q_aload_n cx (pc' := 58) 1 rfl dX8_of_57 rfl ?_
            obtain ⟨ht58, r58, ex58, h⟩ := gR_i h
            refine q_gR cx (pc' := 61) 8 0 fl_X8_12 rfl ht58 ex58 dX8_of_58 rfl ?_
            obtain ⟨ht61, r61, ex61, h⟩ := gR_i h
            refine q_gR cx (pc' := 64) 5 7 fl_X8_64 rfl ht61 ex61 dX8_of_61 rfl ?_
            obtain ⟨ht64, x64, ex64, h⟩ := gI_i h
            refine q_gI cx (pc' := 67) 1 1 fl_X8_101 rfl ht64 ex64 dX8_of_64 rfl ?_
            obtain ⟨hk67, h⟩ := ck_i h
            obtain ⟨c67, hc67, h⟩ := bnd_i h
            refine q_callV cx (pc' := 70) (S := []) (S1 := [.int c67]) (kc' := 0) (ks' := 0) 7 (ct_X7_crossing Γ l M r10 r54 x64 hk67 _ hc67) lki_X7_crossing lkv_X7_crossing lkc_X8_104 hk67 (r := (RX7, TX7, 4)) ⟨rfl, by decide, rfl⟩ rfl rfl (Nat.le_of_ble_eq_true rfl) ⟨(Nat.le_of_ble_eq_true rfl), (Nat.le_of_ble_eq_true rfl)⟩ ⟨(Nat.le_of_ble_eq_true rfl), (Nat.le_of_ble_eq_true rfl)⟩ dX8_of_67 rfl rfl rfl ?_
            obtain rfl := o1_i h
            rw [hQ]
            exact q_iret cx dX8_of_70
        · replace h := ip c36 h
          refine q_aload_n cx (pc' := 40) 0 rfl dX8_of_39 rfl ?_
          obtain ⟨ht40, x40, ex40, h⟩ := gI_i h
          refine q_gI cx (pc' := 43) 7 2 fl_X8_95 rfl ht40 ex40 dX8_of_40 rfl ?_
          obtain rfl := o1_i h
          rw [hQ]
          exact q_iret cx dX8_of_43
      · replace h := ip c26 h
        refine q_aload_n cx (pc' := 30) 0 rfl dX8_of_29 rfl ?_
        obtain ⟨ht30, x30, ex30, h⟩ := gI_i h
        refine q_gI cx (pc' := 33) 7 1 fl_X8_92 rfl ht30 ex30 dX8_of_30 rfl ?_
        obtain rfl := o1_i h
        rw [hQ]
        exact q_iret cx dX8_of_33
    · replace h := ip c16 h
      refine q_aload_n cx (pc' := 20) 0 rfl dX8_of_19 rfl ?_
      obtain ⟨ht20, x20, ex20, h⟩ := gI_i h
      refine q_gI cx (pc' := 23) 7 0 fl_X8_89 rfl ht20 ex20 dX8_of_20 rfl ?_
      obtain rfl := o1_i h
      rw [hQ]
      exact q_iret cx dX8_of_23

abbrev rm_X8_at : Room := { frames := 5, cells := 0, slots := 0, locals := 150 }
def fn_X8_at (M : QM) (ths : Nat) (p1 : Int32) (p2 : Int32) : Option Int32 :=
  if (fn_X8_isBelow p1 16) = 0 then
    some (-1001)
  else
    if p2 = 0 then
      gR M ths 8 0 fun r20 =>
      gR M r20 5 0 fun r23 =>
      gR M r23 2 0 fun r26 =>
      aI M 20 r26 p1 fun x30 =>
      some x30
    else
      if p2 = 1 then
        gR M ths 8 0 fun r38 =>
        gR M r38 5 7 fun r41 =>
        gR M ths 8 0 fun r46 =>
        gR M r46 5 0 fun r49 =>
        gR M r49 2 0 fun r52 =>
        aI M 20 r52 p1 fun x56 =>
        gR M ths 8 0 fun r58 =>
        gR M r58 5 0 fun r61 =>
        gI M r61 2 1 fun x64 =>
        ck M r41 1 <|
        bnd (fn_X1_growthOf M r41 p1 x56 x64) fun c67 =>
        some c67
      else
        if p2 = 2 then
          gR M ths 8 0 fun r77 =>
          ck M r77 5 <|
          bnd (fn_X5_borneOnAll M r77 (1 <<< (p1 &&& 31))) fun c83 =>
          some c83
        else
          some (-1001)
set_option maxRecDepth 100000 in
set_option maxHeartbeats 4000000 in
theorem ct_X8_at (Γ : GT) (l : Launch) (M : QM) (ths : Nat) (p1 : Int32) (p2 : Int32) (ht0 : mt M ths = 8) (z : Int32) (h : fn_X8_at M ths p1 p2 = some z) : CT Γ l yX8_at cX8_at 4 (some .int) rm_X8_at (.ref ths :: [.int p1, .int p2]) M (some (.int z)) M := by
  refine ct_intro (own := RX8) (L := [(0, .ref ths), (1, .int p1), (2, .int p2)]) (by decide +kernel) rfl (Nat.le_of_ble_eq_true rfl) rfl ?_
  intro p e s m args below meth c Q hQ cx hnm
  unfold fn_X8_at at h
  refine q_sipush cx (pc' := 3) ks_m1001 dX8_at_0 rfl ?_
  refine q_istore_n cx (pc' := 4) rfl rfl (by decide) (L' := [(3, .int (-1001)), (0, .ref ths), (1, .int p1), (2, .int p2)]) rfl dX8_at_3 rfl ?_
  refine q_iload_n cx (pc' := 5) 2 rfl dX8_at_4 rfl ?_
  refine q_bipush cx (pc' := 7) kb_16 dX8_at_5 rfl ?_
  refine q_callS cx (pc' := 10) (S := []) (S1 := [.int (fn_X8_isBelow p1 16)]) (kc' := 0) (ks' := 0) (ct_X8_isBelow Γ l M p1 16) lki_X8_isBelow lkv_X8_isBelow lkc_X8_69 rfl rfl (Nat.le_of_ble_eq_true rfl) ⟨(Nat.le_of_ble_eq_true rfl), (Nat.le_of_ble_eq_true rfl)⟩ ⟨(Nat.le_of_ble_eq_true rfl), (Nat.le_of_ble_eq_true rfl)⟩ dX8_at_7 rfl rfl rfl ?_
  refine q_if_ne cx (pc' := 13) (tgt := 15) dX8_at_10 (by decide) rfl (fun c10 => ?_) (fun c10 => ?_)
  · replace h := ine c10 h
    refine q_iload_n cx (pc' := 16) 3 rfl dX8_at_15 rfl ?_
    refine q_if_ne cx (pc' := 19) (tgt := 32) dX8_at_16 (by decide) rfl (fun c16 => ?_) (fun c16 => ?_)
    · replace h := ine c16 h
      refine q_iload_n cx (pc' := 33) 3 rfl dX8_at_32 rfl ?_
      refine q_iconst cx (pc' := 34) ki_1 dX8_at_33 rfl ?_
      refine q_icmp_ne cx (pc' := 37) (tgt := 71) dX8_at_34 (by decide) rfl (fun c34 => ?_) (fun c34 => ?_)
      · replace h := ine c34 h
        refine q_iload_n cx (pc' := 72) 3 rfl dX8_at_71 rfl ?_
        refine q_iconst cx (pc' := 73) ki_2 dX8_at_72 rfl ?_
        refine q_icmp_ne cx (pc' := 76) (tgt := 87) dX8_at_73 (by decide) rfl (fun c73 => ?_) (fun c73 => ?_)
        · replace h := ine c73 h
          refine q_iload_n cx (pc' := 88) 0 rfl dX8_at_87 rfl ?_
          obtain rfl := o1_i h
          rw [hQ]
          exact q_iret cx dX8_at_88
        · replace h := ip c73 h
          refine q_aload_n cx (pc' := 77) 1 rfl dX8_at_76 rfl ?_
          obtain ⟨ht77, r77, ex77, h⟩ := gR_i h
          refine q_gR cx (pc' := 80) 8 0 fl_X8_12 rfl ht77 ex77 dX8_at_77 rfl ?_
          refine q_iconst cx (pc' := 81) ki_1 dX8_at_80 rfl ?_
          refine q_iload_n cx (pc' := 82) 2 rfl dX8_at_81 rfl ?_
          refine q_ishl cx (pc' := 83) dX8_at_82 rfl ?_
          obtain ⟨hk83, h⟩ := ck_i h
          obtain ⟨c83, hc83, h⟩ := bnd_i h
          refine q_callV cx (pc' := 86) (S := []) (S1 := [.int c83]) (kc' := 0) (ks' := 0) 5 (ct_X5_borneOnAll Γ l M r77 (1 <<< (p1 &&& 31)) hk83 _ hc83) lki_X5_borneOnAll lkv_X5_borneOnAll lkc_X8_126 hk83 (r := (RX5, TX5, 8)) ⟨rfl, by decide, rfl⟩ rfl rfl (Nat.le_of_ble_eq_true rfl) ⟨(Nat.le_of_ble_eq_true rfl), (Nat.le_of_ble_eq_true rfl)⟩ ⟨(Nat.le_of_ble_eq_true rfl), (Nat.le_of_ble_eq_true rfl)⟩ dX8_at_83 rfl rfl rfl ?_
          obtain rfl := o1_i h
          rw [hQ]
          exact q_iret cx dX8_at_86
      · replace h := ip c34 h
        refine q_aload_n cx (pc' := 38) 1 rfl dX8_at_37 rfl ?_
        obtain ⟨ht38, r38, ex38, h⟩ := gR_i h
        refine q_gR cx (pc' := 41) 8 0 fl_X8_12 rfl ht38 ex38 dX8_at_38 rfl ?_
        obtain ⟨ht41, r41, ex41, h⟩ := gR_i h
        refine q_gR cx (pc' := 44) 5 7 fl_X8_64 rfl ht41 ex41 dX8_at_41 rfl ?_
        refine q_iload_n cx (pc' := 45) 2 rfl dX8_at_44 rfl ?_
        refine q_aload_n cx (pc' := 46) 1 rfl dX8_at_45 rfl ?_
        obtain ⟨ht46, r46, ex46, h⟩ := gR_i h
        refine q_gR cx (pc' := 49) 8 0 fl_X8_12 rfl ht46 ex46 dX8_at_46 rfl ?_
        obtain ⟨ht49, r49, ex49, h⟩ := gR_i h
        refine q_gR cx (pc' := 52) 5 0 fl_X8_98 rfl ht49 ex49 dX8_at_49 rfl ?_
        obtain ⟨ht52, r52, ex52, h⟩ := gR_i h
        refine q_gR cx (pc' := 55) 2 0 fl_X8_115 rfl ht52 ex52 dX8_at_52 rfl ?_
        refine q_iload_n cx (pc' := 56) 2 rfl dX8_at_55 rfl ?_
        obtain ⟨ht56, hi56, x56, ex56, h⟩ := aI_i h
        refine q_iald cx (pc' := 57) ht56 hi56 ex56 dX8_at_56 rfl ?_
        refine q_aload_n cx (pc' := 58) 1 rfl dX8_at_57 rfl ?_
        obtain ⟨ht58, r58, ex58, h⟩ := gR_i h
        refine q_gR cx (pc' := 61) 8 0 fl_X8_12 rfl ht58 ex58 dX8_at_58 rfl ?_
        obtain ⟨ht61, r61, ex61, h⟩ := gR_i h
        refine q_gR cx (pc' := 64) 5 0 fl_X8_98 rfl ht61 ex61 dX8_at_61 rfl ?_
        obtain ⟨ht64, x64, ex64, h⟩ := gI_i h
        refine q_gI cx (pc' := 67) 2 1 fl_X8_119 rfl ht64 ex64 dX8_at_64 rfl ?_
        obtain ⟨hk67, h⟩ := ck_i h
        obtain ⟨c67, hc67, h⟩ := bnd_i h
        refine q_callV cx (pc' := 70) (S := []) (S1 := [.int c67]) (kc' := 0) (ks' := 0) 1 (ct_X1_growthOf Γ l M r41 p1 x56 x64 hk67 _ hc67) lki_X1_growthOf lkv_X1_growthOf lkc_X8_122 hk67 (r := (RX1, TX1, 3)) ⟨rfl, by decide, rfl⟩ rfl rfl (Nat.le_of_ble_eq_true rfl) ⟨(Nat.le_of_ble_eq_true rfl), (Nat.le_of_ble_eq_true rfl)⟩ ⟨(Nat.le_of_ble_eq_true rfl), (Nat.le_of_ble_eq_true rfl)⟩ dX8_at_67 rfl rfl rfl ?_
        obtain rfl := o1_i h
        rw [hQ]
        exact q_iret cx dX8_at_70
    · replace h := ip c16 h
      refine q_aload_n cx (pc' := 20) 1 rfl dX8_at_19 rfl ?_
      obtain ⟨ht20, r20, ex20, h⟩ := gR_i h
      refine q_gR cx (pc' := 23) 8 0 fl_X8_12 rfl ht20 ex20 dX8_at_20 rfl ?_
      obtain ⟨ht23, r23, ex23, h⟩ := gR_i h
      refine q_gR cx (pc' := 26) 5 0 fl_X8_98 rfl ht23 ex23 dX8_at_23 rfl ?_
      obtain ⟨ht26, r26, ex26, h⟩ := gR_i h
      refine q_gR cx (pc' := 29) 2 0 fl_X8_115 rfl ht26 ex26 dX8_at_26 rfl ?_
      refine q_iload_n cx (pc' := 30) 2 rfl dX8_at_29 rfl ?_
      obtain ⟨ht30, hi30, x30, ex30, h⟩ := aI_i h
      refine q_iald cx (pc' := 31) ht30 hi30 ex30 dX8_at_30 rfl ?_
      obtain rfl := o1_i h
      rw [hQ]
      exact q_iret cx dX8_at_31
  · replace h := ip c10 h
    refine q_iload_n cx (pc' := 14) 0 rfl dX8_at_13 rfl ?_
    obtain rfl := o1_i h
    rw [hQ]
    exact q_iret cx dX8_at_14

abbrev rm_X8_set : Room := { frames := 2, cells := 0, slots := 0, locals := 61 }
def fn_X8_set (M : QM) (ths : Nat) (p1 : Int32) (p2 : Int32) : Option (Int32 × QM) :=
  if (fn_X8_isBelow p1 16) = 0 then
    some ((-1), M)
  else
    if (fn_X8_isBelow p2 100) = 0 then
      some ((-2), M)
    else
      gR M ths 8 0 fun r24 =>
      gR M r24 5 0 fun r27 =>
      gR M r27 2 0 fun r30 =>
      aI M 20 r30 p1 fun x34 =>
      gR M ths 8 0 fun r37 =>
      gR M r37 5 0 fun r40 =>
      gR M r40 2 0 fun r43 =>
      wI M 20 r43 p1 p2 fun M48 =>
      some (x34, M48)
set_option maxRecDepth 100000 in
set_option maxHeartbeats 4000000 in
theorem ct_X8_set (Γ : GT) (l : Launch) (M : QM) (ths : Nat) (p1 : Int32) (p2 : Int32) (ht0 : mt M ths = 8) (z : Int32) (M' : QM) (h : fn_X8_set M ths p1 p2 = some (z, M')) : CT Γ l yX8_set cX8_set 4 (some .int) rm_X8_set (.ref ths :: [.int p1, .int p2]) M (some (.int z)) M' := by
  refine ct_intro (own := RX8) (L := [(0, .ref ths), (1, .int p1), (2, .int p2)]) (by decide +kernel) rfl (Nat.le_of_ble_eq_true rfl) rfl ?_
  intro p e s m args below meth c Q hQ cx hnm
  unfold fn_X8_set at h
  refine q_iload_n cx (pc' := 1) 1 rfl dX8_set_0 rfl ?_
  refine q_bipush cx (pc' := 3) kb_16 dX8_set_1 rfl ?_
  refine q_callS cx (pc' := 6) (S := []) (S1 := [.int (fn_X8_isBelow p1 16)]) (kc' := 0) (ks' := 0) (ct_X8_isBelow Γ l M p1 16) lki_X8_isBelow lkv_X8_isBelow lkc_X8_69 rfl rfl (Nat.le_of_ble_eq_true rfl) ⟨(Nat.le_of_ble_eq_true rfl), (Nat.le_of_ble_eq_true rfl)⟩ ⟨(Nat.le_of_ble_eq_true rfl), (Nat.le_of_ble_eq_true rfl)⟩ dX8_set_3 rfl rfl rfl ?_
  refine q_if_ne cx (pc' := 9) (tgt := 11) dX8_set_6 (by decide) rfl (fun c6 => ?_) (fun c6 => ?_)
  · replace h := ine c6 h
    refine q_iload_n cx (pc' := 12) 2 rfl dX8_set_11 rfl ?_
    refine q_bipush cx (pc' := 14) kb_100 dX8_set_12 rfl ?_
    refine q_callS cx (pc' := 17) (S := []) (S1 := [.int (fn_X8_isBelow p2 100)]) (kc' := 0) (ks' := 0) (ct_X8_isBelow Γ l M p2 100) lki_X8_isBelow lkv_X8_isBelow lkc_X8_69 rfl rfl (Nat.le_of_ble_eq_true rfl) ⟨(Nat.le_of_ble_eq_true rfl), (Nat.le_of_ble_eq_true rfl)⟩ ⟨(Nat.le_of_ble_eq_true rfl), (Nat.le_of_ble_eq_true rfl)⟩ dX8_set_14 rfl rfl rfl ?_
    refine q_if_ne cx (pc' := 20) (tgt := 23) dX8_set_17 (by decide) rfl (fun c17 => ?_) (fun c17 => ?_)
    · replace h := ine c17 h
      refine q_aload_n cx (pc' := 24) 0 rfl dX8_set_23 rfl ?_
      obtain ⟨ht24, r24, ex24, h⟩ := gR_i h
      refine q_gR cx (pc' := 27) 8 0 fl_X8_12 rfl ht24 ex24 dX8_set_24 rfl ?_
      obtain ⟨ht27, r27, ex27, h⟩ := gR_i h
      refine q_gR cx (pc' := 30) 5 0 fl_X8_98 rfl ht27 ex27 dX8_set_27 rfl ?_
      obtain ⟨ht30, r30, ex30, h⟩ := gR_i h
      refine q_gR cx (pc' := 33) 2 0 fl_X8_115 rfl ht30 ex30 dX8_set_30 rfl ?_
      refine q_iload_n cx (pc' := 34) 1 rfl dX8_set_33 rfl ?_
      obtain ⟨ht34, hi34, x34, ex34, h⟩ := aI_i h
      refine q_iald cx (pc' := 35) ht34 hi34 ex34 dX8_set_34 rfl ?_
      refine q_istore_n cx (pc' := 36) rfl rfl (by decide) (L' := [(3, .int x34), (0, .ref ths), (1, .int p1), (2, .int p2)]) rfl dX8_set_35 rfl ?_
      refine q_aload_n cx (pc' := 37) 1 rfl dX8_set_36 rfl ?_
      obtain ⟨ht37, r37, ex37, h⟩ := gR_i h
      refine q_gR cx (pc' := 40) 8 0 fl_X8_12 rfl ht37 ex37 dX8_set_37 rfl ?_
      obtain ⟨ht40, r40, ex40, h⟩ := gR_i h
      refine q_gR cx (pc' := 43) 5 0 fl_X8_98 rfl ht40 ex40 dX8_set_40 rfl ?_
      obtain ⟨ht43, r43, ex43, h⟩ := gR_i h
      refine q_gR cx (pc' := 46) 2 0 fl_X8_115 rfl ht43 ex43 dX8_set_43 rfl ?_
      refine q_iload_n cx (pc' := 47) 2 rfl dX8_set_46 rfl ?_
      refine q_iload_n cx (pc' := 48) 3 rfl dX8_set_47 rfl ?_
      obtain ⟨ht48, hi48, M48, eM48, h⟩ := wI_i h
      refine q_iast cx (pc' := 49) ht48 hi48 eM48 dX8_set_48 rfl ?_
      refine q_iload_n cx (pc' := 50) 0 rfl dX8_set_49 rfl ?_
      obtain ⟨rfl, rfl⟩ := o2_i h
      rw [hQ]
      exact q_iret cx dX8_set_50
    · replace h := ip c17 h
      refine q_bipush cx (pc' := 22) kb_m2 dX8_set_20 rfl ?_
      obtain ⟨rfl, rfl⟩ := o2_i h
      rw [hQ]
      exact q_iret cx dX8_set_22
  · replace h := ip c6 h
    refine q_iconst cx (pc' := 10) ki_m1 dX8_set_9 rfl ?_
    obtain ⟨rfl, rfl⟩ := o2_i h
    rw [hQ]
    exact q_iret cx dX8_set_10

abbrev rm_X8_weigh : Room := { frames := 3, cells := 0, slots := 0, locals := 82 }
def fn_X8_weigh (M : QM) (ths : Nat) (p1 : Int32) (p2 : Int32) : Option (Int32 × QM) :=
  gR M ths 8 0 fun r1 =>
  ck M r1 5 <|
  bnd (fn_X5_walkerAt M r1 p1) fun c5 =>
  cnul c5 (
    some ((-1), M)) fun r10 =>
  if (fn_X8_isBelow p2 100) = 0 then
    some ((-2), M)
  else
    gI M r10 7 2 fun x28 =>
    pI M r10 7 2 p2 fun M35 =>
    some (x28, M35)
set_option maxRecDepth 100000 in
set_option maxHeartbeats 4000000 in
theorem ct_X8_weigh (Γ : GT) (l : Launch) (M : QM) (ths : Nat) (p1 : Int32) (p2 : Int32) (ht0 : mt M ths = 8) (z : Int32) (M' : QM) (h : fn_X8_weigh M ths p1 p2 = some (z, M')) : CT Γ l yX8_weigh cX8_weigh 5 (some .int) rm_X8_weigh (.ref ths :: [.int p1, .int p2]) M (some (.int z)) M' := by
  refine ct_intro (own := RX8) (L := [(0, .ref ths), (1, .int p1), (2, .int p2)]) (by decide +kernel) rfl (Nat.le_of_ble_eq_true rfl) rfl ?_
  intro p e s m args below meth c Q hQ cx hnm
  unfold fn_X8_weigh at h
  refine q_aload_n cx (pc' := 1) 0 rfl dX8_weigh_0 rfl ?_
  obtain ⟨ht1, r1, ex1, h⟩ := gR_i h
  refine q_gR cx (pc' := 4) 8 0 fl_X8_12 rfl ht1 ex1 dX8_weigh_1 rfl ?_
  refine q_iload_n cx (pc' := 5) 1 rfl dX8_weigh_4 rfl ?_
  obtain ⟨hk5, h⟩ := ck_i h
  obtain ⟨c5, hc5, h⟩ := bnd_i h
  refine q_callV cx (pc' := 8) (S := []) (S1 := [va_rf c5]) (kc' := 0) (ks' := 0) 5 (ct_X5_walkerAt Γ l M r1 p1 hk5 _ hc5) lki_X5_walkerAt lkv_X5_walkerAt lkc_X8_85 hk5 (r := (RX5, TX5, 8)) ⟨rfl, by decide, rfl⟩ rfl rfl (Nat.le_of_ble_eq_true rfl) ⟨(Nat.le_of_ble_eq_true rfl), (Nat.le_of_ble_eq_true rfl)⟩ ⟨(Nat.le_of_ble_eq_true rfl), (Nat.le_of_ble_eq_true rfl)⟩ dX8_weigh_5 rfl rfl rfl ?_
  refine q_astore_nO cx (pc' := 9) rfl rfl (by decide) (L' := [(3, va_rf c5), (0, .ref ths), (1, .int p1), (2, .int p2)]) rfl dX8_weigh_8 rfl ?_
  refine q_aload_nO cx (pc' := 10) 0 rfl dX8_weigh_9 rfl ?_
  rcases c5 with _ | r10
  · replace h := cnul_n h
    refine q_ifnonnull_null cx (pc' := 13) dX8_weigh_10 rfl ?_
    refine q_iconst cx (pc' := 14) ki_m1 dX8_weigh_13 rfl ?_
    obtain ⟨rfl, rfl⟩ := o2_i h
    rw [hQ]
    exact q_iret cx dX8_weigh_14
  · replace h := cnul_s h
    refine q_ifnonnull_ref cx dX8_weigh_10 (tgt := 15) (by decide) ?_
    refine q_iload_n cx (pc' := 16) 3 rfl dX8_weigh_15 rfl ?_
    refine q_bipush cx (pc' := 18) kb_100 dX8_weigh_16 rfl ?_
    refine q_callS cx (pc' := 21) (S := []) (S1 := [.int (fn_X8_isBelow p2 100)]) (kc' := 0) (ks' := 0) (ct_X8_isBelow Γ l M p2 100) lki_X8_isBelow lkv_X8_isBelow lkc_X8_69 rfl rfl (Nat.le_of_ble_eq_true rfl) ⟨(Nat.le_of_ble_eq_true rfl), (Nat.le_of_ble_eq_true rfl)⟩ ⟨(Nat.le_of_ble_eq_true rfl), (Nat.le_of_ble_eq_true rfl)⟩ dX8_weigh_18 rfl rfl rfl ?_
    refine q_if_ne cx (pc' := 24) (tgt := 27) dX8_weigh_21 (by decide) rfl (fun c21 => ?_) (fun c21 => ?_)
    · replace h := ine c21 h
      refine q_aload_n cx (pc' := 28) 0 rfl dX8_weigh_27 rfl ?_
      obtain ⟨ht28, x28, ex28, h⟩ := gI_i h
      refine q_gI cx (pc' := 31) 7 2 fl_X8_95 rfl ht28 ex28 dX8_weigh_28 rfl ?_
      refine q_istore cx (pc' := 33) rfl (by decide) (L' := [(4, .int x28), (3, .ref r10), (0, .ref ths), (1, .int p1), (2, .int p2)]) rfl dX8_weigh_31 rfl ?_
      refine q_aload_n cx (pc' := 34) 1 rfl dX8_weigh_33 rfl ?_
      refine q_iload_n cx (pc' := 35) 4 rfl dX8_weigh_34 rfl ?_
      obtain ⟨ht35, M35, eM35, h⟩ := pI_i h
      refine q_pI cx (pc' := 38) 7 2 fl_X8_95 rfl ht35 (ty := .int) ⟨(RX7, TX7, 4), rfl, by decide +kernel, Or.inl rfl⟩ rfl rfl eM35 dX8_weigh_35 rfl ?_
      refine q_iload cx (pc' := 40) 0 rfl dX8_weigh_38 rfl ?_
      obtain ⟨rfl, rfl⟩ := o2_i h
      rw [hQ]
      exact q_iret cx dX8_weigh_40
    · replace h := ip c21 h
      refine q_bipush cx (pc' := 26) kb_m2 dX8_weigh_24 rfl ?_
      obtain ⟨rfl, rfl⟩ := o2_i h
      rw [hQ]
      exact q_iret cx dX8_weigh_26

abbrev rm_X8_line : Room := { frames := 3, cells := 0, slots := 0, locals := 82 }
def fn_X8_line (M : QM) (ths : Nat) (p1 : Int32) (p2 : Int32) (p3 : Int32) : Option (Int32 × QM) :=
  gR M ths 8 0 fun r1 =>
  ck M r1 5 <|
  bnd (fn_X5_walkerAt M r1 p1) fun c5 =>
  cnul c5 (
    some ((-1), M)) fun r12 =>
  if (fn_X8_isBelow p2 4) = 0 then
    some ((-1), M)
  else
    if (fn_X8_isBelow p3 10) = 0 then
      some ((-2), M)
    else
      gI M r12 7 0 fun x39 =>
      if x39 = 6 then
        gR M r12 7 3 fun r52 =>
        aI M 20 r52 p2 fun x56 =>
        gR M r12 7 3 fun r61 =>
        wI M 20 r61 p2 p3 fun M66 =>
        some (x56, M66)
      else
        some ((-3), M)
set_option maxRecDepth 100000 in
set_option maxHeartbeats 4000000 in
theorem ct_X8_line (Γ : GT) (l : Launch) (M : QM) (ths : Nat) (p1 : Int32) (p2 : Int32) (p3 : Int32) (ht0 : mt M ths = 8) (z : Int32) (M' : QM) (h : fn_X8_line M ths p1 p2 p3 = some (z, M')) : CT Γ l yX8_line cX8_line 6 (some .int) rm_X8_line (.ref ths :: [.int p1, .int p2, .int p3]) M (some (.int z)) M' := by
  refine ct_intro (own := RX8) (L := [(0, .ref ths), (1, .int p1), (2, .int p2), (3, .int p3)]) (by decide +kernel) rfl (Nat.le_of_ble_eq_true rfl) rfl ?_
  intro p e s m args below meth c Q hQ cx hnm
  unfold fn_X8_line at h
  refine q_aload_n cx (pc' := 1) 0 rfl dX8_line_0 rfl ?_
  obtain ⟨ht1, r1, ex1, h⟩ := gR_i h
  refine q_gR cx (pc' := 4) 8 0 fl_X8_12 rfl ht1 ex1 dX8_line_1 rfl ?_
  refine q_iload_n cx (pc' := 5) 1 rfl dX8_line_4 rfl ?_
  obtain ⟨hk5, h⟩ := ck_i h
  obtain ⟨c5, hc5, h⟩ := bnd_i h
  refine q_callV cx (pc' := 8) (S := []) (S1 := [va_rf c5]) (kc' := 0) (ks' := 0) 5 (ct_X5_walkerAt Γ l M r1 p1 hk5 _ hc5) lki_X5_walkerAt lkv_X5_walkerAt lkc_X8_85 hk5 (r := (RX5, TX5, 8)) ⟨rfl, by decide, rfl⟩ rfl rfl (Nat.le_of_ble_eq_true rfl) ⟨(Nat.le_of_ble_eq_true rfl), (Nat.le_of_ble_eq_true rfl)⟩ ⟨(Nat.le_of_ble_eq_true rfl), (Nat.le_of_ble_eq_true rfl)⟩ dX8_line_5 rfl rfl rfl ?_
  refine q_astoreO cx (pc' := 10) rfl (by decide) (L' := [(4, va_rf c5), (0, .ref ths), (1, .int p1), (2, .int p2), (3, .int p3)]) rfl dX8_line_8 rfl ?_
  refine q_aloadO cx (pc' := 12) 0 rfl dX8_line_10 rfl ?_
  rcases c5 with _ | r12
  · replace h := cnul_n h
    refine q_ifnull_null cx dX8_line_12 (tgt := 23) (by decide) ?_
    refine q_iconst cx (pc' := 24) ki_m1 dX8_line_23 rfl ?_
    obtain ⟨rfl, rfl⟩ := o2_i h
    rw [hQ]
    exact q_iret cx dX8_line_24
  · replace h := cnul_s h
    refine q_ifnull_ref cx (pc' := 15) dX8_line_12 rfl ?_
    refine q_iload_n cx (pc' := 16) 3 rfl dX8_line_15 rfl ?_
    refine q_iconst cx (pc' := 17) ki_4 dX8_line_16 rfl ?_
    refine q_callS cx (pc' := 20) (S := []) (S1 := [.int (fn_X8_isBelow p2 4)]) (kc' := 0) (ks' := 0) (ct_X8_isBelow Γ l M p2 4) lki_X8_isBelow lkv_X8_isBelow lkc_X8_69 rfl rfl (Nat.le_of_ble_eq_true rfl) ⟨(Nat.le_of_ble_eq_true rfl), (Nat.le_of_ble_eq_true rfl)⟩ ⟨(Nat.le_of_ble_eq_true rfl), (Nat.le_of_ble_eq_true rfl)⟩ dX8_line_17 rfl rfl rfl ?_
    refine q_if_ne cx (pc' := 23) (tgt := 25) dX8_line_20 (by decide) rfl (fun c20 => ?_) (fun c20 => ?_)
    · replace h := ine c20 h
      refine q_iload_n cx (pc' := 26) 4 rfl dX8_line_25 rfl ?_
      refine q_bipush cx (pc' := 28) kb_10 dX8_line_26 rfl ?_
      refine q_callS cx (pc' := 31) (S := []) (S1 := [.int (fn_X8_isBelow p3 10)]) (kc' := 0) (ks' := 0) (ct_X8_isBelow Γ l M p3 10) lki_X8_isBelow lkv_X8_isBelow lkc_X8_69 rfl rfl (Nat.le_of_ble_eq_true rfl) ⟨(Nat.le_of_ble_eq_true rfl), (Nat.le_of_ble_eq_true rfl)⟩ ⟨(Nat.le_of_ble_eq_true rfl), (Nat.le_of_ble_eq_true rfl)⟩ dX8_line_28 rfl rfl rfl ?_
      refine q_if_ne cx (pc' := 34) (tgt := 37) dX8_line_31 (by decide) rfl (fun c31 => ?_) (fun c31 => ?_)
      · replace h := ine c31 h
        refine q_aload cx (pc' := 39) 0 rfl dX8_line_37 rfl ?_
        obtain ⟨ht39, x39, ex39, h⟩ := gI_i h
        refine q_gI cx (pc' := 42) 7 0 fl_X8_89 rfl ht39 ex39 dX8_line_39 rfl ?_
        refine q_bipush cx (pc' := 44) kb_6 dX8_line_42 rfl ?_
        refine q_icmp_eq cx (pc' := 47) (tgt := 50) dX8_line_44 (by decide) rfl (fun c44 => ?_) (fun c44 => ?_)
        · replace h := ip c44 h
          refine q_aload cx (pc' := 52) 0 rfl dX8_line_50 rfl ?_
          obtain ⟨ht52, r52, ex52, h⟩ := gR_i h
          refine q_gR cx (pc' := 55) 7 3 fl_X8_129 rfl ht52 ex52 dX8_line_52 rfl ?_
          refine q_iload_n cx (pc' := 56) 3 rfl dX8_line_55 rfl ?_
          obtain ⟨ht56, hi56, x56, ex56, h⟩ := aI_i h
          refine q_iald cx (pc' := 57) ht56 hi56 ex56 dX8_line_56 rfl ?_
          refine q_istore cx (pc' := 59) rfl (by decide) (L' := [(5, .int x56), (4, .ref r12), (0, .ref ths), (1, .int p1), (2, .int p2), (3, .int p3)]) rfl dX8_line_57 rfl ?_
          refine q_aload cx (pc' := 61) 1 rfl dX8_line_59 rfl ?_
          obtain ⟨ht61, r61, ex61, h⟩ := gR_i h
          refine q_gR cx (pc' := 64) 7 3 fl_X8_129 rfl ht61 ex61 dX8_line_61 rfl ?_
          refine q_iload_n cx (pc' := 65) 4 rfl dX8_line_64 rfl ?_
          refine q_iload_n cx (pc' := 66) 5 rfl dX8_line_65 rfl ?_
          obtain ⟨ht66, hi66, M66, eM66, h⟩ := wI_i h
          refine q_iast cx (pc' := 67) ht66 hi66 eM66 dX8_line_66 rfl ?_
          refine q_iload cx (pc' := 69) 0 rfl dX8_line_67 rfl ?_
          obtain ⟨rfl, rfl⟩ := o2_i h
          rw [hQ]
          exact q_iret cx dX8_line_69
        · replace h := ine c44 h
          refine q_bipush cx (pc' := 49) kb_m3 dX8_line_47 rfl ?_
          obtain ⟨rfl, rfl⟩ := o2_i h
          rw [hQ]
          exact q_iret cx dX8_line_49
      · replace h := ip c31 h
        refine q_bipush cx (pc' := 36) kb_m2 dX8_line_34 rfl ?_
        obtain ⟨rfl, rfl⟩ := o2_i h
        rw [hQ]
        exact q_iret cx dX8_line_36
    · replace h := ip c20 h
      refine q_iconst cx (pc' := 24) ki_m1 dX8_line_23 rfl ?_
      obtain ⟨rfl, rfl⟩ := o2_i h
      rw [hQ]
      exact q_iret cx dX8_line_24

abbrev rm_X8_milk : Room := { frames := 3, cells := 0, slots := 0, locals := 102 }
def fn_X8_milk (M : QM) (ths : Nat) (p1 : Int32) : Option (Int32 × QM) :=
  if (fn_X8_isBelow p1 16) = 0 then
    some ((-1), M)
  else
    gR M ths 8 0 fun r12 =>
    gR M r12 5 0 fun r15 =>
    gR M ths 8 0 fun r20 =>
    gR M r20 5 7 fun r23 =>
    gI M r23 1 2 fun x26 =>
    ck M r15 2 <|
    bnd (fn_X2_pour M r15 p1 x26) fun M29 =>
    gR M29 ths 8 0 fun r33 =>
    gR M29 r33 5 0 fun r36 =>
    gR M29 r36 2 0 fun r39 =>
    aI M29 20 r39 p1 fun x43 =>
    some (x43, M29)
set_option maxRecDepth 100000 in
set_option maxHeartbeats 4000000 in
theorem ct_X8_milk (Γ : GT) (l : Launch) (M : QM) (ths : Nat) (p1 : Int32) (ht0 : mt M ths = 8) (z : Int32) (M' : QM) (h : fn_X8_milk M ths p1 = some (z, M')) : CT Γ l yX8_milk cX8_milk 2 (some .int) rm_X8_milk (.ref ths :: [.int p1]) M (some (.int z)) M' := by
  refine ct_intro (own := RX8) (L := [(0, .ref ths), (1, .int p1)]) (by decide +kernel) rfl (Nat.le_of_ble_eq_true rfl) rfl ?_
  intro p e s m args below meth c Q hQ cx hnm
  unfold fn_X8_milk at h
  refine q_iload_n cx (pc' := 1) 1 rfl dX8_milk_0 rfl ?_
  refine q_bipush cx (pc' := 3) kb_16 dX8_milk_1 rfl ?_
  refine q_callS cx (pc' := 6) (S := []) (S1 := [.int (fn_X8_isBelow p1 16)]) (kc' := 0) (ks' := 0) (ct_X8_isBelow Γ l M p1 16) lki_X8_isBelow lkv_X8_isBelow lkc_X8_69 rfl rfl (Nat.le_of_ble_eq_true rfl) ⟨(Nat.le_of_ble_eq_true rfl), (Nat.le_of_ble_eq_true rfl)⟩ ⟨(Nat.le_of_ble_eq_true rfl), (Nat.le_of_ble_eq_true rfl)⟩ dX8_milk_3 rfl rfl rfl ?_
  refine q_if_ne cx (pc' := 9) (tgt := 11) dX8_milk_6 (by decide) rfl (fun c6 => ?_) (fun c6 => ?_)
  · replace h := ine c6 h
    refine q_aload_n cx (pc' := 12) 0 rfl dX8_milk_11 rfl ?_
    obtain ⟨ht12, r12, ex12, h⟩ := gR_i h
    refine q_gR cx (pc' := 15) 8 0 fl_X8_12 rfl ht12 ex12 dX8_milk_12 rfl ?_
    obtain ⟨ht15, r15, ex15, h⟩ := gR_i h
    refine q_gR cx (pc' := 18) 5 0 fl_X8_98 rfl ht15 ex15 dX8_milk_15 rfl ?_
    refine q_iload_n cx (pc' := 19) 1 rfl dX8_milk_18 rfl ?_
    refine q_aload_n cx (pc' := 20) 0 rfl dX8_milk_19 rfl ?_
    obtain ⟨ht20, r20, ex20, h⟩ := gR_i h
    refine q_gR cx (pc' := 23) 8 0 fl_X8_12 rfl ht20 ex20 dX8_milk_20 rfl ?_
    obtain ⟨ht23, r23, ex23, h⟩ := gR_i h
    refine q_gR cx (pc' := 26) 5 7 fl_X8_64 rfl ht23 ex23 dX8_milk_23 rfl ?_
    obtain ⟨ht26, x26, ex26, h⟩ := gI_i h
    refine q_gI cx (pc' := 29) 1 2 fl_X8_132 rfl ht26 ex26 dX8_milk_26 rfl ?_
    obtain ⟨hk29, h⟩ := ck_i h
    obtain ⟨M29, hc29, h⟩ := bnd_i h
    refine q_callV cx (pc' := 32) (S := []) (S1 := []) (kc' := 0) (ks' := 0) 2 (ct_X2_pour Γ l M r15 p1 x26 hk29 _ hc29) lki_X2_pour lkv_X2_pour lkc_X8_135 hk29 (r := (RX2, TX2, 2)) ⟨rfl, by decide, rfl⟩ rfl rfl (Nat.le_of_ble_eq_true rfl) ⟨(Nat.le_of_ble_eq_true rfl), (Nat.le_of_ble_eq_true rfl)⟩ ⟨(Nat.le_of_ble_eq_true rfl), (Nat.le_of_ble_eq_true rfl)⟩ dX8_milk_29 rfl rfl rfl ?_
    refine q_aload_n cx (pc' := 33) 0 rfl dX8_milk_32 rfl ?_
    obtain ⟨ht33, r33, ex33, h⟩ := gR_i h
    refine q_gR cx (pc' := 36) 8 0 fl_X8_12 rfl ht33 ex33 dX8_milk_33 rfl ?_
    obtain ⟨ht36, r36, ex36, h⟩ := gR_i h
    refine q_gR cx (pc' := 39) 5 0 fl_X8_98 rfl ht36 ex36 dX8_milk_36 rfl ?_
    obtain ⟨ht39, r39, ex39, h⟩ := gR_i h
    refine q_gR cx (pc' := 42) 2 0 fl_X8_115 rfl ht39 ex39 dX8_milk_39 rfl ?_
    refine q_iload_n cx (pc' := 43) 1 rfl dX8_milk_42 rfl ?_
    obtain ⟨ht43, hi43, x43, ex43, h⟩ := aI_i h
    refine q_iald cx (pc' := 44) ht43 hi43 ex43 dX8_milk_43 rfl ?_
    obtain ⟨rfl, rfl⟩ := o2_i h
    rw [hQ]
    exact q_iret cx dX8_milk_44
  · replace h := ip c6 h
    refine q_iconst cx (pc' := 10) ki_m1 dX8_milk_9 rfl ?_
    obtain ⟨rfl, rfl⟩ := o2_i h
    rw [hQ]
    exact q_iret cx dX8_milk_10

abbrev rm_X8_stir : Room := { frames := 2, cells := 0, slots := 0, locals := 63 }
def fn_X8_stir (M : QM) (ths : Nat) (p1 : Int32) (p2 : Int32) : Option (Int32 × QM) :=
  if (fn_X8_isBelow p1 16) = 0 then
    some ((-1), M)
  else
    if (fn_X8_isBelow p2 16) = 0 then
      some ((-1), M)
    else
      if ((fn_X8_around (1 <<< (p1 &&& 31)) 0) &&& (1 <<< (p2 &&& 31))) = 0 then
        some ((-2), M)
      else
        gR M ths 8 0 fun r38 =>
        gR M r38 5 0 fun r41 =>
        ck M r41 2 <|
        bnd (fn_X2_swap M r41 p1 p2) fun M46 =>
        gR M46 ths 8 0 fun r50 =>
        gR M46 r50 5 0 fun r53 =>
        gR M46 r53 2 0 fun r56 =>
        aI M46 20 r56 p1 fun x60 =>
        some (x60, M46)
set_option maxRecDepth 100000 in
set_option maxHeartbeats 4000000 in
theorem ct_X8_stir (Γ : GT) (l : Launch) (M : QM) (ths : Nat) (p1 : Int32) (p2 : Int32) (ht0 : mt M ths = 8) (z : Int32) (M' : QM) (h : fn_X8_stir M ths p1 p2 = some (z, M')) : CT Γ l yX8_stir cX8_stir 3 (some .int) rm_X8_stir (.ref ths :: [.int p1, .int p2]) M (some (.int z)) M' := by
  refine ct_intro (own := RX8) (L := [(0, .ref ths), (1, .int p1), (2, .int p2)]) (by decide +kernel) rfl (Nat.le_of_ble_eq_true rfl) rfl ?_
  intro p e s m args below meth c Q hQ cx hnm
  unfold fn_X8_stir at h
  refine q_iload_n cx (pc' := 1) 1 rfl dX8_stir_0 rfl ?_
  refine q_bipush cx (pc' := 3) kb_16 dX8_stir_1 rfl ?_
  refine q_callS cx (pc' := 6) (S := []) (S1 := [.int (fn_X8_isBelow p1 16)]) (kc' := 0) (ks' := 0) (ct_X8_isBelow Γ l M p1 16) lki_X8_isBelow lkv_X8_isBelow lkc_X8_69 rfl rfl (Nat.le_of_ble_eq_true rfl) ⟨(Nat.le_of_ble_eq_true rfl), (Nat.le_of_ble_eq_true rfl)⟩ ⟨(Nat.le_of_ble_eq_true rfl), (Nat.le_of_ble_eq_true rfl)⟩ dX8_stir_3 rfl rfl rfl ?_
  refine q_if_eq cx (pc' := 9) (tgt := 18) dX8_stir_6 (by decide) rfl (fun c6 => ?_) (fun c6 => ?_)
  · replace h := ip c6 h
    refine q_iconst cx (pc' := 19) ki_m1 dX8_stir_18 rfl ?_
    obtain ⟨rfl, rfl⟩ := o2_i h
    rw [hQ]
    exact q_iret cx dX8_stir_19
  · replace h := ine c6 h
    refine q_iload_n cx (pc' := 10) 2 rfl dX8_stir_9 rfl ?_
    refine q_bipush cx (pc' := 12) kb_16 dX8_stir_10 rfl ?_
    refine q_callS cx (pc' := 15) (S := []) (S1 := [.int (fn_X8_isBelow p2 16)]) (kc' := 0) (ks' := 0) (ct_X8_isBelow Γ l M p2 16) lki_X8_isBelow lkv_X8_isBelow lkc_X8_69 rfl rfl (Nat.le_of_ble_eq_true rfl) ⟨(Nat.le_of_ble_eq_true rfl), (Nat.le_of_ble_eq_true rfl)⟩ ⟨(Nat.le_of_ble_eq_true rfl), (Nat.le_of_ble_eq_true rfl)⟩ dX8_stir_12 rfl rfl rfl ?_
    refine q_if_ne cx (pc' := 18) (tgt := 20) dX8_stir_15 (by decide) rfl (fun c15 => ?_) (fun c15 => ?_)
    · replace h := ine c15 h
      refine q_iconst cx (pc' := 21) ki_1 dX8_stir_20 rfl ?_
      refine q_iload_n cx (pc' := 22) 1 rfl dX8_stir_21 rfl ?_
      refine q_ishl cx (pc' := 23) dX8_stir_22 rfl ?_
      refine q_iconst cx (pc' := 24) ki_0 dX8_stir_23 rfl ?_
      refine q_callS cx (pc' := 27) (S := []) (S1 := [.int (fn_X8_around (1 <<< (p1 &&& 31)) 0)]) (kc' := 0) (ks' := 0) (ct_X8_around Γ l M (1 <<< (p1 &&& 31)) 0) lki_X8_around lkv_X8_around lkc_X8_138 rfl rfl (Nat.le_of_ble_eq_true rfl) ⟨(Nat.le_of_ble_eq_true rfl), (Nat.le_of_ble_eq_true rfl)⟩ ⟨(Nat.le_of_ble_eq_true rfl), (Nat.le_of_ble_eq_true rfl)⟩ dX8_stir_24 rfl rfl rfl ?_
      refine q_iconst cx (pc' := 28) ki_1 dX8_stir_27 rfl ?_
      refine q_iload_n cx (pc' := 29) 2 rfl dX8_stir_28 rfl ?_
      refine q_ishl cx (pc' := 30) dX8_stir_29 rfl ?_
      refine q_iand cx (pc' := 31) dX8_stir_30 rfl ?_
      refine q_if_ne cx (pc' := 34) (tgt := 37) dX8_stir_31 (by decide) rfl (fun c31 => ?_) (fun c31 => ?_)
      · replace h := ine c31 h
        refine q_aload_n cx (pc' := 38) 0 rfl dX8_stir_37 rfl ?_
        obtain ⟨ht38, r38, ex38, h⟩ := gR_i h
        refine q_gR cx (pc' := 41) 8 0 fl_X8_12 rfl ht38 ex38 dX8_stir_38 rfl ?_
        obtain ⟨ht41, r41, ex41, h⟩ := gR_i h
        refine q_gR cx (pc' := 44) 5 0 fl_X8_98 rfl ht41 ex41 dX8_stir_41 rfl ?_
        refine q_iload_n cx (pc' := 45) 1 rfl dX8_stir_44 rfl ?_
        refine q_iload_n cx (pc' := 46) 2 rfl dX8_stir_45 rfl ?_
        obtain ⟨hk46, h⟩ := ck_i h
        obtain ⟨M46, hc46, h⟩ := bnd_i h
        refine q_callV cx (pc' := 49) (S := []) (S1 := []) (kc' := 0) (ks' := 0) 2 (ct_X2_swap Γ l M r41 p1 p2 hk46 _ hc46) lki_X2_swap lkv_X2_swap lkc_X8_142 hk46 (r := (RX2, TX2, 2)) ⟨rfl, by decide, rfl⟩ rfl rfl (Nat.le_of_ble_eq_true rfl) ⟨(Nat.le_of_ble_eq_true rfl), (Nat.le_of_ble_eq_true rfl)⟩ ⟨(Nat.le_of_ble_eq_true rfl), (Nat.le_of_ble_eq_true rfl)⟩ dX8_stir_46 rfl rfl rfl ?_
        refine q_aload_n cx (pc' := 50) 0 rfl dX8_stir_49 rfl ?_
        obtain ⟨ht50, r50, ex50, h⟩ := gR_i h
        refine q_gR cx (pc' := 53) 8 0 fl_X8_12 rfl ht50 ex50 dX8_stir_50 rfl ?_
        obtain ⟨ht53, r53, ex53, h⟩ := gR_i h
        refine q_gR cx (pc' := 56) 5 0 fl_X8_98 rfl ht53 ex53 dX8_stir_53 rfl ?_
        obtain ⟨ht56, r56, ex56, h⟩ := gR_i h
        refine q_gR cx (pc' := 59) 2 0 fl_X8_115 rfl ht56 ex56 dX8_stir_56 rfl ?_
        refine q_iload_n cx (pc' := 60) 1 rfl dX8_stir_59 rfl ?_
        obtain ⟨ht60, hi60, x60, ex60, h⟩ := aI_i h
        refine q_iald cx (pc' := 61) ht60 hi60 ex60 dX8_stir_60 rfl ?_
        obtain ⟨rfl, rfl⟩ := o2_i h
        rw [hQ]
        exact q_iret cx dX8_stir_61
      · replace h := ip c31 h
        refine q_bipush cx (pc' := 36) kb_m2 dX8_stir_34 rfl ?_
        obtain ⟨rfl, rfl⟩ := o2_i h
        rw [hQ]
        exact q_iret cx dX8_stir_36
    · replace h := ip c15 h
      refine q_iconst cx (pc' := 19) ki_m1 dX8_stir_18 rfl ?_
      obtain ⟨rfl, rfl⟩ := o2_i h
      rw [hQ]
      exact q_iret cx dX8_stir_19

abbrev rm_X8_feed : Room := { frames := 2, cells := 0, slots := 0, locals := 61 }
def fn_X8_feed (M : QM) (ths : Nat) (p1 : Int32) : Option (Int32 × QM) :=
  if (fn_X8_isBelow p1 128) = 0 then
    some ((-2), M)
  else
    gR M ths 8 4 fun r14 =>
    ck M r14 3 <|
    bnd (fn_X3_append M r14 (i2ch p1)) fun y19 =>
    pr2 y19 fun c19 M19 =>
    if c19 = 0 then
      some ((-4), M19)
    else
      gR M19 ths 8 4 fun r29 =>
      gI M19 r29 3 1 fun x32 =>
      some (x32, M19)
set_option maxRecDepth 100000 in
set_option maxHeartbeats 4000000 in
theorem ct_X8_feed (Γ : GT) (l : Launch) (M : QM) (ths : Nat) (p1 : Int32) (ht0 : mt M ths = 8) (z : Int32) (M' : QM) (h : fn_X8_feed M ths p1 = some (z, M')) : CT Γ l yX8_feed cX8_feed 2 (some .int) rm_X8_feed (.ref ths :: [.int p1]) M (some (.int z)) M' := by
  refine ct_intro (own := RX8) (L := [(0, .ref ths), (1, .int p1)]) (by decide +kernel) rfl (Nat.le_of_ble_eq_true rfl) rfl ?_
  intro p e s m args below meth c Q hQ cx hnm
  unfold fn_X8_feed at h
  refine q_iload_n cx (pc' := 1) 1 rfl dX8_feed_0 rfl ?_
  refine q_sipush cx (pc' := 4) ks_128 dX8_feed_1 rfl ?_
  refine q_callS cx (pc' := 7) (S := []) (S1 := [.int (fn_X8_isBelow p1 128)]) (kc' := 0) (ks' := 0) (ct_X8_isBelow Γ l M p1 128) lki_X8_isBelow lkv_X8_isBelow lkc_X8_69 rfl rfl (Nat.le_of_ble_eq_true rfl) ⟨(Nat.le_of_ble_eq_true rfl), (Nat.le_of_ble_eq_true rfl)⟩ ⟨(Nat.le_of_ble_eq_true rfl), (Nat.le_of_ble_eq_true rfl)⟩ dX8_feed_4 rfl rfl rfl ?_
  refine q_if_ne cx (pc' := 10) (tgt := 13) dX8_feed_7 (by decide) rfl (fun c7 => ?_) (fun c7 => ?_)
  · replace h := ine c7 h
    refine q_aload_n cx (pc' := 14) 0 rfl dX8_feed_13 rfl ?_
    obtain ⟨ht14, r14, ex14, h⟩ := gR_i h
    refine q_gR cx (pc' := 17) 8 4 fl_X8_24 rfl ht14 ex14 dX8_feed_14 rfl ?_
    refine q_iload_n cx (pc' := 18) 1 rfl dX8_feed_17 rfl ?_
    refine q_i2c cx (pc' := 19) dX8_feed_18 rfl ?_
    obtain ⟨hk19, h⟩ := ck_i h
    obtain ⟨⟨c19, M19⟩, hc19, h⟩ := bnd_i h
    replace h := pr2_i h
    refine q_callV cx (pc' := 22) (S := []) (S1 := [.int c19]) (kc' := 0) (ks' := 0) 3 (ct_X3_append Γ l M r14 (i2ch p1) hk19 _ _ hc19) lki_X3_append lkv_X3_append lkc_X8_145 hk19 (r := (RX3, TX3, 9)) ⟨rfl, by decide, rfl⟩ rfl rfl (Nat.le_of_ble_eq_true rfl) ⟨(Nat.le_of_ble_eq_true rfl), (Nat.le_of_ble_eq_true rfl)⟩ ⟨(Nat.le_of_ble_eq_true rfl), (Nat.le_of_ble_eq_true rfl)⟩ dX8_feed_19 rfl rfl rfl ?_
    refine q_if_ne cx (pc' := 25) (tgt := 28) dX8_feed_22 (by decide) rfl (fun c22 => ?_) (fun c22 => ?_)
    · replace h := ine c22 h
      refine q_aload_n cx (pc' := 29) 0 rfl dX8_feed_28 rfl ?_
      obtain ⟨ht29, r29, ex29, h⟩ := gR_i h
      refine q_gR cx (pc' := 32) 8 4 fl_X8_24 rfl ht29 ex29 dX8_feed_29 rfl ?_
      obtain ⟨ht32, x32, ex32, h⟩ := gI_i h
      refine q_gI cx (pc' := 35) 3 1 fl_X8_149 rfl ht32 ex32 dX8_feed_32 rfl ?_
      obtain ⟨rfl, rfl⟩ := o2_i h
      rw [hQ]
      exact q_iret cx dX8_feed_35
    · replace h := ip c22 h
      refine q_bipush cx (pc' := 27) kb_m4 dX8_feed_25 rfl ?_
      obtain ⟨rfl, rfl⟩ := o2_i h
      rw [hQ]
      exact q_iret cx dX8_feed_27
  · replace h := ip c7 h
    refine q_bipush cx (pc' := 12) kb_m2 dX8_feed_10 rfl ?_
    obtain ⟨rfl, rfl⟩ := o2_i h
    rw [hQ]
    exact q_iret cx dX8_feed_12

abbrev rm_X8_brew : Room := { frames := 74, cells := 2, slots := 1603, locals := 2825 }
def lp_X8_brew_72 (ths : Nat) (r39 : Nat) (w3_63 : Int32) (w4_72 : Int32) (Mw_72 : QM) : Option ((Int32 × QM) ⊕ (QM)) :=
  if 10 ≤ w4_72 then
    some (.inr Mw_72)
  else
    gR Mw_72 ths 8 4 fun r80 =>
    ck Mw_72 r80 3 <|
    bnd (fn_X3_faultFor Mw_72 r80 w4_72 w3_63) fun y86 =>
    pr2 y86 fun c86 M86 =>
    gR M86 ths 8 4 fun r95 =>
    gR M86 r95 3 6 fun r98 =>
    ck M86 r39 1 <|
    bnd (fn_X1_learn M86 r39 w4_72 w3_63 r98) fun M101 =>
    nm (w4_72 + 1) fun v4_104 =>
    some (.inl (v4_104, M101))
def lp_X8_brew_63 (ths : Nat) (r39 : Nat) (w3_63 : Int32) (Mw_63 : QM) : Option ((Int32 × QM) ⊕ (QM)) :=
  if 10 ≤ w3_63 then
    some (.inr Mw_63)
  else
    bnd (itr (fun s72 : Int32 × QM => lp_X8_brew_72 ths r39 w3_63 s72.1 s72.2) FU (0, Mw_63)) fun Me_72 =>
    nm (w3_63 + 1) fun v3_110 =>
    some (.inl (v3_110, Me_72))
def fn_X8_brew (M : QM) (ths : Nat) : Option (Int32 × QM) :=
  gI M ths 8 3 fun x1 =>
  if x1 < 6 then
    gR M ths 8 4 fun r13 =>
    ck M r13 3 <|
    bnd (fn_X3_faultFor M r13 0 0) fun y18 =>
    pr2 y18 fun c18 M18 =>
    if c18 < 0 then
      nO M18 1 fun M39 r39 =>
      gR M39 ths 8 4 fun r44 =>
      gI M39 r44 3 7 fun x47 =>
      gR M39 ths 8 4 fun r51 =>
      gI M39 r51 3 8 fun x54 =>
      ck M39 r39 1 <|
      bnd (fn_X1_init M39 r39 x47 x54) fun M57 =>
      bnd (itr (fun s63 : Int32 × QM => lp_X8_brew_63 ths r39 s63.1 s63.2) FU (0, M57)) fun Me_63 =>
      gR Me_63 ths 8 0 fun r117 =>
      pR Me_63 r117 5 7 r39 fun M121 =>
      gR M121 ths 8 4 fun r125 =>
      pI M121 r125 3 1 0 fun M129 =>
      gI M129 ths 8 3 fun x134 =>
      pI M129 ths 8 3 (x134 + 1) fun M139 =>
      gI M139 ths 8 3 fun x143 =>
      some ((x143 - 1), M139)
    else
      gR M18 ths 8 4 fun r27 =>
      pI M18 r27 3 1 0 fun M31 =>
      some (((-10) - c18), M31)
  else
    some ((-4), M)
set_option maxRecDepth 100000 in
set_option maxHeartbeats 4000000 in
theorem ct_X8_brew (Γ : GT) (l : Launch) (M : QM) (ths : Nat) (ht0 : mt M ths = 8) (z : Int32) (M' : QM) (h : fn_X8_brew M ths = some (z, M')) : CT Γ l yX8_brew cX8_brew 5 (some .int) rm_X8_brew (.ref ths :: []) M (some (.int z)) M' := by
  refine ct_intro (own := RX8) (L := [(0, .ref ths)]) (by decide +kernel) rfl (Nat.le_of_ble_eq_true rfl) rfl ?_
  intro p e s m args below meth c Q hQ cx hnm
  unfold fn_X8_brew at h
  refine q_aload_n cx (pc' := 1) 0 rfl dX8_brew_0 rfl ?_
  obtain ⟨ht1, x1, ex1, h⟩ := gI_i h
  refine q_gI cx (pc' := 4) 8 3 fl_X8_152 rfl ht1 ex1 dX8_brew_1 rfl ?_
  refine q_bipush cx (pc' := 6) kb_6 dX8_brew_4 rfl ?_
  refine q_icmp_lt cx (pc' := 9) (tgt := 12) dX8_brew_6 (by decide) rfl (fun c6 => ?_) (fun c6 => ?_)
  · replace h := ip c6 h
    refine q_aload_n cx (pc' := 13) 0 rfl dX8_brew_12 rfl ?_
    obtain ⟨ht13, r13, ex13, h⟩ := gR_i h
    refine q_gR cx (pc' := 16) 8 4 fl_X8_24 rfl ht13 ex13 dX8_brew_13 rfl ?_
    refine q_iconst cx (pc' := 17) ki_0 dX8_brew_16 rfl ?_
    refine q_iconst cx (pc' := 18) ki_0 dX8_brew_17 rfl ?_
    obtain ⟨hk18, h⟩ := ck_i h
    obtain ⟨⟨c18, M18⟩, hc18, h⟩ := bnd_i h
    replace h := pr2_i h
    refine q_callV cx (pc' := 21) (S := []) (S1 := [.int c18]) (kc' := 0) (ks' := 0) 3 (ct_X3_faultFor Γ l M r13 0 0 hk18 _ _ hc18) lki_X3_faultFor lkv_X3_faultFor lkc_X8_155 hk18 (r := (RX3, TX3, 9)) ⟨rfl, by decide, rfl⟩ rfl rfl (Nat.le_of_ble_eq_true rfl) ⟨(Nat.le_of_ble_eq_true rfl), (Nat.le_of_ble_eq_true rfl)⟩ ⟨(Nat.le_of_ble_eq_true rfl), (Nat.le_of_ble_eq_true rfl)⟩ dX8_brew_18 rfl rfl rfl ?_
    refine q_istore_n cx (pc' := 22) rfl rfl (by decide) (L' := [(1, .int c18), (0, .ref ths)]) rfl dX8_brew_21 rfl ?_
    refine q_iload_n cx (pc' := 23) 0 rfl dX8_brew_22 rfl ?_
    refine q_if_lt cx (pc' := 26) (tgt := 39) dX8_brew_23 (by decide) rfl (fun c23 => ?_) (fun c23 => ?_)
    · replace h := ip c23 h
      obtain ⟨M39, r39, eM39, er39, h⟩ := nO_i h
      refine q_new cx (pc' := 42) 1 (by decide) (r := (RX1, TX1, 3)) rfl rfl aw_63 aw_64 aw_65 (Nat.le_of_ble_eq_true rfl) (Nat.le_of_ble_eq_true rfl) eM39 dX8_brew_39 rfl ?_
      rw [← er39]
      refine q_dup cx (pc' := 43) rfl dX8_brew_42 rfl ?_
      refine q_aload_n cx (pc' := 44) 1 rfl dX8_brew_43 rfl ?_
      obtain ⟨ht44, r44, ex44, h⟩ := gR_i h
      refine q_gR cx (pc' := 47) 8 4 fl_X8_24 rfl ht44 ex44 dX8_brew_44 rfl ?_
      obtain ⟨ht47, x47, ex47, h⟩ := gI_i h
      refine q_gI cx (pc' := 50) 3 7 fl_X8_159 rfl ht47 ex47 dX8_brew_47 rfl ?_
      refine q_aload_n cx (pc' := 51) 1 rfl dX8_brew_50 rfl ?_
      obtain ⟨ht51, r51, ex51, h⟩ := gR_i h
      refine q_gR cx (pc' := 54) 8 4 fl_X8_24 rfl ht51 ex51 dX8_brew_51 rfl ?_
      obtain ⟨ht54, x54, ex54, h⟩ := gI_i h
      refine q_gI cx (pc' := 57) 3 8 fl_X8_160 rfl ht54 ex54 dX8_brew_54 rfl ?_
      obtain ⟨hk57, h⟩ := ck_i h
      obtain ⟨M57, hc57, h⟩ := bnd_i h
      refine q_callI cx (pc' := 60) (S := [.ref r39]) (kc' := 2) (ks' := 1603) (ct_X1_init Γ l M39 r39 x47 x54 hk57 _ hc57) lki_X1_init lkv_X1_init lkc_X8_61 rfl (Nat.le_of_ble_eq_true rfl) ⟨(Nat.le_of_ble_eq_true rfl), (Nat.le_of_ble_eq_true rfl)⟩ ⟨(Nat.le_of_ble_eq_true rfl), (Nat.le_of_ble_eq_true rfl)⟩ dX8_brew_57 rfl rfl rfl ?_
      refine q_astore_n cx (pc' := 61) rfl rfl (by decide) (L' := [(2, .ref r39), (1, .int c18), (0, .ref ths)]) rfl dX8_brew_60 rfl ?_
      refine q_iconst cx (pc' := 62) ki_0 dX8_brew_61 rfl ?_
      refine q_istore_n cx (pc' := 63) rfl rfl (by decide) (L' := [(3, .int 0), (2, .ref r39), (1, .int c18), (0, .ref ths)]) rfl dX8_brew_62 rfl ?_
      obtain ⟨r63, hL63, h⟩ := bnd_i h
      have hk63_0 : ∀ (Me_63 : QM), Me_63 = r63 → EE p l e rm_X8_brew s m args below meth c Q Γ 5 2 1603 116 [(0, .ref ths), (2, .ref r39)] [] Me_63 := by
        intro Me_63 hp
        subst hp
        refine q_aload_n cx (pc' := 117) 0 rfl dX8_brew_116 rfl ?_
        obtain ⟨ht117, r117, ex117, h⟩ := gR_i h
        refine q_gR cx (pc' := 120) 8 0 fl_X8_12 rfl ht117 ex117 dX8_brew_117 rfl ?_
        refine q_aload_n cx (pc' := 121) 1 rfl dX8_brew_120 rfl ?_
        obtain ⟨ht121, M121, eM121, h⟩ := pR_i h
        refine q_pR cx (pc' := 124) 5 7 fl_X8_64 rfl ht121 (ty := (.object "BearMouse$Brew")) ⟨(RX5, TX5, 8), rfl, by decide +kernel, Or.inl rfl⟩ rfl rfl eM121 dX8_brew_121 rfl ?_
        refine q_aload_n cx (pc' := 125) 0 rfl dX8_brew_124 rfl ?_
        obtain ⟨ht125, r125, ex125, h⟩ := gR_i h
        refine q_gR cx (pc' := 128) 8 4 fl_X8_24 rfl ht125 ex125 dX8_brew_125 rfl ?_
        refine q_iconst cx (pc' := 129) ki_0 dX8_brew_128 rfl ?_
        obtain ⟨ht129, M129, eM129, h⟩ := pI_i h
        refine q_pI cx (pc' := 132) 3 1 fl_X8_149 rfl ht129 (ty := .int) ⟨(RX3, TX3, 9), rfl, by decide +kernel, Or.inl rfl⟩ rfl rfl eM129 dX8_brew_129 rfl ?_
        refine q_aload_n cx (pc' := 133) 0 rfl dX8_brew_132 rfl ?_
        refine q_dup cx (pc' := 134) rfl dX8_brew_133 rfl ?_
        obtain ⟨ht134, x134, ex134, h⟩ := gI_i h
        refine q_gI cx (pc' := 137) 8 3 fl_X8_152 rfl ht134 ex134 dX8_brew_134 rfl ?_
        refine q_iconst cx (pc' := 138) ki_1 dX8_brew_137 rfl ?_
        refine q_iadd cx (pc' := 139) dX8_brew_138 rfl ?_
        obtain ⟨ht139, M139, eM139, h⟩ := pI_i h
        refine q_pI cx (pc' := 142) 8 3 fl_X8_152 rfl ht139 (ty := .int) ⟨(RX8, TX8, 10), rfl, by decide +kernel, Or.inl rfl⟩ rfl rfl eM139 dX8_brew_139 rfl ?_
        refine q_aload_n cx (pc' := 143) 0 rfl dX8_brew_142 rfl ?_
        obtain ⟨ht143, x143, ex143, h⟩ := gI_i h
        refine q_gI cx (pc' := 146) 8 3 fl_X8_152 rfl ht143 ex143 dX8_brew_143 rfl ?_
        refine q_iconst cx (pc' := 147) ki_1 dX8_brew_146 rfl ?_
        refine q_isub cx (pc' := 148) dX8_brew_147 rfl ?_
        obtain ⟨rfl, rfl⟩ := o2_i h
        refine q_widen (k2 := 2) (s2 := 1603) (by omega) (by omega) ?_
        rw [hQ]
        exact q_iret cx dX8_brew_148
      have key63 : ∀ (n : Nat) (w3_63 : Int32) (Mw_63 : QM), itr (fun s63 : Int32 × QM => lp_X8_brew_63 ths r39 s63.1 s63.2) n (w3_63, Mw_63) = some r63 → EE p l e rm_X8_brew s m args below meth c Q Γ 5 2 1603 63 [(0, .ref ths), (2, .ref r39), (3, .int w3_63)] [] Mw_63 := by
        intro n
        induction n with
        | zero => intro _ _ h; exact (itr_0 h).elim
        | succ n ih =>
          intro w3_63 Mw_63 h
          obtain ⟨z63, h, hz63⟩ := itr_i h
          replace h : lp_X8_brew_63 ths r39 w3_63 Mw_63 = some z63 := h
          unfold lp_X8_brew_63 at h
          refine q_iload_n cx (pc' := 64) 2 rfl dX8_brew_63 rfl ?_
          refine q_bipush cx (pc' := 66) kb_10 dX8_brew_64 rfl ?_
          refine q_icmp_ge cx (pc' := 69) (tgt := 116) dX8_brew_66 (by decide) rfl (fun c66 => ?_) (fun c66 => ?_)
          · replace h := ip c66 h
            refine q_sub cx [0, 1] rfl ?_
            exact hk63_0 _ (hz63.2 _ h)
          · replace h := ine c66 h
            refine q_iconst cx (pc' := 70) ki_0 dX8_brew_69 rfl ?_
            refine q_istore cx (pc' := 72) rfl (by decide) (L' := [(4, .int 0), (0, .ref ths), (2, .ref r39), (3, .int w3_63)]) rfl dX8_brew_70 rfl ?_
            obtain ⟨r72, hL72, h⟩ := bnd_i h
            have hk72_0 : ∀ (Me_72 : QM), Me_72 = r72 → EE p l e rm_X8_brew s m args below meth c Q Γ 5 2 1603 110 [(0, .ref ths), (2, .ref r39), (3, .int w3_63)] [] Me_72 := by
              intro Me_72 hp
              subst hp
              obtain ⟨v3_110, ev3_110, h⟩ := nm_i h
              refine q_iinc cx (pc' := 113) 2 rfl ki_1 ev3_110 (by decide) (L' := [(3, .int v3_110), (0, .ref ths), (2, .ref r39)]) rfl dX8_brew_110 rfl ?_
              refine q_goto cx dX8_brew_113 (tgt := 63) (by decide) ?_
              refine q_sub cx [1, 2, 0] rfl ?_
              exact ih _ _ (hz63.1 _ h)
            have key72 : ∀ (n : Nat) (w4_72 : Int32) (Mw_72 : QM), itr (fun s72 : Int32 × QM => lp_X8_brew_72 ths r39 w3_63 s72.1 s72.2) n (w4_72, Mw_72) = some r72 → EE p l e rm_X8_brew s m args below meth c Q Γ 5 2 1603 72 [(0, .ref ths), (2, .ref r39), (3, .int w3_63), (4, .int w4_72)] [] Mw_72 := by
              intro n
              induction n with
              | zero => intro _ _ h; exact (itr_0 h).elim
              | succ n ih =>
                intro w4_72 Mw_72 h
                obtain ⟨z72, h, hz72⟩ := itr_i h
                replace h : lp_X8_brew_72 ths r39 w3_63 w4_72 Mw_72 = some z72 := h
                unfold lp_X8_brew_72 at h
                refine q_iload cx (pc' := 74) 3 rfl dX8_brew_72 rfl ?_
                refine q_bipush cx (pc' := 76) kb_10 dX8_brew_74 rfl ?_
                refine q_icmp_ge cx (pc' := 79) (tgt := 110) dX8_brew_76 (by decide) rfl (fun c76 => ?_) (fun c76 => ?_)
                · replace h := ip c76 h
                  refine q_sub cx [0, 1, 2] rfl ?_
                  exact hk72_0 _ (hz72.2 _ h)
                · replace h := ine c76 h
                  refine q_aload_n cx (pc' := 80) 0 rfl dX8_brew_79 rfl ?_
                  obtain ⟨ht80, r80, ex80, h⟩ := gR_i h
                  refine q_gR cx (pc' := 83) 8 4 fl_X8_24 rfl ht80 ex80 dX8_brew_80 rfl ?_
                  refine q_iload cx (pc' := 85) 3 rfl dX8_brew_83 rfl ?_
                  refine q_iload_n cx (pc' := 86) 2 rfl dX8_brew_85 rfl ?_
                  obtain ⟨hk86, h⟩ := ck_i h
                  obtain ⟨⟨c86, M86⟩, hc86, h⟩ := bnd_i h
                  replace h := pr2_i h
                  refine q_callV cx (pc' := 89) (S := []) (S1 := [.int c86]) (kc' := 2) (ks' := 1603) 3 (ct_X3_faultFor Γ l Mw_72 r80 w4_72 w3_63 hk86 _ _ hc86) lki_X3_faultFor lkv_X3_faultFor lkc_X8_155 hk86 (r := (RX3, TX3, 9)) ⟨rfl, by decide, rfl⟩ rfl rfl (Nat.le_of_ble_eq_true rfl) ⟨(Nat.le_of_ble_eq_true rfl), (Nat.le_of_ble_eq_true rfl)⟩ ⟨(Nat.le_of_ble_eq_true rfl), (Nat.le_of_ble_eq_true rfl)⟩ dX8_brew_86 rfl rfl rfl ?_
                  refine q_pop cx (pc' := 90) rfl dX8_brew_89 rfl ?_
                  refine q_aload_n cx (pc' := 91) 1 rfl dX8_brew_90 rfl ?_
                  refine q_iload cx (pc' := 93) 3 rfl dX8_brew_91 rfl ?_
                  refine q_iload_n cx (pc' := 94) 2 rfl dX8_brew_93 rfl ?_
                  refine q_aload_n cx (pc' := 95) 0 rfl dX8_brew_94 rfl ?_
                  obtain ⟨ht95, r95, ex95, h⟩ := gR_i h
                  refine q_gR cx (pc' := 98) 8 4 fl_X8_24 rfl ht95 ex95 dX8_brew_95 rfl ?_
                  obtain ⟨ht98, r98, ex98, h⟩ := gR_i h
                  refine q_gR cx (pc' := 101) 3 6 fl_X8_161 rfl ht98 ex98 dX8_brew_98 rfl ?_
                  obtain ⟨hk101, h⟩ := ck_i h
                  obtain ⟨M101, hc101, h⟩ := bnd_i h
                  refine q_callV cx (pc' := 104) (S := []) (S1 := []) (kc' := 2) (ks' := 1603) 1 (ct_X1_learn Γ l M86 r39 w4_72 w3_63 r98 hk101 _ hc101) lki_X1_learn lkv_X1_learn lkc_X8_164 hk101 (r := (RX1, TX1, 3)) ⟨rfl, by decide, rfl⟩ rfl rfl (Nat.le_of_ble_eq_true rfl) ⟨(Nat.le_of_ble_eq_true rfl), (Nat.le_of_ble_eq_true rfl)⟩ ⟨(Nat.le_of_ble_eq_true rfl), (Nat.le_of_ble_eq_true rfl)⟩ dX8_brew_101 rfl rfl rfl ?_
                  obtain ⟨v4_104, ev4_104, h⟩ := nm_i h
                  refine q_iinc cx (pc' := 107) 3 rfl ki_1 ev4_104 (by decide) (L' := [(4, .int v4_104), (0, .ref ths), (2, .ref r39), (3, .int w3_63)]) rfl dX8_brew_104 rfl ?_
                  refine q_goto cx dX8_brew_107 (tgt := 72) (by decide) ?_
                  refine q_sub cx [1, 2, 3, 0] rfl ?_
                  exact ih _ _ (hz72.1 _ h)
            refine q_sub cx [1, 2, 3, 0] rfl ?_
            exact key72 FU _ _ hL72
      refine q_sub cx [3, 1, 0] rfl ?_
      exact key63 FU _ _ hL63
    · replace h := ine c23 h
      refine q_aload_n cx (pc' := 27) 1 rfl dX8_brew_26 rfl ?_
      obtain ⟨ht27, r27, ex27, h⟩ := gR_i h
      refine q_gR cx (pc' := 30) 8 4 fl_X8_24 rfl ht27 ex27 dX8_brew_27 rfl ?_
      refine q_iconst cx (pc' := 31) ki_0 dX8_brew_30 rfl ?_
      obtain ⟨ht31, M31, eM31, h⟩ := pI_i h
      refine q_pI cx (pc' := 34) 3 1 fl_X8_149 rfl ht31 (ty := .int) ⟨(RX3, TX3, 9), rfl, by decide +kernel, Or.inl rfl⟩ rfl rfl eM31 dX8_brew_31 rfl ?_
      refine q_bipush cx (pc' := 36) kb_m10 dX8_brew_34 rfl ?_
      refine q_iload_n cx (pc' := 37) 0 rfl dX8_brew_36 rfl ?_
      refine q_isub cx (pc' := 38) dX8_brew_37 rfl ?_
      obtain ⟨rfl, rfl⟩ := o2_i h
      refine q_widen (k2 := 2) (s2 := 1603) (by omega) (by omega) ?_
      rw [hQ]
      exact q_iret cx dX8_brew_38
  · replace h := ine c6 h
    refine q_bipush cx (pc' := 11) kb_m4 dX8_brew_9 rfl ?_
    obtain ⟨rfl, rfl⟩ := o2_i h
    refine q_widen (k2 := 2) (s2 := 1603) (by omega) (by omega) ?_
    rw [hQ]
    exact q_iret cx dX8_brew_11

abbrev rm_X8_told : Room := { frames := 6, cells := 0, slots := 0, locals := 172 }
def fn_X8_told (M : QM) (ths : Nat) (p1 : Int32) : Option Int32 :=
  if p1 = 0 then
    gR M ths 8 0 fun r41 =>
    gR M r41 5 0 fun r44 =>
    gI M r44 2 1 fun x47 =>
    some x47
  else if p1 = 1 then
    gR M ths 8 0 fun r52 =>
    gR M r52 5 7 fun r55 =>
    gI M r55 1 1 fun x58 =>
    if 16 ≤ x58 then
      some (-5)
    else
      gR M ths 8 0 fun r67 =>
      gR M r67 5 7 fun r70 =>
      gI M r70 1 1 fun x73 =>
      some x73
  else if p1 = 2 then
    gR M ths 8 0 fun r83 =>
    gR M r83 5 7 fun r86 =>
    gI M r86 1 2 fun x89 =>
    some x89
  else if p1 = 3 then
    gR M ths 8 0 fun r94 =>
    gR M ths 8 0 fun r98 =>
    gR M r98 5 0 fun r101 =>
    ck M r94 5 <|
    bnd (fn_X5_crossers M r94 r101) fun c104 =>
    some c104
  else if p1 = 4 then
    gR M ths 8 0 fun r109 =>
    gR M r109 5 0 fun r112 =>
    ck M r112 2 <|
    bnd (fn_X2_together M r112) fun c115 =>
    some c115
  else if p1 = 5 then
    gR M ths 8 0 fun r120 =>
    gR M ths 8 0 fun r124 =>
    gI M r124 5 3 fun x127 =>
    ck M r120 5 <|
    bnd (fn_X5_borneOnAll M r120 x127) fun c130 =>
    some c130
  else 
    some (-1)
set_option maxRecDepth 100000 in
set_option maxHeartbeats 4000000 in
theorem ct_X8_told (Γ : GT) (l : Launch) (M : QM) (ths : Nat) (p1 : Int32) (ht0 : mt M ths = 8) (z : Int32) (h : fn_X8_told M ths p1 = some z) : CT Γ l yX8_told cX8_told 2 (some .int) rm_X8_told (.ref ths :: [.int p1]) M (some (.int z)) M := by
  refine ct_intro (own := RX8) (L := [(0, .ref ths), (1, .int p1)]) (by decide +kernel) rfl (Nat.le_of_ble_eq_true rfl) rfl ?_
  intro p e s m args below meth c Q hQ cx hnm
  unfold fn_X8_told at h
  refine q_iload_n cx (pc' := 1) 1 rfl dX8_told_0 rfl ?_
  rcases Decidable.em (p1 = 0) with c1_0 | c1_0
  · replace h := ip c1_0 h
    refine q_tabIn cx (off := 39) (tgt := 40) c1_0 dX8_told_1 (by decide) (by decide) ?_
    refine q_aload_n cx (pc' := 41) 0 rfl dX8_told_40 rfl ?_
    obtain ⟨ht41, r41, ex41, h⟩ := gR_i h
    refine q_gR cx (pc' := 44) 8 0 fl_X8_12 rfl ht41 ex41 dX8_told_41 rfl ?_
    obtain ⟨ht44, r44, ex44, h⟩ := gR_i h
    refine q_gR cx (pc' := 47) 5 0 fl_X8_98 rfl ht44 ex44 dX8_told_44 rfl ?_
    obtain ⟨ht47, x47, ex47, h⟩ := gI_i h
    refine q_gI cx (pc' := 50) 2 1 fl_X8_119 rfl ht47 ex47 dX8_told_47 rfl ?_
    obtain rfl := o1_i h
    rw [hQ]
    exact q_iret cx dX8_told_50
  replace h := ine c1_0 h
  rcases Decidable.em (p1 = 1) with c1_1 | c1_1
  · replace h := ip c1_1 h
    refine q_tabIn cx (off := 50) (tgt := 51) c1_1 dX8_told_1 (by decide) (by decide) ?_
    refine q_aload_n cx (pc' := 52) 0 rfl dX8_told_51 rfl ?_
    obtain ⟨ht52, r52, ex52, h⟩ := gR_i h
    refine q_gR cx (pc' := 55) 8 0 fl_X8_12 rfl ht52 ex52 dX8_told_52 rfl ?_
    obtain ⟨ht55, r55, ex55, h⟩ := gR_i h
    refine q_gR cx (pc' := 58) 5 7 fl_X8_64 rfl ht55 ex55 dX8_told_55 rfl ?_
    obtain ⟨ht58, x58, ex58, h⟩ := gI_i h
    refine q_gI cx (pc' := 61) 1 1 fl_X8_101 rfl ht58 ex58 dX8_told_58 rfl ?_
    refine q_bipush cx (pc' := 63) kb_16 dX8_told_61 rfl ?_
    refine q_icmp_ge cx (pc' := 66) (tgt := 79) dX8_told_63 (by decide) rfl (fun c63 => ?_) (fun c63 => ?_)
    · replace h := ip c63 h
      refine q_bipush cx (pc' := 81) kb_m5 dX8_told_79 rfl ?_
      obtain rfl := o1_i h
      rw [hQ]
      exact q_iret cx dX8_told_81
    · replace h := ine c63 h
      refine q_aload_n cx (pc' := 67) 0 rfl dX8_told_66 rfl ?_
      obtain ⟨ht67, r67, ex67, h⟩ := gR_i h
      refine q_gR cx (pc' := 70) 8 0 fl_X8_12 rfl ht67 ex67 dX8_told_67 rfl ?_
      obtain ⟨ht70, r70, ex70, h⟩ := gR_i h
      refine q_gR cx (pc' := 73) 5 7 fl_X8_64 rfl ht70 ex70 dX8_told_70 rfl ?_
      obtain ⟨ht73, x73, ex73, h⟩ := gI_i h
      refine q_gI cx (pc' := 76) 1 1 fl_X8_101 rfl ht73 ex73 dX8_told_73 rfl ?_
      refine q_goto cx dX8_told_76 (tgt := 81) (by decide) ?_
      obtain rfl := o1_i h
      rw [hQ]
      exact q_iret cx dX8_told_81
  replace h := ine c1_1 h
  rcases Decidable.em (p1 = 2) with c1_2 | c1_2
  · replace h := ip c1_2 h
    refine q_tabIn cx (off := 81) (tgt := 82) c1_2 dX8_told_1 (by decide) (by decide) ?_
    refine q_aload_n cx (pc' := 83) 0 rfl dX8_told_82 rfl ?_
    obtain ⟨ht83, r83, ex83, h⟩ := gR_i h
    refine q_gR cx (pc' := 86) 8 0 fl_X8_12 rfl ht83 ex83 dX8_told_83 rfl ?_
    obtain ⟨ht86, r86, ex86, h⟩ := gR_i h
    refine q_gR cx (pc' := 89) 5 7 fl_X8_64 rfl ht86 ex86 dX8_told_86 rfl ?_
    obtain ⟨ht89, x89, ex89, h⟩ := gI_i h
    refine q_gI cx (pc' := 92) 1 2 fl_X8_132 rfl ht89 ex89 dX8_told_89 rfl ?_
    obtain rfl := o1_i h
    rw [hQ]
    exact q_iret cx dX8_told_92
  replace h := ine c1_2 h
  rcases Decidable.em (p1 = 3) with c1_3 | c1_3
  · replace h := ip c1_3 h
    refine q_tabIn cx (off := 92) (tgt := 93) c1_3 dX8_told_1 (by decide) (by decide) ?_
    refine q_aload_n cx (pc' := 94) 0 rfl dX8_told_93 rfl ?_
    obtain ⟨ht94, r94, ex94, h⟩ := gR_i h
    refine q_gR cx (pc' := 97) 8 0 fl_X8_12 rfl ht94 ex94 dX8_told_94 rfl ?_
    refine q_aload_n cx (pc' := 98) 0 rfl dX8_told_97 rfl ?_
    obtain ⟨ht98, r98, ex98, h⟩ := gR_i h
    refine q_gR cx (pc' := 101) 8 0 fl_X8_12 rfl ht98 ex98 dX8_told_98 rfl ?_
    obtain ⟨ht101, r101, ex101, h⟩ := gR_i h
    refine q_gR cx (pc' := 104) 5 0 fl_X8_98 rfl ht101 ex101 dX8_told_101 rfl ?_
    obtain ⟨hk104, h⟩ := ck_i h
    obtain ⟨c104, hc104, h⟩ := bnd_i h
    refine q_callV cx (pc' := 107) (S := []) (S1 := [.int c104]) (kc' := 0) (ks' := 0) 5 (ct_X5_crossers Γ l M r94 r101 hk104 _ hc104) lki_X5_crossers lkv_X5_crossers lkc_X8_168 hk104 (r := (RX5, TX5, 8)) ⟨rfl, by decide, rfl⟩ rfl rfl (Nat.le_of_ble_eq_true rfl) ⟨(Nat.le_of_ble_eq_true rfl), (Nat.le_of_ble_eq_true rfl)⟩ ⟨(Nat.le_of_ble_eq_true rfl), (Nat.le_of_ble_eq_true rfl)⟩ dX8_told_104 rfl rfl rfl ?_
    obtain rfl := o1_i h
    rw [hQ]
    exact q_iret cx dX8_told_107
  replace h := ine c1_3 h
  rcases Decidable.em (p1 = 4) with c1_4 | c1_4
  · replace h := ip c1_4 h
    refine q_tabIn cx (off := 107) (tgt := 108) c1_4 dX8_told_1 (by decide) (by decide) ?_
    refine q_aload_n cx (pc' := 109) 0 rfl dX8_told_108 rfl ?_
    obtain ⟨ht109, r109, ex109, h⟩ := gR_i h
    refine q_gR cx (pc' := 112) 8 0 fl_X8_12 rfl ht109 ex109 dX8_told_109 rfl ?_
    obtain ⟨ht112, r112, ex112, h⟩ := gR_i h
    refine q_gR cx (pc' := 115) 5 0 fl_X8_98 rfl ht112 ex112 dX8_told_112 rfl ?_
    obtain ⟨hk115, h⟩ := ck_i h
    obtain ⟨c115, hc115, h⟩ := bnd_i h
    refine q_callV cx (pc' := 118) (S := []) (S1 := [.int c115]) (kc' := 0) (ks' := 0) 2 (ct_X2_together Γ l M r112 hk115 _ hc115) lki_X2_together lkv_X2_together lkc_X8_172 hk115 (r := (RX2, TX2, 2)) ⟨rfl, by decide, rfl⟩ rfl rfl (Nat.le_of_ble_eq_true rfl) ⟨(Nat.le_of_ble_eq_true rfl), (Nat.le_of_ble_eq_true rfl)⟩ ⟨(Nat.le_of_ble_eq_true rfl), (Nat.le_of_ble_eq_true rfl)⟩ dX8_told_115 rfl rfl rfl ?_
    obtain rfl := o1_i h
    rw [hQ]
    exact q_iret cx dX8_told_118
  replace h := ine c1_4 h
  rcases Decidable.em (p1 = 5) with c1_5 | c1_5
  · replace h := ip c1_5 h
    refine q_tabIn cx (off := 118) (tgt := 119) c1_5 dX8_told_1 (by decide) (by decide) ?_
    refine q_aload_n cx (pc' := 120) 0 rfl dX8_told_119 rfl ?_
    obtain ⟨ht120, r120, ex120, h⟩ := gR_i h
    refine q_gR cx (pc' := 123) 8 0 fl_X8_12 rfl ht120 ex120 dX8_told_120 rfl ?_
    refine q_aload_n cx (pc' := 124) 0 rfl dX8_told_123 rfl ?_
    obtain ⟨ht124, r124, ex124, h⟩ := gR_i h
    refine q_gR cx (pc' := 127) 8 0 fl_X8_12 rfl ht124 ex124 dX8_told_124 rfl ?_
    obtain ⟨ht127, x127, ex127, h⟩ := gI_i h
    refine q_gI cx (pc' := 130) 5 3 fl_X8_176 rfl ht127 ex127 dX8_told_127 rfl ?_
    obtain ⟨hk130, h⟩ := ck_i h
    obtain ⟨c130, hc130, h⟩ := bnd_i h
    refine q_callV cx (pc' := 133) (S := []) (S1 := [.int c130]) (kc' := 0) (ks' := 0) 5 (ct_X5_borneOnAll Γ l M r120 x127 hk130 _ hc130) lki_X5_borneOnAll lkv_X5_borneOnAll lkc_X8_126 hk130 (r := (RX5, TX5, 8)) ⟨rfl, by decide, rfl⟩ rfl rfl (Nat.le_of_ble_eq_true rfl) ⟨(Nat.le_of_ble_eq_true rfl), (Nat.le_of_ble_eq_true rfl)⟩ ⟨(Nat.le_of_ble_eq_true rfl), (Nat.le_of_ble_eq_true rfl)⟩ dX8_told_130 rfl rfl rfl ?_
    obtain rfl := o1_i h
    rw [hQ]
    exact q_iret cx dX8_told_133
  replace h := ine c1_5 h
  have nt1_0 := lv_neT c1_0 (a := 0) rfl
  have nt1_1 := lv_neT c1_1 (a := 1) rfl
  have nt1_2 := lv_neT c1_2 (a := 2) rfl
  have nt1_3 := lv_neT c1_3 (a := 3) rfl
  have nt1_4 := lv_neT c1_4 (a := 4) rfl
  have nt1_5 := lv_neT c1_5 (a := 5) rfl
  refine q_tabOut cx (tgt := 134) dX8_told_1 (by omega) (by decide) ?_
  refine q_iconst cx (pc' := 135) ki_m1 dX8_told_134 rfl ?_
  obtain rfl := o1_i h
  rw [hQ]
  exact q_iret cx dX8_told_135

abbrev rm_X8_isUpTo : Room := { frames := 1, cells := 0, slots := 0, locals := 40 }
def fn_X8_isUpTo (p0 : Int32) (p1 : Int32) : Int32 :=
  if p0 < 0 then
    0
  else
    if p1 < p0 then
      0
    else
      1
set_option maxRecDepth 100000 in
set_option maxHeartbeats 4000000 in
theorem ct_X8_isUpTo (Γ : GT) (l : Launch) (M : QM) (p0 : Int32) (p1 : Int32) : CT Γ l yX8_isUpTo cX8_isUpTo 2 (some .boolean) rm_X8_isUpTo [.int p0, .int p1] M (some (.int (fn_X8_isUpTo p0 p1))) M := by
  generalize h : fn_X8_isUpTo p0 p1 = z
  refine ct_intro (own := RX8) (L := [(0, .int p0), (1, .int p1)]) (by decide +kernel) rfl (Nat.le_of_ble_eq_true rfl) rfl ?_
  intro p e s m args below meth c Q hQ cx hnm
  unfold fn_X8_isUpTo at h
  refine q_iload_n cx (pc' := 1) 0 rfl dX8_isUpTo_0 rfl ?_
  refine q_if_lt cx (pc' := 4) (tgt := 13) dX8_isUpTo_1 (by decide) rfl (fun c1 => ?_) (fun c1 => ?_)
  · replace h := ip c1 h
    refine q_iconst cx (pc' := 14) ki_0 dX8_isUpTo_13 rfl ?_
    subst h
    rw [hQ]
    exact q_nret cx rfl dX8_isUpTo_14
  · replace h := ine c1 h
    refine q_iload_n cx (pc' := 5) 0 rfl dX8_isUpTo_4 rfl ?_
    refine q_iload_n cx (pc' := 6) 1 rfl dX8_isUpTo_5 rfl ?_
    refine q_icmp_gt cx (pc' := 9) (tgt := 13) dX8_isUpTo_6 (by decide) rfl (fun c6 => ?_) (fun c6 => ?_)
    · replace h := ip c6 h
      refine q_iconst cx (pc' := 14) ki_0 dX8_isUpTo_13 rfl ?_
      subst h
      rw [hQ]
      exact q_nret cx rfl dX8_isUpTo_14
    · replace h := ine c6 h
      refine q_iconst cx (pc' := 10) ki_1 dX8_isUpTo_9 rfl ?_
      refine q_goto cx dX8_isUpTo_10 (tgt := 14) (by decide) ?_
      subst h
      rw [hQ]
      exact q_nret cx rfl dX8_isUpTo_14

abbrev rm_X8_pass : Room := { frames := 4, cells := 0, slots := 0, locals := 127 }
def fn_X8_pass (M : QM) (ths : Nat) (p1 : Int32) : Option (Int32 × QM) :=
  if (fn_X8_isUpTo p1 60) = 0 then
    some ((-2), M)
  else
    gR M ths 8 0 fun r13 =>
    gR M r13 5 0 fun r16 =>
    gI M r16 2 1 fun x19 =>
    if (x19 + p1) ≤ 9999 then
      gR M ths 8 0 fun r34 =>
      gR M r34 5 0 fun r37 =>
      gR M ths 8 0 fun r42 =>
      gR M r42 5 7 fun r45 =>
      ck M r37 2 <|
      bnd (fn_X2_ripen M r37 p1 r45) fun M48 =>
      gR M48 ths 8 0 fun r52 =>
      gR M48 r52 5 0 fun r55 =>
      gI M48 r55 2 1 fun x58 =>
      some (x58, M48)
    else
      some ((-3), M)
set_option maxRecDepth 100000 in
set_option maxHeartbeats 4000000 in
theorem ct_X8_pass (Γ : GT) (l : Launch) (M : QM) (ths : Nat) (p1 : Int32) (ht0 : mt M ths = 8) (z : Int32) (M' : QM) (h : fn_X8_pass M ths p1 = some (z, M')) : CT Γ l yX8_pass cX8_pass 2 (some .int) rm_X8_pass (.ref ths :: [.int p1]) M (some (.int z)) M' := by
  refine ct_intro (own := RX8) (L := [(0, .ref ths), (1, .int p1)]) (by decide +kernel) rfl (Nat.le_of_ble_eq_true rfl) rfl ?_
  intro p e s m args below meth c Q hQ cx hnm
  unfold fn_X8_pass at h
  refine q_iload_n cx (pc' := 1) 1 rfl dX8_pass_0 rfl ?_
  refine q_bipush cx (pc' := 3) kb_60 dX8_pass_1 rfl ?_
  refine q_callS cx (pc' := 6) (S := []) (S1 := [.int (fn_X8_isUpTo p1 60)]) (kc' := 0) (ks' := 0) (ct_X8_isUpTo Γ l M p1 60) lki_X8_isUpTo lkv_X8_isUpTo lkc_X8_179 rfl rfl (Nat.le_of_ble_eq_true rfl) ⟨(Nat.le_of_ble_eq_true rfl), (Nat.le_of_ble_eq_true rfl)⟩ ⟨(Nat.le_of_ble_eq_true rfl), (Nat.le_of_ble_eq_true rfl)⟩ dX8_pass_3 rfl rfl rfl ?_
  refine q_if_ne cx (pc' := 9) (tgt := 12) dX8_pass_6 (by decide) rfl (fun c6 => ?_) (fun c6 => ?_)
  · replace h := ine c6 h
    refine q_aload_n cx (pc' := 13) 0 rfl dX8_pass_12 rfl ?_
    obtain ⟨ht13, r13, ex13, h⟩ := gR_i h
    refine q_gR cx (pc' := 16) 8 0 fl_X8_12 rfl ht13 ex13 dX8_pass_13 rfl ?_
    obtain ⟨ht16, r16, ex16, h⟩ := gR_i h
    refine q_gR cx (pc' := 19) 5 0 fl_X8_98 rfl ht16 ex16 dX8_pass_16 rfl ?_
    obtain ⟨ht19, x19, ex19, h⟩ := gI_i h
    refine q_gI cx (pc' := 22) 2 1 fl_X8_119 rfl ht19 ex19 dX8_pass_19 rfl ?_
    refine q_iload_n cx (pc' := 23) 1 rfl dX8_pass_22 rfl ?_
    refine q_iadd cx (pc' := 24) dX8_pass_23 rfl ?_
    refine q_sipush cx (pc' := 27) ks_9999 dX8_pass_24 rfl ?_
    refine q_icmp_le cx (pc' := 30) (tgt := 33) dX8_pass_27 (by decide) rfl (fun c27 => ?_) (fun c27 => ?_)
    · replace h := ip c27 h
      refine q_aload_n cx (pc' := 34) 0 rfl dX8_pass_33 rfl ?_
      obtain ⟨ht34, r34, ex34, h⟩ := gR_i h
      refine q_gR cx (pc' := 37) 8 0 fl_X8_12 rfl ht34 ex34 dX8_pass_34 rfl ?_
      obtain ⟨ht37, r37, ex37, h⟩ := gR_i h
      refine q_gR cx (pc' := 40) 5 0 fl_X8_98 rfl ht37 ex37 dX8_pass_37 rfl ?_
      refine q_iload_n cx (pc' := 41) 1 rfl dX8_pass_40 rfl ?_
      refine q_aload_n cx (pc' := 42) 0 rfl dX8_pass_41 rfl ?_
      obtain ⟨ht42, r42, ex42, h⟩ := gR_i h
      refine q_gR cx (pc' := 45) 8 0 fl_X8_12 rfl ht42 ex42 dX8_pass_42 rfl ?_
      obtain ⟨ht45, r45, ex45, h⟩ := gR_i h
      refine q_gR cx (pc' := 48) 5 7 fl_X8_64 rfl ht45 ex45 dX8_pass_45 rfl ?_
      obtain ⟨hk48, h⟩ := ck_i h
      obtain ⟨M48, hc48, h⟩ := bnd_i h
      refine q_callV cx (pc' := 51) (S := []) (S1 := []) (kc' := 0) (ks' := 0) 2 (ct_X2_ripen Γ l M r37 p1 r45 hk48 _ hc48) lki_X2_ripen lkv_X2_ripen lkc_X8_182 hk48 (r := (RX2, TX2, 2)) ⟨rfl, by decide, rfl⟩ rfl rfl (Nat.le_of_ble_eq_true rfl) ⟨(Nat.le_of_ble_eq_true rfl), (Nat.le_of_ble_eq_true rfl)⟩ ⟨(Nat.le_of_ble_eq_true rfl), (Nat.le_of_ble_eq_true rfl)⟩ dX8_pass_48 rfl rfl rfl ?_
      refine q_aload_n cx (pc' := 52) 0 rfl dX8_pass_51 rfl ?_
      obtain ⟨ht52, r52, ex52, h⟩ := gR_i h
      refine q_gR cx (pc' := 55) 8 0 fl_X8_12 rfl ht52 ex52 dX8_pass_52 rfl ?_
      obtain ⟨ht55, r55, ex55, h⟩ := gR_i h
      refine q_gR cx (pc' := 58) 5 0 fl_X8_98 rfl ht55 ex55 dX8_pass_55 rfl ?_
      obtain ⟨ht58, x58, ex58, h⟩ := gI_i h
      refine q_gI cx (pc' := 61) 2 1 fl_X8_119 rfl ht58 ex58 dX8_pass_58 rfl ?_
      obtain ⟨rfl, rfl⟩ := o2_i h
      rw [hQ]
      exact q_iret cx dX8_pass_61
    · replace h := ine c27 h
      refine q_bipush cx (pc' := 32) kb_m3 dX8_pass_30 rfl ?_
      obtain ⟨rfl, rfl⟩ := o2_i h
      rw [hQ]
      exact q_iret cx dX8_pass_32
  · replace h := ip c6 h
    refine q_bipush cx (pc' := 11) kb_m2 dX8_pass_9 rfl ?_
    obtain ⟨rfl, rfl⟩ := o2_i h
    rw [hQ]
    exact q_iret cx dX8_pass_11

abbrev rm_X8_askBehind : Room := { frames := 4, cells := 0, slots := 0, locals := 127 }
def fn_X8_askBehind (M : QM) (ths : Nat) (p1 : Int32) : Option QM :=
  gR M ths 8 7 fun r1 =>
  gR M ths 8 0 fun r5 =>
  gR M r5 5 0 fun r8 =>
  ck M r1 2 <|
  bnd (fn_X2_become M r1 r8) fun M11 =>
  gR M11 ths 8 7 fun r15 =>
  gR M11 ths 8 0 fun r20 =>
  gR M11 r20 5 7 fun r23 =>
  ck M11 r15 2 <|
  bnd (fn_X2_ripen M11 r15 p1 r23) fun M26 =>
  some M26
set_option maxRecDepth 100000 in
set_option maxHeartbeats 4000000 in
theorem ct_X8_askBehind (Γ : GT) (l : Launch) (M : QM) (ths : Nat) (p1 : Int32) (ht0 : mt M ths = 8) (M' : QM) (h : fn_X8_askBehind M ths p1 = some M') : CT Γ l yX8_askBehind cX8_askBehind 2 none rm_X8_askBehind (.ref ths :: [.int p1]) M none M' := by
  refine ct_intro (own := RX8) (L := [(0, .ref ths), (1, .int p1)]) (by decide +kernel) rfl (Nat.le_of_ble_eq_true rfl) rfl ?_
  intro p e s m args below meth c Q hQ cx hnm
  unfold fn_X8_askBehind at h
  refine q_aload_n cx (pc' := 1) 0 rfl dX8_askBehind_0 rfl ?_
  obtain ⟨ht1, r1, ex1, h⟩ := gR_i h
  refine q_gR cx (pc' := 4) 8 7 fl_X8_44 rfl ht1 ex1 dX8_askBehind_1 rfl ?_
  refine q_aload_n cx (pc' := 5) 0 rfl dX8_askBehind_4 rfl ?_
  obtain ⟨ht5, r5, ex5, h⟩ := gR_i h
  refine q_gR cx (pc' := 8) 8 0 fl_X8_12 rfl ht5 ex5 dX8_askBehind_5 rfl ?_
  obtain ⟨ht8, r8, ex8, h⟩ := gR_i h
  refine q_gR cx (pc' := 11) 5 0 fl_X8_98 rfl ht8 ex8 dX8_askBehind_8 rfl ?_
  obtain ⟨hk11, h⟩ := ck_i h
  obtain ⟨M11, hc11, h⟩ := bnd_i h
  refine q_callV cx (pc' := 14) (S := []) (S1 := []) (kc' := 0) (ks' := 0) 2 (ct_X2_become Γ l M r1 r8 hk11 _ hc11) lki_X2_become lkv_X2_become lkc_X8_190 hk11 (r := (RX2, TX2, 2)) ⟨rfl, by decide, rfl⟩ rfl rfl (Nat.le_of_ble_eq_true rfl) ⟨(Nat.le_of_ble_eq_true rfl), (Nat.le_of_ble_eq_true rfl)⟩ ⟨(Nat.le_of_ble_eq_true rfl), (Nat.le_of_ble_eq_true rfl)⟩ dX8_askBehind_11 rfl rfl rfl ?_
  refine q_aload_n cx (pc' := 15) 0 rfl dX8_askBehind_14 rfl ?_
  obtain ⟨ht15, r15, ex15, h⟩ := gR_i h
  refine q_gR cx (pc' := 18) 8 7 fl_X8_44 rfl ht15 ex15 dX8_askBehind_15 rfl ?_
  refine q_iload_n cx (pc' := 19) 1 rfl dX8_askBehind_18 rfl ?_
  refine q_aload_n cx (pc' := 20) 0 rfl dX8_askBehind_19 rfl ?_
  obtain ⟨ht20, r20, ex20, h⟩ := gR_i h
  refine q_gR cx (pc' := 23) 8 0 fl_X8_12 rfl ht20 ex20 dX8_askBehind_20 rfl ?_
  obtain ⟨ht23, r23, ex23, h⟩ := gR_i h
  refine q_gR cx (pc' := 26) 5 7 fl_X8_64 rfl ht23 ex23 dX8_askBehind_23 rfl ?_
  obtain ⟨hk26, h⟩ := ck_i h
  obtain ⟨M26, hc26, h⟩ := bnd_i h
  refine q_callV cx (pc' := 29) (S := []) (S1 := []) (kc' := 0) (ks' := 0) 2 (ct_X2_ripen Γ l M11 r15 p1 r23 hk26 _ hc26) lki_X2_ripen lkv_X2_ripen lkc_X8_182 hk26 (r := (RX2, TX2, 2)) ⟨rfl, by decide, rfl⟩ rfl rfl (Nat.le_of_ble_eq_true rfl) ⟨(Nat.le_of_ble_eq_true rfl), (Nat.le_of_ble_eq_true rfl)⟩ ⟨(Nat.le_of_ble_eq_true rfl), (Nat.le_of_ble_eq_true rfl)⟩ dX8_askBehind_26 rfl rfl rfl ?_
  obtain rfl := o1_i h
  rw [hQ]
  exact q_vret cx dX8_askBehind_29

abbrev rm_X8_on : Room := { frames := 6, cells := 0, slots := 0, locals := 172 }
def jn_X8_on_18 (ths : Nat) (p1 : Int32) (p2 : Int32) (Mj_18 : QM) : Option (Int32 × QM) :=
  if (fn_X8_isUpTo p1 60) = 0 then
    some ((-2), Mj_18)
  else
    ck Mj_18 ths 8 <|
    bnd (fn_X8_askBehind Mj_18 ths p1) fun M32 =>
    if p2 = 0 then
      gR M32 ths 8 0 fun r40 =>
      gR M32 ths 8 7 fun r44 =>
      ck M32 r40 5 <|
      bnd (fn_X5_crossers M32 r40 r44) fun c47 =>
      some (c47, M32)
    else
      gR M32 ths 8 7 fun r54 =>
      gR M32 r54 2 0 fun r57 =>
      aI M32 20 r57 (p2 - 10) fun x64 =>
      some (x64, M32)
def fn_X8_on (M : QM) (ths : Nat) (p1 : Int32) (p2 : Int32) : Option (Int32 × QM) :=
  if p2 = 0 then
    jn_X8_on_18 ths p1 p2 M
  else
    if p2 < 10 then
      some ((-1), M)
    else
      if p2 < 26 then
        jn_X8_on_18 ths p1 p2 M
      else
        some ((-1), M)
set_option maxRecDepth 100000 in
set_option maxHeartbeats 4000000 in
theorem ct_X8_on (Γ : GT) (l : Launch) (M : QM) (ths : Nat) (p1 : Int32) (p2 : Int32) (ht0 : mt M ths = 8) (z : Int32) (M' : QM) (h : fn_X8_on M ths p1 p2 = some (z, M')) : CT Γ l yX8_on cX8_on 3 (some .int) rm_X8_on (.ref ths :: [.int p1, .int p2]) M (some (.int z)) M' := by
  refine ct_intro (own := RX8) (L := [(0, .ref ths), (1, .int p1), (2, .int p2)]) (by decide +kernel) rfl (Nat.le_of_ble_eq_true rfl) rfl ?_
  intro p e s m args below meth c Q hQ cx hnm
  unfold fn_X8_on at h
  have hj18 : ∀ (Mj_18 : QM), jn_X8_on_18 ths p1 p2 Mj_18 = some (z, M') → EE p l e rm_X8_on s m args below meth c Q Γ 3 0 0 18 [(0, .ref ths), (1, .int p1), (2, .int p2)] [] Mj_18 := by
    intro Mj_18 h
    unfold jn_X8_on_18 at h
    refine q_iload_n cx (pc' := 19) 1 rfl dX8_on_18 rfl ?_
    refine q_bipush cx (pc' := 21) kb_60 dX8_on_19 rfl ?_
    refine q_callS cx (pc' := 24) (S := []) (S1 := [.int (fn_X8_isUpTo p1 60)]) (kc' := 0) (ks' := 0) (ct_X8_isUpTo Γ l Mj_18 p1 60) lki_X8_isUpTo lkv_X8_isUpTo lkc_X8_179 rfl rfl (Nat.le_of_ble_eq_true rfl) ⟨(Nat.le_of_ble_eq_true rfl), (Nat.le_of_ble_eq_true rfl)⟩ ⟨(Nat.le_of_ble_eq_true rfl), (Nat.le_of_ble_eq_true rfl)⟩ dX8_on_21 rfl rfl rfl ?_
    refine q_if_ne cx (pc' := 27) (tgt := 30) dX8_on_24 (by decide) rfl (fun c24 => ?_) (fun c24 => ?_)
    · replace h := ine c24 h
      refine q_aload_n cx (pc' := 31) 0 rfl dX8_on_30 rfl ?_
      refine q_iload_n cx (pc' := 32) 1 rfl dX8_on_31 rfl ?_
      obtain ⟨hk32, h⟩ := ck_i h
      obtain ⟨M32, hc32, h⟩ := bnd_i h
      refine q_callV cx (pc' := 35) (S := []) (S1 := []) (kc' := 0) (ks' := 0) 8 (ct_X8_askBehind Γ l Mj_18 ths p1 hk32 _ hc32) lki_X8_askBehind lkv_X8_askBehind lkc_X8_186 hk32 (r := (RX8, TX8, 10)) ⟨rfl, by decide, rfl⟩ rfl rfl (Nat.le_of_ble_eq_true rfl) ⟨(Nat.le_of_ble_eq_true rfl), (Nat.le_of_ble_eq_true rfl)⟩ ⟨(Nat.le_of_ble_eq_true rfl), (Nat.le_of_ble_eq_true rfl)⟩ dX8_on_32 rfl rfl rfl ?_
      refine q_iload_n cx (pc' := 36) 2 rfl dX8_on_35 rfl ?_
      refine q_if_ne cx (pc' := 39) (tgt := 53) dX8_on_36 (by decide) rfl (fun c36 => ?_) (fun c36 => ?_)
      · replace h := ine c36 h
        refine q_aload_n cx (pc' := 54) 0 rfl dX8_on_53 rfl ?_
        obtain ⟨ht54, r54, ex54, h⟩ := gR_i h
        refine q_gR cx (pc' := 57) 8 7 fl_X8_44 rfl ht54 ex54 dX8_on_54 rfl ?_
        obtain ⟨ht57, r57, ex57, h⟩ := gR_i h
        refine q_gR cx (pc' := 60) 2 0 fl_X8_115 rfl ht57 ex57 dX8_on_57 rfl ?_
        refine q_iload_n cx (pc' := 61) 2 rfl dX8_on_60 rfl ?_
        refine q_bipush cx (pc' := 63) kb_10 dX8_on_61 rfl ?_
        refine q_isub cx (pc' := 64) dX8_on_63 rfl ?_
        obtain ⟨ht64, hi64, x64, ex64, h⟩ := aI_i h
        refine q_iald cx (pc' := 65) ht64 hi64 ex64 dX8_on_64 rfl ?_
        obtain ⟨rfl, rfl⟩ := o2_i h
        rw [hQ]
        exact q_iret cx dX8_on_65
      · replace h := ip c36 h
        refine q_aload_n cx (pc' := 40) 0 rfl dX8_on_39 rfl ?_
        obtain ⟨ht40, r40, ex40, h⟩ := gR_i h
        refine q_gR cx (pc' := 43) 8 0 fl_X8_12 rfl ht40 ex40 dX8_on_40 rfl ?_
        refine q_aload_n cx (pc' := 44) 0 rfl dX8_on_43 rfl ?_
        obtain ⟨ht44, r44, ex44, h⟩ := gR_i h
        refine q_gR cx (pc' := 47) 8 7 fl_X8_44 rfl ht44 ex44 dX8_on_44 rfl ?_
        obtain ⟨hk47, h⟩ := ck_i h
        obtain ⟨c47, hc47, h⟩ := bnd_i h
        refine q_callV cx (pc' := 50) (S := []) (S1 := [.int c47]) (kc' := 0) (ks' := 0) 5 (ct_X5_crossers Γ l M32 r40 r44 hk47 _ hc47) lki_X5_crossers lkv_X5_crossers lkc_X8_168 hk47 (r := (RX5, TX5, 8)) ⟨rfl, by decide, rfl⟩ rfl rfl (Nat.le_of_ble_eq_true rfl) ⟨(Nat.le_of_ble_eq_true rfl), (Nat.le_of_ble_eq_true rfl)⟩ ⟨(Nat.le_of_ble_eq_true rfl), (Nat.le_of_ble_eq_true rfl)⟩ dX8_on_47 rfl rfl rfl ?_
        refine q_goto cx dX8_on_50 (tgt := 65) (by decide) ?_
        obtain ⟨rfl, rfl⟩ := o2_i h
        rw [hQ]
        exact q_iret cx dX8_on_65
    · replace h := ip c24 h
      refine q_bipush cx (pc' := 29) kb_m2 dX8_on_27 rfl ?_
      obtain ⟨rfl, rfl⟩ := o2_i h
      rw [hQ]
      exact q_iret cx dX8_on_29
  refine q_iload_n cx (pc' := 1) 2 rfl dX8_on_0 rfl ?_
  refine q_if_eq cx (pc' := 4) (tgt := 18) dX8_on_1 (by decide) rfl (fun c1 => ?_) (fun c1 => ?_)
  · replace h := ip c1 h
    refine q_sub cx [0, 1, 2] rfl ?_
    exact hj18 _ h
  · replace h := ine c1 h
    refine q_iload_n cx (pc' := 5) 2 rfl dX8_on_4 rfl ?_
    refine q_bipush cx (pc' := 7) kb_10 dX8_on_5 rfl ?_
    refine q_icmp_lt cx (pc' := 10) (tgt := 16) dX8_on_7 (by decide) rfl (fun c7 => ?_) (fun c7 => ?_)
    · replace h := ip c7 h
      refine q_iconst cx (pc' := 17) ki_m1 dX8_on_16 rfl ?_
      obtain ⟨rfl, rfl⟩ := o2_i h
      rw [hQ]
      exact q_iret cx dX8_on_17
    · replace h := ine c7 h
      refine q_iload_n cx (pc' := 11) 2 rfl dX8_on_10 rfl ?_
      refine q_bipush cx (pc' := 13) kb_26 dX8_on_11 rfl ?_
      refine q_icmp_lt cx (pc' := 16) (tgt := 18) dX8_on_13 (by decide) rfl (fun c13 => ?_) (fun c13 => ?_)
      · replace h := ip c13 h
        refine q_sub cx [0, 1, 2] rfl ?_
        exact hj18 _ h
      · replace h := ine c13 h
        refine q_iconst cx (pc' := 17) ki_m1 dX8_on_16 rfl ?_
        obtain ⟨rfl, rfl⟩ := o2_i h
        rw [hQ]
        exact q_iret cx dX8_on_17

abbrev rm_X8_soon : Room := { frames := 5, cells := 0, slots := 0, locals := 149 }
def lp_X8_soon_31 (ths : Nat) (r10 : Nat) (w3_31 : Int32) (Mw_31 : QM) : Option ((Int32 × QM) ⊕ (Int32 × QM)) :=
  if 60 < w3_31 then
    some (.inr ((-5), Mw_31))
  else
    gR Mw_31 ths 8 7 fun r39 =>
    gR Mw_31 ths 8 0 fun r43 =>
    gR Mw_31 r43 5 7 fun r46 =>
    gI Mw_31 r46 1 1 fun x49 =>
    ck Mw_31 r10 7 <|
    bnd (fn_X7_crossing Mw_31 r10 r39 x49) fun c52 =>
    if c52 < 0 then
      gR Mw_31 ths 8 7 fun r61 =>
      gR Mw_31 ths 8 0 fun r66 =>
      gR Mw_31 r66 5 7 fun r69 =>
      ck Mw_31 r61 2 <|
      bnd (fn_X2_ripen Mw_31 r61 1 r69) fun M72 =>
      nm (w3_31 + 1) fun v3_75 =>
      some (.inl (v3_75, M72))
    else
      some (.inr (w3_31, Mw_31))
def fn_X8_soon (M : QM) (ths : Nat) (p1 : Int32) : Option (Int32 × QM) :=
  gR M ths 8 0 fun r1 =>
  ck M r1 5 <|
  bnd (fn_X5_walkerAt M r1 p1) fun c5 =>
  cnul c5 (
    some ((-1), M)) fun r10 =>
  gR M ths 8 7 fun r16 =>
  gR M ths 8 0 fun r20 =>
  gR M r20 5 0 fun r23 =>
  ck M r16 2 <|
  bnd (fn_X2_become M r16 r23) fun M26 =>
  bnd (itr (fun s31 : Int32 × QM => lp_X8_soon_31 ths r10 s31.1 s31.2) FU (0, M26)) fun r31 =>
  pr2 r31 fun re_31 Mr_31 =>
  some (re_31, Mr_31)
set_option maxRecDepth 100000 in
set_option maxHeartbeats 4000000 in
theorem ct_X8_soon (Γ : GT) (l : Launch) (M : QM) (ths : Nat) (p1 : Int32) (ht0 : mt M ths = 8) (z : Int32) (M' : QM) (h : fn_X8_soon M ths p1 = some (z, M')) : CT Γ l yX8_soon cX8_soon 4 (some .int) rm_X8_soon (.ref ths :: [.int p1]) M (some (.int z)) M' := by
  refine ct_intro (own := RX8) (L := [(0, .ref ths), (1, .int p1)]) (by decide +kernel) rfl (Nat.le_of_ble_eq_true rfl) rfl ?_
  intro p e s m args below meth c Q hQ cx hnm
  unfold fn_X8_soon at h
  refine q_aload_n cx (pc' := 1) 0 rfl dX8_soon_0 rfl ?_
  obtain ⟨ht1, r1, ex1, h⟩ := gR_i h
  refine q_gR cx (pc' := 4) 8 0 fl_X8_12 rfl ht1 ex1 dX8_soon_1 rfl ?_
  refine q_iload_n cx (pc' := 5) 1 rfl dX8_soon_4 rfl ?_
  obtain ⟨hk5, h⟩ := ck_i h
  obtain ⟨c5, hc5, h⟩ := bnd_i h
  refine q_callV cx (pc' := 8) (S := []) (S1 := [va_rf c5]) (kc' := 0) (ks' := 0) 5 (ct_X5_walkerAt Γ l M r1 p1 hk5 _ hc5) lki_X5_walkerAt lkv_X5_walkerAt lkc_X8_85 hk5 (r := (RX5, TX5, 8)) ⟨rfl, by decide, rfl⟩ rfl rfl (Nat.le_of_ble_eq_true rfl) ⟨(Nat.le_of_ble_eq_true rfl), (Nat.le_of_ble_eq_true rfl)⟩ ⟨(Nat.le_of_ble_eq_true rfl), (Nat.le_of_ble_eq_true rfl)⟩ dX8_soon_5 rfl rfl rfl ?_
  refine q_astore_nO cx (pc' := 9) rfl rfl (by decide) (L' := [(2, va_rf c5), (0, .ref ths), (1, .int p1)]) rfl dX8_soon_8 rfl ?_
  refine q_aload_nO cx (pc' := 10) 0 rfl dX8_soon_9 rfl ?_
  rcases c5 with _ | r10
  · replace h := cnul_n h
    refine q_ifnonnull_null cx (pc' := 13) dX8_soon_10 rfl ?_
    refine q_iconst cx (pc' := 14) ki_m1 dX8_soon_13 rfl ?_
    obtain ⟨rfl, rfl⟩ := o2_i h
    rw [hQ]
    exact q_iret cx dX8_soon_14
  · replace h := cnul_s h
    refine q_ifnonnull_ref cx dX8_soon_10 (tgt := 15) (by decide) ?_
    refine q_aload_n cx (pc' := 16) 1 rfl dX8_soon_15 rfl ?_
    obtain ⟨ht16, r16, ex16, h⟩ := gR_i h
    refine q_gR cx (pc' := 19) 8 7 fl_X8_44 rfl ht16 ex16 dX8_soon_16 rfl ?_
    refine q_aload_n cx (pc' := 20) 1 rfl dX8_soon_19 rfl ?_
    obtain ⟨ht20, r20, ex20, h⟩ := gR_i h
    refine q_gR cx (pc' := 23) 8 0 fl_X8_12 rfl ht20 ex20 dX8_soon_20 rfl ?_
    obtain ⟨ht23, r23, ex23, h⟩ := gR_i h
    refine q_gR cx (pc' := 26) 5 0 fl_X8_98 rfl ht23 ex23 dX8_soon_23 rfl ?_
    obtain ⟨hk26, h⟩ := ck_i h
    obtain ⟨M26, hc26, h⟩ := bnd_i h
    refine q_callV cx (pc' := 29) (S := []) (S1 := []) (kc' := 0) (ks' := 0) 2 (ct_X2_become Γ l M r16 r23 hk26 _ hc26) lki_X2_become lkv_X2_become lkc_X8_190 hk26 (r := (RX2, TX2, 2)) ⟨rfl, by decide, rfl⟩ rfl rfl (Nat.le_of_ble_eq_true rfl) ⟨(Nat.le_of_ble_eq_true rfl), (Nat.le_of_ble_eq_true rfl)⟩ ⟨(Nat.le_of_ble_eq_true rfl), (Nat.le_of_ble_eq_true rfl)⟩ dX8_soon_26 rfl rfl rfl ?_
    refine q_iconst cx (pc' := 30) ki_0 dX8_soon_29 rfl ?_
    refine q_istore_n cx (pc' := 31) rfl rfl (by decide) (L' := [(3, .int 0), (2, .ref r10), (0, .ref ths), (1, .int p1)]) rfl dX8_soon_30 rfl ?_
    obtain ⟨r31, hL31, h⟩ := bnd_i h
    have hk31_r : ∀ (re_31 : Int32) (Mr_31 : QM), (re_31, Mr_31) = r31 → some (re_31, Mr_31) = some (z, M') := by
      intro re_31 Mr_31 hp
      subst hp
      replace h := pr2_i h
      exact h
    have key31 : ∀ (n : Nat) (w3_31 : Int32) (Mw_31 : QM), itr (fun s31 : Int32 × QM => lp_X8_soon_31 ths r10 s31.1 s31.2) n (w3_31, Mw_31) = some r31 → EE p l e rm_X8_soon s m args below meth c Q Γ 4 0 0 31 [(0, .ref ths), (2, .ref r10), (3, .int w3_31)] [] Mw_31 := by
      intro n
      induction n with
      | zero => intro _ _ h; exact (itr_0 h).elim
      | succ n ih =>
        intro w3_31 Mw_31 h
        obtain ⟨z31, h, hz31⟩ := itr_i h
        replace h : lp_X8_soon_31 ths r10 w3_31 Mw_31 = some z31 := h
        unfold lp_X8_soon_31 at h
        refine q_iload_n cx (pc' := 32) 2 rfl dX8_soon_31 rfl ?_
        refine q_bipush cx (pc' := 34) kb_60 dX8_soon_32 rfl ?_
        refine q_icmp_gt cx (pc' := 37) (tgt := 81) dX8_soon_34 (by decide) rfl (fun c34 => ?_) (fun c34 => ?_)
        · replace h := ip c34 h
          refine q_bipush cx (pc' := 83) kb_m5 dX8_soon_81 rfl ?_
          replace h := hk31_r _ _ (hz31.2 _ h)
          obtain ⟨rfl, rfl⟩ := o2_i h
          rw [hQ]
          exact q_iret cx dX8_soon_83
        · replace h := ine c34 h
          refine q_aload_n cx (pc' := 38) 1 rfl dX8_soon_37 rfl ?_
          refine q_aload_n cx (pc' := 39) 0 rfl dX8_soon_38 rfl ?_
          obtain ⟨ht39, r39, ex39, h⟩ := gR_i h
          refine q_gR cx (pc' := 42) 8 7 fl_X8_44 rfl ht39 ex39 dX8_soon_39 rfl ?_
          refine q_aload_n cx (pc' := 43) 0 rfl dX8_soon_42 rfl ?_
          obtain ⟨ht43, r43, ex43, h⟩ := gR_i h
          refine q_gR cx (pc' := 46) 8 0 fl_X8_12 rfl ht43 ex43 dX8_soon_43 rfl ?_
          obtain ⟨ht46, r46, ex46, h⟩ := gR_i h
          refine q_gR cx (pc' := 49) 5 7 fl_X8_64 rfl ht46 ex46 dX8_soon_46 rfl ?_
          obtain ⟨ht49, x49, ex49, h⟩ := gI_i h
          refine q_gI cx (pc' := 52) 1 1 fl_X8_101 rfl ht49 ex49 dX8_soon_49 rfl ?_
          obtain ⟨hk52, h⟩ := ck_i h
          obtain ⟨c52, hc52, h⟩ := bnd_i h
          refine q_callV cx (pc' := 55) (S := []) (S1 := [.int c52]) (kc' := 0) (ks' := 0) 7 (ct_X7_crossing Γ l Mw_31 r10 r39 x49 hk52 _ hc52) lki_X7_crossing lkv_X7_crossing lkc_X8_104 hk52 (r := (RX7, TX7, 4)) ⟨rfl, by decide, rfl⟩ rfl rfl (Nat.le_of_ble_eq_true rfl) ⟨(Nat.le_of_ble_eq_true rfl), (Nat.le_of_ble_eq_true rfl)⟩ ⟨(Nat.le_of_ble_eq_true rfl), (Nat.le_of_ble_eq_true rfl)⟩ dX8_soon_52 rfl rfl rfl ?_
          refine q_if_lt cx (pc' := 58) (tgt := 60) dX8_soon_55 (by decide) rfl (fun c55 => ?_) (fun c55 => ?_)
          · replace h := ip c55 h
            refine q_aload_n cx (pc' := 61) 0 rfl dX8_soon_60 rfl ?_
            obtain ⟨ht61, r61, ex61, h⟩ := gR_i h
            refine q_gR cx (pc' := 64) 8 7 fl_X8_44 rfl ht61 ex61 dX8_soon_61 rfl ?_
            refine q_iconst cx (pc' := 65) ki_1 dX8_soon_64 rfl ?_
            refine q_aload_n cx (pc' := 66) 0 rfl dX8_soon_65 rfl ?_
            obtain ⟨ht66, r66, ex66, h⟩ := gR_i h
            refine q_gR cx (pc' := 69) 8 0 fl_X8_12 rfl ht66 ex66 dX8_soon_66 rfl ?_
            obtain ⟨ht69, r69, ex69, h⟩ := gR_i h
            refine q_gR cx (pc' := 72) 5 7 fl_X8_64 rfl ht69 ex69 dX8_soon_69 rfl ?_
            obtain ⟨hk72, h⟩ := ck_i h
            obtain ⟨M72, hc72, h⟩ := bnd_i h
            refine q_callV cx (pc' := 75) (S := []) (S1 := []) (kc' := 0) (ks' := 0) 2 (ct_X2_ripen Γ l Mw_31 r61 1 r69 hk72 _ hc72) lki_X2_ripen lkv_X2_ripen lkc_X8_182 hk72 (r := (RX2, TX2, 2)) ⟨rfl, by decide, rfl⟩ rfl rfl (Nat.le_of_ble_eq_true rfl) ⟨(Nat.le_of_ble_eq_true rfl), (Nat.le_of_ble_eq_true rfl)⟩ ⟨(Nat.le_of_ble_eq_true rfl), (Nat.le_of_ble_eq_true rfl)⟩ dX8_soon_72 rfl rfl rfl ?_
            obtain ⟨v3_75, ev3_75, h⟩ := nm_i h
            refine q_iinc cx (pc' := 78) 2 rfl ki_1 ev3_75 (by decide) (L' := [(3, .int v3_75), (0, .ref ths), (2, .ref r10)]) rfl dX8_soon_75 rfl ?_
            refine q_goto cx dX8_soon_78 (tgt := 31) (by decide) ?_
            refine q_sub cx [1, 2, 0] rfl ?_
            exact ih _ _ (hz31.1 _ h)
          · replace h := ine c55 h
            refine q_iload_n cx (pc' := 59) 2 rfl dX8_soon_58 rfl ?_
            replace h := hk31_r _ _ (hz31.2 _ h)
            obtain ⟨rfl, rfl⟩ := o2_i h
            rw [hQ]
            exact q_iret cx dX8_soon_59
    refine q_sub cx [2, 1, 0] rfl ?_
    exact key31 FU _ _ hL31

abbrev rm_X8_firstAt : Room := { frames := 3, cells := 0, slots := 0, locals := 88 }
def lp_X8_firstAt_3 (p0 : Int32) (p1 : Int32) (p2 : Int32) (p3 : Int32) (w4_3 : Int32) : Option ((Int32) ⊕ (Int32)) :=
  if 16 ≤ w4_3 then
    some (.inr (-5))
  else
    if (p0 &&& (1 <<< (w4_3 &&& 31))) = 0 then
      nm (w4_3 + 1) fun v4_37 =>
      some (.inl v4_37)
    else
      bnd (fn_X8_fewest (1 <<< (w4_3 &&& 31)) 34952 p2 p3) fun c27 =>
      if c27 = p1 then
        some (.inr w4_3)
      else
        nm (w4_3 + 1) fun v4_37 =>
        some (.inl v4_37)
def fn_X8_firstAt (p0 : Int32) (p1 : Int32) (p2 : Int32) (p3 : Int32) : Option Int32 :=
  bnd (itr (fun s3 : Int32 => lp_X8_firstAt_3 p0 p1 p2 p3 s3) FU 0) fun re_3 =>
  some re_3
set_option maxRecDepth 100000 in
set_option maxHeartbeats 4000000 in
theorem ct_X8_firstAt (Γ : GT) (l : Launch) (M : QM) (p0 : Int32) (p1 : Int32) (p2 : Int32) (p3 : Int32) (z : Int32) (h : fn_X8_firstAt p0 p1 p2 p3 = some z) : CT Γ l yX8_firstAt cX8_firstAt 5 (some .int) rm_X8_firstAt [.int p0, .int p1, .int p2, .int p3] M (some (.int z)) M := by
  refine ct_intro (own := RX8) (L := [(0, .int p0), (1, .int p1), (2, .int p2), (3, .int p3)]) (by decide +kernel) rfl (Nat.le_of_ble_eq_true rfl) rfl ?_
  intro p e s m args below meth c Q hQ cx hnm
  unfold fn_X8_firstAt at h
  refine q_iconst cx (pc' := 1) ki_0 dX8_firstAt_0 rfl ?_
  refine q_istore cx (pc' := 3) rfl (by decide) (L' := [(4, .int 0), (0, .int p0), (1, .int p1), (2, .int p2), (3, .int p3)]) rfl dX8_firstAt_1 rfl ?_
  obtain ⟨r3, hL3, h⟩ := bnd_i h
  have hk3_r : ∀ (re_3 : Int32), re_3 = r3 → some re_3 = some z := by
    intro re_3 hp
    subst hp
    exact h
  have key3 : ∀ (n : Nat) (w4_3 : Int32), itr (fun s3 : Int32 => lp_X8_firstAt_3 p0 p1 p2 p3 s3) n w4_3 = some r3 → EE p l e rm_X8_firstAt s m args below meth c Q Γ 5 0 0 3 [(0, .int p0), (1, .int p1), (2, .int p2), (3, .int p3), (4, .int w4_3)] [] M := by
    intro n
    induction n with
    | zero => intro _ h; exact (itr_0 h).elim
    | succ n ih =>
      intro w4_3 h
      obtain ⟨z3, h, hz3⟩ := itr_i h
      replace h : lp_X8_firstAt_3 p0 p1 p2 p3 w4_3 = some z3 := h
      unfold lp_X8_firstAt_3 at h
      refine q_iload cx (pc' := 5) 4 rfl dX8_firstAt_3 rfl ?_
      refine q_bipush cx (pc' := 7) kb_16 dX8_firstAt_5 rfl ?_
      refine q_icmp_ge cx (pc' := 10) (tgt := 43) dX8_firstAt_7 (by decide) rfl (fun c7 => ?_) (fun c7 => ?_)
      · replace h := ip c7 h
        refine q_bipush cx (pc' := 45) kb_m5 dX8_firstAt_43 rfl ?_
        replace h := hk3_r _ (hz3.2 _ h)
        obtain rfl := o1_i h
        rw [hQ]
        exact q_iret cx dX8_firstAt_45
      · replace h := ine c7 h
        refine q_iload_n cx (pc' := 11) 0 rfl dX8_firstAt_10 rfl ?_
        refine q_iconst cx (pc' := 12) ki_1 dX8_firstAt_11 rfl ?_
        refine q_iload cx (pc' := 14) 4 rfl dX8_firstAt_12 rfl ?_
        refine q_ishl cx (pc' := 15) dX8_firstAt_14 rfl ?_
        refine q_iand cx (pc' := 16) dX8_firstAt_15 rfl ?_
        refine q_if_eq cx (pc' := 19) (tgt := 37) dX8_firstAt_16 (by decide) rfl (fun c16 => ?_) (fun c16 => ?_)
        · replace h := ip c16 h
          obtain ⟨v4_37, ev4_37, h⟩ := nm_i h
          refine q_iinc cx (pc' := 40) 4 rfl ki_1 ev4_37 (by decide) (L' := [(4, .int v4_37), (0, .int p0), (1, .int p1), (2, .int p2), (3, .int p3)]) rfl dX8_firstAt_37 rfl ?_
          refine q_goto cx dX8_firstAt_40 (tgt := 3) (by decide) ?_
          refine q_sub cx [1, 2, 3, 4, 0] rfl ?_
          exact ih _ (hz3.1 _ h)
        · replace h := ine c16 h
          refine q_iconst cx (pc' := 20) ki_1 dX8_firstAt_19 rfl ?_
          refine q_iload cx (pc' := 22) 4 rfl dX8_firstAt_20 rfl ?_
          refine q_ishl cx (pc' := 23) dX8_firstAt_22 rfl ?_
          refine q_ldc cx (pc' := 25) aw_94 dX8_firstAt_23 rfl ?_
          refine q_iload_n cx (pc' := 26) 2 rfl dX8_firstAt_25 rfl ?_
          refine q_iload_n cx (pc' := 27) 3 rfl dX8_firstAt_26 rfl ?_
          obtain ⟨c27, hc27, h⟩ := bnd_i h
          refine q_callS cx (pc' := 30) (S := []) (S1 := [.int c27]) (kc' := 0) (ks' := 0) (ct_X8_fewest Γ l M (1 <<< (w4_3 &&& 31)) 34952 p2 p3 _ hc27) lki_X8_fewest lkv_X8_fewest lkc_X8_201 rfl rfl (Nat.le_of_ble_eq_true rfl) ⟨(Nat.le_of_ble_eq_true rfl), (Nat.le_of_ble_eq_true rfl)⟩ ⟨(Nat.le_of_ble_eq_true rfl), (Nat.le_of_ble_eq_true rfl)⟩ dX8_firstAt_27 rfl rfl rfl ?_
          refine q_iload_n cx (pc' := 31) 1 rfl dX8_firstAt_30 rfl ?_
          refine q_icmp_ne cx (pc' := 34) (tgt := 37) dX8_firstAt_31 (by decide) rfl (fun c31 => ?_) (fun c31 => ?_)
          · replace h := ine c31 h
            obtain ⟨v4_37, ev4_37, h⟩ := nm_i h
            refine q_iinc cx (pc' := 40) 4 rfl ki_1 ev4_37 (by decide) (L' := [(4, .int v4_37), (0, .int p0), (1, .int p1), (2, .int p2), (3, .int p3)]) rfl dX8_firstAt_37 rfl ?_
            refine q_goto cx dX8_firstAt_40 (tgt := 3) (by decide) ?_
            refine q_sub cx [1, 2, 3, 4, 0] rfl ?_
            exact ih _ (hz3.1 _ h)
          · replace h := ip c31 h
            refine q_iload cx (pc' := 36) 4 rfl dX8_firstAt_34 rfl ?_
            replace h := hk3_r _ (hz3.2 _ h)
            obtain rfl := o1_i h
            rw [hQ]
            exact q_iret cx dX8_firstAt_36
  refine q_sub cx [1, 2, 3, 4, 0] rfl ?_
  exact key3 FU _ hL3

abbrev rm_X8_way : Room := { frames := 4, cells := 0, slots := 0, locals := 127 }
def lp_X8_way_91 (M : QM) (p2 : Int32) (c42 : Int32) (c58 : Int32) (r10 : Nat) (w6_91 : Int32) (w7_91 : Int32) : Option ((Int32 × Int32) ⊕ (Int32)) :=
  if p2 ≤ w7_91 then
    some (.inr w6_91)
  else
    if w6_91 < 0 then
      some (.inr w6_91)
    else
      ck M r10 7 <|
      bnd (fn_X7_leaps M r10) fun c107 =>
      ck M r10 7 <|
      bnd (fn_X7_leaps M r10) fun c123 =>
      bnd (fn_X8_firstAt (fn_X8_around (1 <<< (w6_91 &&& 31)) c107) ((c58 - w7_91) - 1) c42 c123) fun c126 =>
      nm (w7_91 + 1) fun v7_131 =>
      some (.inl (c126, v7_131))
def fn_X8_way (M : QM) (ths : Nat) (p1 : Int32) (p2 : Int32) : Option Int32 :=
  gR M ths 8 0 fun r1 =>
  ck M r1 5 <|
  bnd (fn_X5_walkerAt M r1 p1) fun c5 =>
  cnul c5 (
    some (-1)) fun r10 =>
  if (fn_X8_isBelow p2 16) = 0 then
    some (-1)
  else
    gR M ths 8 0 fun r26 =>
    gR M r26 5 0 fun r29 =>
    gR M ths 8 0 fun r33 =>
    gR M r33 5 7 fun r36 =>
    gI M r36 1 1 fun x39 =>
    ck M r10 7 <|
    bnd (fn_X7_bearers M r10 r29 x39) fun c42 =>
    ck M r10 7 <|
    bnd (fn_X7_leaps M r10) fun c55 =>
    bnd (fn_X8_fewest 4369 34952 c42 c55) fun c58 =>
    if p2 ≤ c58 then
      ck M r10 7 <|
      bnd (fn_X7_leaps M r10) fun c80 =>
      bnd (fn_X8_firstAt 4369 c58 c42 c80) fun c83 =>
      bnd (itr (fun s91 : Int32 × Int32 => lp_X8_way_91 M p2 c42 c58 r10 s91.1 s91.2) FU (c83, 0)) fun re_91 =>
      some re_91
    else
      some (-5)
set_option maxRecDepth 100000 in
set_option maxHeartbeats 4000000 in
theorem ct_X8_way (Γ : GT) (l : Launch) (M : QM) (ths : Nat) (p1 : Int32) (p2 : Int32) (ht0 : mt M ths = 8) (z : Int32) (h : fn_X8_way M ths p1 p2 = some z) : CT Γ l yX8_way cX8_way 8 (some .int) rm_X8_way (.ref ths :: [.int p1, .int p2]) M (some (.int z)) M := by
  refine ct_intro (own := RX8) (L := [(0, .ref ths), (1, .int p1), (2, .int p2)]) (by decide +kernel) rfl (Nat.le_of_ble_eq_true rfl) rfl ?_
  intro p e s m args below meth c Q hQ cx hnm
  unfold fn_X8_way at h
  refine q_aload_n cx (pc' := 1) 0 rfl dX8_way_0 rfl ?_
  obtain ⟨ht1, r1, ex1, h⟩ := gR_i h
  refine q_gR cx (pc' := 4) 8 0 fl_X8_12 rfl ht1 ex1 dX8_way_1 rfl ?_
  refine q_iload_n cx (pc' := 5) 1 rfl dX8_way_4 rfl ?_
  obtain ⟨hk5, h⟩ := ck_i h
  obtain ⟨c5, hc5, h⟩ := bnd_i h
  refine q_callV cx (pc' := 8) (S := []) (S1 := [va_rf c5]) (kc' := 0) (ks' := 0) 5 (ct_X5_walkerAt Γ l M r1 p1 hk5 _ hc5) lki_X5_walkerAt lkv_X5_walkerAt lkc_X8_85 hk5 (r := (RX5, TX5, 8)) ⟨rfl, by decide, rfl⟩ rfl rfl (Nat.le_of_ble_eq_true rfl) ⟨(Nat.le_of_ble_eq_true rfl), (Nat.le_of_ble_eq_true rfl)⟩ ⟨(Nat.le_of_ble_eq_true rfl), (Nat.le_of_ble_eq_true rfl)⟩ dX8_way_5 rfl rfl rfl ?_
  refine q_astore_nO cx (pc' := 9) rfl rfl (by decide) (L' := [(3, va_rf c5), (0, .ref ths), (1, .int p1), (2, .int p2)]) rfl dX8_way_8 rfl ?_
  refine q_aload_nO cx (pc' := 10) 0 rfl dX8_way_9 rfl ?_
  rcases c5 with _ | r10
  · replace h := cnul_n h
    refine q_ifnull_null cx dX8_way_10 (tgt := 22) (by decide) ?_
    refine q_iconst cx (pc' := 23) ki_m1 dX8_way_22 rfl ?_
    obtain rfl := o1_i h
    rw [hQ]
    exact q_iret cx dX8_way_23
  · replace h := cnul_s h
    refine q_ifnull_ref cx (pc' := 13) dX8_way_10 rfl ?_
    refine q_iload_n cx (pc' := 14) 3 rfl dX8_way_13 rfl ?_
    refine q_bipush cx (pc' := 16) kb_16 dX8_way_14 rfl ?_
    refine q_callS cx (pc' := 19) (S := []) (S1 := [.int (fn_X8_isBelow p2 16)]) (kc' := 0) (ks' := 0) (ct_X8_isBelow Γ l M p2 16) lki_X8_isBelow lkv_X8_isBelow lkc_X8_69 rfl rfl (Nat.le_of_ble_eq_true rfl) ⟨(Nat.le_of_ble_eq_true rfl), (Nat.le_of_ble_eq_true rfl)⟩ ⟨(Nat.le_of_ble_eq_true rfl), (Nat.le_of_ble_eq_true rfl)⟩ dX8_way_16 rfl rfl rfl ?_
    refine q_if_ne cx (pc' := 22) (tgt := 24) dX8_way_19 (by decide) rfl (fun c19 => ?_) (fun c19 => ?_)
    · replace h := ine c19 h
      refine q_aload_n cx (pc' := 25) 0 rfl dX8_way_24 rfl ?_
      refine q_aload_n cx (pc' := 26) 1 rfl dX8_way_25 rfl ?_
      obtain ⟨ht26, r26, ex26, h⟩ := gR_i h
      refine q_gR cx (pc' := 29) 8 0 fl_X8_12 rfl ht26 ex26 dX8_way_26 rfl ?_
      obtain ⟨ht29, r29, ex29, h⟩ := gR_i h
      refine q_gR cx (pc' := 32) 5 0 fl_X8_98 rfl ht29 ex29 dX8_way_29 rfl ?_
      refine q_aload_n cx (pc' := 33) 1 rfl dX8_way_32 rfl ?_
      obtain ⟨ht33, r33, ex33, h⟩ := gR_i h
      refine q_gR cx (pc' := 36) 8 0 fl_X8_12 rfl ht33 ex33 dX8_way_33 rfl ?_
      obtain ⟨ht36, r36, ex36, h⟩ := gR_i h
      refine q_gR cx (pc' := 39) 5 7 fl_X8_64 rfl ht36 ex36 dX8_way_36 rfl ?_
      obtain ⟨ht39, x39, ex39, h⟩ := gI_i h
      refine q_gI cx (pc' := 42) 1 1 fl_X8_101 rfl ht39 ex39 dX8_way_39 rfl ?_
      obtain ⟨hk42, h⟩ := ck_i h
      obtain ⟨c42, hc42, h⟩ := bnd_i h
      refine q_callV cx (pc' := 45) (S := []) (S1 := [.int c42]) (kc' := 0) (ks' := 0) 7 (ct_X7_bearers Γ l M r10 r29 x39 hk42 _ hc42) lki_X7_bearers lkv_X7_bearers lkc_X8_193 hk42 (r := (RX7, TX7, 4)) ⟨rfl, by decide, rfl⟩ rfl rfl (Nat.le_of_ble_eq_true rfl) ⟨(Nat.le_of_ble_eq_true rfl), (Nat.le_of_ble_eq_true rfl)⟩ ⟨(Nat.le_of_ble_eq_true rfl), (Nat.le_of_ble_eq_true rfl)⟩ dX8_way_42 rfl rfl rfl ?_
      refine q_istore cx (pc' := 47) rfl (by decide) (L' := [(4, .int c42), (3, .ref r10), (0, .ref ths), (1, .int p1), (2, .int p2)]) rfl dX8_way_45 rfl ?_
      refine q_sipush cx (pc' := 50) ks_4369 dX8_way_47 rfl ?_
      refine q_ldc cx (pc' := 52) aw_94 dX8_way_50 rfl ?_
      refine q_iload cx (pc' := 54) 0 rfl dX8_way_52 rfl ?_
      refine q_aload_n cx (pc' := 55) 1 rfl dX8_way_54 rfl ?_
      obtain ⟨hk55, h⟩ := ck_i h
      obtain ⟨c55, hc55, h⟩ := bnd_i h
      refine q_callV cx (pc' := 58) (S := [.int c42, .int 34952, .int 4369]) (S1 := [.int c55, .int c42, .int 34952, .int 4369]) (kc' := 0) (ks' := 0) 7 (ct_X7_leaps Γ l M r10 hk55 _ hc55) lki_X7_leaps lkv_X7_leaps lkc_X8_197 hk55 (r := (RX7, TX7, 4)) ⟨rfl, by decide, rfl⟩ rfl rfl (Nat.le_of_ble_eq_true rfl) ⟨(Nat.le_of_ble_eq_true rfl), (Nat.le_of_ble_eq_true rfl)⟩ ⟨(Nat.le_of_ble_eq_true rfl), (Nat.le_of_ble_eq_true rfl)⟩ dX8_way_55 rfl rfl rfl ?_
      obtain ⟨c58, hc58, h⟩ := bnd_i h
      refine q_callS cx (pc' := 61) (S := []) (S1 := [.int c58]) (kc' := 0) (ks' := 0) (ct_X8_fewest Γ l M 4369 34952 c42 c55 _ hc58) lki_X8_fewest lkv_X8_fewest lkc_X8_201 rfl rfl (Nat.le_of_ble_eq_true rfl) ⟨(Nat.le_of_ble_eq_true rfl), (Nat.le_of_ble_eq_true rfl)⟩ ⟨(Nat.le_of_ble_eq_true rfl), (Nat.le_of_ble_eq_true rfl)⟩ dX8_way_58 rfl rfl rfl ?_
      refine q_istore cx (pc' := 63) rfl (by decide) (L' := [(5, .int c58), (4, .int c42), (3, .ref r10), (0, .ref ths), (1, .int p1), (2, .int p2)]) rfl dX8_way_61 rfl ?_
      refine q_iload_n cx (pc' := 64) 5 rfl dX8_way_63 rfl ?_
      refine q_iload cx (pc' := 66) 0 rfl dX8_way_64 rfl ?_
      refine q_icmp_le cx (pc' := 69) (tgt := 72) dX8_way_66 (by decide) rfl (fun c66 => ?_) (fun c66 => ?_)
      · replace h := ip c66 h
        refine q_sipush cx (pc' := 75) ks_4369 dX8_way_72 rfl ?_
        refine q_iload cx (pc' := 77) 0 rfl dX8_way_75 rfl ?_
        refine q_iload cx (pc' := 79) 1 rfl dX8_way_77 rfl ?_
        refine q_aload_n cx (pc' := 80) 2 rfl dX8_way_79 rfl ?_
        obtain ⟨hk80, h⟩ := ck_i h
        obtain ⟨c80, hc80, h⟩ := bnd_i h
        refine q_callV cx (pc' := 83) (S := [.int c42, .int c58, .int 4369]) (S1 := [.int c80, .int c42, .int c58, .int 4369]) (kc' := 0) (ks' := 0) 7 (ct_X7_leaps Γ l M r10 hk80 _ hc80) lki_X7_leaps lkv_X7_leaps lkc_X8_197 hk80 (r := (RX7, TX7, 4)) ⟨rfl, by decide, rfl⟩ rfl rfl (Nat.le_of_ble_eq_true rfl) ⟨(Nat.le_of_ble_eq_true rfl), (Nat.le_of_ble_eq_true rfl)⟩ ⟨(Nat.le_of_ble_eq_true rfl), (Nat.le_of_ble_eq_true rfl)⟩ dX8_way_80 rfl rfl rfl ?_
        obtain ⟨c83, hc83, h⟩ := bnd_i h
        refine q_callS cx (pc' := 86) (S := []) (S1 := [.int c83]) (kc' := 0) (ks' := 0) (ct_X8_firstAt Γ l M 4369 c58 c42 c80 _ hc83) lki_X8_firstAt lkv_X8_firstAt lkc_X8_205 rfl rfl (Nat.le_of_ble_eq_true rfl) ⟨(Nat.le_of_ble_eq_true rfl), (Nat.le_of_ble_eq_true rfl)⟩ ⟨(Nat.le_of_ble_eq_true rfl), (Nat.le_of_ble_eq_true rfl)⟩ dX8_way_83 rfl rfl rfl ?_
        refine q_istore cx (pc' := 88) rfl (by decide) (L' := [(6, .int c83), (5, .int c58), (4, .int c42), (3, .ref r10), (0, .ref ths), (1, .int p1), (2, .int p2)]) rfl dX8_way_86 rfl ?_
        refine q_iconst cx (pc' := 89) ki_0 dX8_way_88 rfl ?_
        refine q_istore cx (pc' := 91) rfl (by decide) (L' := [(7, .int 0), (6, .int c83), (5, .int c58), (4, .int c42), (3, .ref r10), (0, .ref ths), (1, .int p1), (2, .int p2)]) rfl dX8_way_89 rfl ?_
        obtain ⟨r91, hL91, h⟩ := bnd_i h
        have hk91_r : ∀ (re_91 : Int32), re_91 = r91 → some re_91 = some z := by
          intro re_91 hp
          subst hp
          exact h
        have key91 : ∀ (n : Nat) (w6_91 : Int32) (w7_91 : Int32), itr (fun s91 : Int32 × Int32 => lp_X8_way_91 M p2 c42 c58 r10 s91.1 s91.2) n (w6_91, w7_91) = some r91 → EE p l e rm_X8_way s m args below meth c Q Γ 8 0 0 91 [(2, .int p2), (3, .ref r10), (4, .int c42), (5, .int c58), (6, .int w6_91), (7, .int w7_91)] [] M := by
          intro n
          induction n with
          | zero => intro _ _ h; exact (itr_0 h).elim
          | succ n ih =>
            intro w6_91 w7_91 h
            obtain ⟨z91, h, hz91⟩ := itr_i h
            replace h : lp_X8_way_91 M p2 c42 c58 r10 w6_91 w7_91 = some z91 := h
            unfold lp_X8_way_91 at h
            refine q_iload cx (pc' := 93) 5 rfl dX8_way_91 rfl ?_
            refine q_iload_n cx (pc' := 94) 0 rfl dX8_way_93 rfl ?_
            refine q_icmp_ge cx (pc' := 97) (tgt := 137) dX8_way_94 (by decide) rfl (fun c94 => ?_) (fun c94 => ?_)
            · replace h := ip c94 h
              refine q_iload cx (pc' := 139) 4 rfl dX8_way_137 rfl ?_
              replace h := hk91_r _ (hz91.2 _ h)
              obtain rfl := o1_i h
              rw [hQ]
              exact q_iret cx dX8_way_139
            · replace h := ine c94 h
              refine q_iload cx (pc' := 99) 4 rfl dX8_way_97 rfl ?_
              refine q_if_lt cx (pc' := 102) (tgt := 137) dX8_way_99 (by decide) rfl (fun c99 => ?_) (fun c99 => ?_)
              · replace h := ip c99 h
                refine q_iload cx (pc' := 139) 4 rfl dX8_way_137 rfl ?_
                replace h := hk91_r _ (hz91.2 _ h)
                obtain rfl := o1_i h
                rw [hQ]
                exact q_iret cx dX8_way_139
              · replace h := ine c99 h
                refine q_iconst cx (pc' := 103) ki_1 dX8_way_102 rfl ?_
                refine q_iload cx (pc' := 105) 4 rfl dX8_way_103 rfl ?_
                refine q_ishl cx (pc' := 106) dX8_way_105 rfl ?_
                refine q_aload_n cx (pc' := 107) 1 rfl dX8_way_106 rfl ?_
                obtain ⟨hk107, h⟩ := ck_i h
                obtain ⟨c107, hc107, h⟩ := bnd_i h
                refine q_callV cx (pc' := 110) (S := [.int (1 <<< (w6_91 &&& 31))]) (S1 := [.int c107, .int (1 <<< (w6_91 &&& 31))]) (kc' := 0) (ks' := 0) 7 (ct_X7_leaps Γ l M r10 hk107 _ hc107) lki_X7_leaps lkv_X7_leaps lkc_X8_197 hk107 (r := (RX7, TX7, 4)) ⟨rfl, by decide, rfl⟩ rfl rfl (Nat.le_of_ble_eq_true rfl) ⟨(Nat.le_of_ble_eq_true rfl), (Nat.le_of_ble_eq_true rfl)⟩ ⟨(Nat.le_of_ble_eq_true rfl), (Nat.le_of_ble_eq_true rfl)⟩ dX8_way_107 rfl rfl rfl ?_
                refine q_callS cx (pc' := 113) (S := []) (S1 := [.int (fn_X8_around (1 <<< (w6_91 &&& 31)) c107)]) (kc' := 0) (ks' := 0) (ct_X8_around Γ l M (1 <<< (w6_91 &&& 31)) c107) lki_X8_around lkv_X8_around lkc_X8_138 rfl rfl (Nat.le_of_ble_eq_true rfl) ⟨(Nat.le_of_ble_eq_true rfl), (Nat.le_of_ble_eq_true rfl)⟩ ⟨(Nat.le_of_ble_eq_true rfl), (Nat.le_of_ble_eq_true rfl)⟩ dX8_way_110 rfl rfl rfl ?_
                refine q_iload cx (pc' := 115) 3 rfl dX8_way_113 rfl ?_
                refine q_iload cx (pc' := 117) 5 rfl dX8_way_115 rfl ?_
                refine q_isub cx (pc' := 118) dX8_way_117 rfl ?_
                refine q_iconst cx (pc' := 119) ki_1 dX8_way_118 rfl ?_
                refine q_isub cx (pc' := 120) dX8_way_119 rfl ?_
                refine q_iload cx (pc' := 122) 2 rfl dX8_way_120 rfl ?_
                refine q_aload_n cx (pc' := 123) 1 rfl dX8_way_122 rfl ?_
                obtain ⟨hk123, h⟩ := ck_i h
                obtain ⟨c123, hc123, h⟩ := bnd_i h
                refine q_callV cx (pc' := 126) (S := [.int c42, .int ((c58 - w7_91) - 1), .int (fn_X8_around (1 <<< (w6_91 &&& 31)) c107)]) (S1 := [.int c123, .int c42, .int ((c58 - w7_91) - 1), .int (fn_X8_around (1 <<< (w6_91 &&& 31)) c107)]) (kc' := 0) (ks' := 0) 7 (ct_X7_leaps Γ l M r10 hk123 _ hc123) lki_X7_leaps lkv_X7_leaps lkc_X8_197 hk123 (r := (RX7, TX7, 4)) ⟨rfl, by decide, rfl⟩ rfl rfl (Nat.le_of_ble_eq_true rfl) ⟨(Nat.le_of_ble_eq_true rfl), (Nat.le_of_ble_eq_true rfl)⟩ ⟨(Nat.le_of_ble_eq_true rfl), (Nat.le_of_ble_eq_true rfl)⟩ dX8_way_123 rfl rfl rfl ?_
                obtain ⟨c126, hc126, h⟩ := bnd_i h
                refine q_callS cx (pc' := 129) (S := []) (S1 := [.int c126]) (kc' := 0) (ks' := 0) (ct_X8_firstAt Γ l M (fn_X8_around (1 <<< (w6_91 &&& 31)) c107) ((c58 - w7_91) - 1) c42 c123 _ hc126) lki_X8_firstAt lkv_X8_firstAt lkc_X8_205 rfl rfl (Nat.le_of_ble_eq_true rfl) ⟨(Nat.le_of_ble_eq_true rfl), (Nat.le_of_ble_eq_true rfl)⟩ ⟨(Nat.le_of_ble_eq_true rfl), (Nat.le_of_ble_eq_true rfl)⟩ dX8_way_126 rfl rfl rfl ?_
                refine q_istore cx (pc' := 131) rfl (by decide) (L' := [(6, .int c126), (2, .int p2), (3, .ref r10), (4, .int c42), (5, .int c58), (7, .int w7_91)]) rfl dX8_way_129 rfl ?_
                obtain ⟨v7_131, ev7_131, h⟩ := nm_i h
                refine q_iinc cx (pc' := 134) 5 rfl ki_1 ev7_131 (by decide) (L' := [(7, .int v7_131), (6, .int c126), (2, .int p2), (3, .ref r10), (4, .int c42), (5, .int c58)]) rfl dX8_way_131 rfl ?_
                refine q_goto cx dX8_way_134 (tgt := 91) (by decide) ?_
                refine q_sub cx [2, 3, 4, 5, 1, 0] rfl ?_
                exact ih _ _ (hz91.1 _ h)
        refine q_sub cx [7, 4, 3, 2, 1, 0] rfl ?_
        exact key91 FU _ _ hL91
      · replace h := ine c66 h
        refine q_bipush cx (pc' := 71) kb_m5 dX8_way_69 rfl ?_
        obtain rfl := o1_i h
        rw [hQ]
        exact q_iret cx dX8_way_71
    · replace h := ip c19 h
      refine q_iconst cx (pc' := 23) ki_m1 dX8_way_22 rfl ?_
      obtain rfl := o1_i h
      rw [hQ]
      exact q_iret cx dX8_way_23

abbrev rm_X8_reach : Room := { frames := 4, cells := 0, slots := 0, locals := 127 }
def fn_X8_reach (M : QM) (ths : Nat) (p1 : Int32) (p2 : Int32) (p3 : Int32) : Option Int32 :=
  gR M ths 8 0 fun r1 =>
  ck M r1 5 <|
  bnd (fn_X5_walkerAt M r1 p1) fun c5 =>
  cnul c5 (
    some (-1)) fun r12 =>
  if (fn_X8_isBelow p2 16) = 0 then
    some (-1)
  else
    if (fn_X8_isBelow p3 16) = 0 then
      some (-1)
    else
      gR M ths 8 0 fun r44 =>
      gR M r44 5 0 fun r47 =>
      gR M ths 8 0 fun r51 =>
      gR M r51 5 7 fun r54 =>
      gI M r54 1 1 fun x57 =>
      ck M r12 7 <|
      bnd (fn_X7_bearers M r12 r47 x57) fun c60 =>
      ck M r12 7 <|
      bnd (fn_X7_leaps M r12) fun c65 =>
      bnd (fn_X8_fewest (1 <<< (p2 &&& 31)) (1 <<< (p3 &&& 31)) c60 c65) fun c68 =>
      some c68
set_option maxRecDepth 100000 in
set_option maxHeartbeats 4000000 in
theorem ct_X8_reach (Γ : GT) (l : Launch) (M : QM) (ths : Nat) (p1 : Int32) (p2 : Int32) (p3 : Int32) (ht0 : mt M ths = 8) (z : Int32) (h : fn_X8_reach M ths p1 p2 p3 = some z) : CT Γ l yX8_reach cX8_reach 5 (some .int) rm_X8_reach (.ref ths :: [.int p1, .int p2, .int p3]) M (some (.int z)) M := by
  refine ct_intro (own := RX8) (L := [(0, .ref ths), (1, .int p1), (2, .int p2), (3, .int p3)]) (by decide +kernel) rfl (Nat.le_of_ble_eq_true rfl) rfl ?_
  intro p e s m args below meth c Q hQ cx hnm
  unfold fn_X8_reach at h
  refine q_aload_n cx (pc' := 1) 0 rfl dX8_reach_0 rfl ?_
  obtain ⟨ht1, r1, ex1, h⟩ := gR_i h
  refine q_gR cx (pc' := 4) 8 0 fl_X8_12 rfl ht1 ex1 dX8_reach_1 rfl ?_
  refine q_iload_n cx (pc' := 5) 1 rfl dX8_reach_4 rfl ?_
  obtain ⟨hk5, h⟩ := ck_i h
  obtain ⟨c5, hc5, h⟩ := bnd_i h
  refine q_callV cx (pc' := 8) (S := []) (S1 := [va_rf c5]) (kc' := 0) (ks' := 0) 5 (ct_X5_walkerAt Γ l M r1 p1 hk5 _ hc5) lki_X5_walkerAt lkv_X5_walkerAt lkc_X8_85 hk5 (r := (RX5, TX5, 8)) ⟨rfl, by decide, rfl⟩ rfl rfl (Nat.le_of_ble_eq_true rfl) ⟨(Nat.le_of_ble_eq_true rfl), (Nat.le_of_ble_eq_true rfl)⟩ ⟨(Nat.le_of_ble_eq_true rfl), (Nat.le_of_ble_eq_true rfl)⟩ dX8_reach_5 rfl rfl rfl ?_
  refine q_astoreO cx (pc' := 10) rfl (by decide) (L' := [(4, va_rf c5), (0, .ref ths), (1, .int p1), (2, .int p2), (3, .int p3)]) rfl dX8_reach_8 rfl ?_
  refine q_aloadO cx (pc' := 12) 0 rfl dX8_reach_10 rfl ?_
  rcases c5 with _ | r12
  · replace h := cnul_n h
    refine q_ifnull_null cx dX8_reach_12 (tgt := 33) (by decide) ?_
    refine q_iconst cx (pc' := 34) ki_m1 dX8_reach_33 rfl ?_
    obtain rfl := o1_i h
    rw [hQ]
    exact q_iret cx dX8_reach_34
  · replace h := cnul_s h
    refine q_ifnull_ref cx (pc' := 15) dX8_reach_12 rfl ?_
    refine q_iload_n cx (pc' := 16) 3 rfl dX8_reach_15 rfl ?_
    refine q_bipush cx (pc' := 18) kb_16 dX8_reach_16 rfl ?_
    refine q_callS cx (pc' := 21) (S := []) (S1 := [.int (fn_X8_isBelow p2 16)]) (kc' := 0) (ks' := 0) (ct_X8_isBelow Γ l M p2 16) lki_X8_isBelow lkv_X8_isBelow lkc_X8_69 rfl rfl (Nat.le_of_ble_eq_true rfl) ⟨(Nat.le_of_ble_eq_true rfl), (Nat.le_of_ble_eq_true rfl)⟩ ⟨(Nat.le_of_ble_eq_true rfl), (Nat.le_of_ble_eq_true rfl)⟩ dX8_reach_18 rfl rfl rfl ?_
    refine q_if_eq cx (pc' := 24) (tgt := 33) dX8_reach_21 (by decide) rfl (fun c21 => ?_) (fun c21 => ?_)
    · replace h := ip c21 h
      refine q_iconst cx (pc' := 34) ki_m1 dX8_reach_33 rfl ?_
      obtain rfl := o1_i h
      rw [hQ]
      exact q_iret cx dX8_reach_34
    · replace h := ine c21 h
      refine q_iload_n cx (pc' := 25) 4 rfl dX8_reach_24 rfl ?_
      refine q_bipush cx (pc' := 27) kb_16 dX8_reach_25 rfl ?_
      refine q_callS cx (pc' := 30) (S := []) (S1 := [.int (fn_X8_isBelow p3 16)]) (kc' := 0) (ks' := 0) (ct_X8_isBelow Γ l M p3 16) lki_X8_isBelow lkv_X8_isBelow lkc_X8_69 rfl rfl (Nat.le_of_ble_eq_true rfl) ⟨(Nat.le_of_ble_eq_true rfl), (Nat.le_of_ble_eq_true rfl)⟩ ⟨(Nat.le_of_ble_eq_true rfl), (Nat.le_of_ble_eq_true rfl)⟩ dX8_reach_27 rfl rfl rfl ?_
      refine q_if_ne cx (pc' := 33) (tgt := 35) dX8_reach_30 (by decide) rfl (fun c30 => ?_) (fun c30 => ?_)
      · replace h := ine c30 h
        refine q_iconst cx (pc' := 36) ki_1 dX8_reach_35 rfl ?_
        refine q_iload_n cx (pc' := 37) 3 rfl dX8_reach_36 rfl ?_
        refine q_ishl cx (pc' := 38) dX8_reach_37 rfl ?_
        refine q_iconst cx (pc' := 39) ki_1 dX8_reach_38 rfl ?_
        refine q_iload_n cx (pc' := 40) 4 rfl dX8_reach_39 rfl ?_
        refine q_ishl cx (pc' := 41) dX8_reach_40 rfl ?_
        refine q_aload cx (pc' := 43) 0 rfl dX8_reach_41 rfl ?_
        refine q_aload_n cx (pc' := 44) 1 rfl dX8_reach_43 rfl ?_
        obtain ⟨ht44, r44, ex44, h⟩ := gR_i h
        refine q_gR cx (pc' := 47) 8 0 fl_X8_12 rfl ht44 ex44 dX8_reach_44 rfl ?_
        obtain ⟨ht47, r47, ex47, h⟩ := gR_i h
        refine q_gR cx (pc' := 50) 5 0 fl_X8_98 rfl ht47 ex47 dX8_reach_47 rfl ?_
        refine q_aload_n cx (pc' := 51) 1 rfl dX8_reach_50 rfl ?_
        obtain ⟨ht51, r51, ex51, h⟩ := gR_i h
        refine q_gR cx (pc' := 54) 8 0 fl_X8_12 rfl ht51 ex51 dX8_reach_51 rfl ?_
        obtain ⟨ht54, r54, ex54, h⟩ := gR_i h
        refine q_gR cx (pc' := 57) 5 7 fl_X8_64 rfl ht54 ex54 dX8_reach_54 rfl ?_
        obtain ⟨ht57, x57, ex57, h⟩ := gI_i h
        refine q_gI cx (pc' := 60) 1 1 fl_X8_101 rfl ht57 ex57 dX8_reach_57 rfl ?_
        obtain ⟨hk60, h⟩ := ck_i h
        obtain ⟨c60, hc60, h⟩ := bnd_i h
        refine q_callV cx (pc' := 63) (S := [.int (1 <<< (p3 &&& 31)), .int (1 <<< (p2 &&& 31))]) (S1 := [.int c60, .int (1 <<< (p3 &&& 31)), .int (1 <<< (p2 &&& 31))]) (kc' := 0) (ks' := 0) 7 (ct_X7_bearers Γ l M r12 r47 x57 hk60 _ hc60) lki_X7_bearers lkv_X7_bearers lkc_X8_193 hk60 (r := (RX7, TX7, 4)) ⟨rfl, by decide, rfl⟩ rfl rfl (Nat.le_of_ble_eq_true rfl) ⟨(Nat.le_of_ble_eq_true rfl), (Nat.le_of_ble_eq_true rfl)⟩ ⟨(Nat.le_of_ble_eq_true rfl), (Nat.le_of_ble_eq_true rfl)⟩ dX8_reach_60 rfl rfl rfl ?_
        refine q_aload cx (pc' := 65) 0 rfl dX8_reach_63 rfl ?_
        obtain ⟨hk65, h⟩ := ck_i h
        obtain ⟨c65, hc65, h⟩ := bnd_i h
        refine q_callV cx (pc' := 68) (S := [.int c60, .int (1 <<< (p3 &&& 31)), .int (1 <<< (p2 &&& 31))]) (S1 := [.int c65, .int c60, .int (1 <<< (p3 &&& 31)), .int (1 <<< (p2 &&& 31))]) (kc' := 0) (ks' := 0) 7 (ct_X7_leaps Γ l M r12 hk65 _ hc65) lki_X7_leaps lkv_X7_leaps lkc_X8_197 hk65 (r := (RX7, TX7, 4)) ⟨rfl, by decide, rfl⟩ rfl rfl (Nat.le_of_ble_eq_true rfl) ⟨(Nat.le_of_ble_eq_true rfl), (Nat.le_of_ble_eq_true rfl)⟩ ⟨(Nat.le_of_ble_eq_true rfl), (Nat.le_of_ble_eq_true rfl)⟩ dX8_reach_65 rfl rfl rfl ?_
        obtain ⟨c68, hc68, h⟩ := bnd_i h
        refine q_callS cx (pc' := 71) (S := []) (S1 := [.int c68]) (kc' := 0) (ks' := 0) (ct_X8_fewest Γ l M (1 <<< (p2 &&& 31)) (1 <<< (p3 &&& 31)) c60 c65 _ hc68) lki_X8_fewest lkv_X8_fewest lkc_X8_201 rfl rfl (Nat.le_of_ble_eq_true rfl) ⟨(Nat.le_of_ble_eq_true rfl), (Nat.le_of_ble_eq_true rfl)⟩ ⟨(Nat.le_of_ble_eq_true rfl), (Nat.le_of_ble_eq_true rfl)⟩ dX8_reach_68 rfl rfl rfl ?_
        obtain rfl := o1_i h
        rw [hQ]
        exact q_iret cx dX8_reach_71
      · replace h := ip c30 h
        refine q_iconst cx (pc' := 34) ki_m1 dX8_reach_33 rfl ?_
        obtain rfl := o1_i h
        rw [hQ]
        exact q_iret cx dX8_reach_34

abbrev rm_X8_heaviest : Room := { frames := 5, cells := 0, slots := 0, locals := 149 }
def lp_X8_heaviest_26 (ths : Nat) (w3_26 : Int32) (Mw_26 : QM) : Option ((Int32 × QM) ⊕ (Int32 × QM)) :=
  if w3_26 < 0 then
    some (.inr ((-5), Mw_26))
  else
    gR Mw_26 ths 8 8 fun r31 =>
    pI Mw_26 r31 7 2 w3_26 fun M35 =>
    gR M35 ths 8 8 fun r39 =>
    gR M35 ths 8 0 fun r43 =>
    gR M35 r43 5 0 fun r46 =>
    gR M35 ths 8 0 fun r50 =>
    gR M35 r50 5 7 fun r53 =>
    gI M35 r53 1 1 fun x56 =>
    ck M35 r39 7 <|
    bnd (fn_X7_crossing M35 r39 r46 x56) fun c59 =>
    if c59 < 0 then
      nm (w3_26 + (-1)) fun v3_67 =>
      some (.inl (v3_67, M35))
    else
      some (.inr (w3_26, M35))
def fn_X8_heaviest (M : QM) (ths : Nat) (p1 : Int32) : Option (Int32 × QM) :=
  gR M ths 8 0 fun r1 =>
  ck M r1 5 <|
  bnd (fn_X5_walkerAt M r1 p1) fun c5 =>
  cnul c5 (
    some ((-1), M)) fun r10 =>
  gR M ths 8 8 fun r16 =>
  ck M r16 7 <|
  bnd (fn_X7_copy M r16 r10) fun M20 =>
  bnd (itr (fun s26 : Int32 × QM => lp_X8_heaviest_26 ths s26.1 s26.2) FU (99, M20)) fun r26 =>
  pr2 r26 fun re_26 Mr_26 =>
  some (re_26, Mr_26)
set_option maxRecDepth 100000 in
set_option maxHeartbeats 4000000 in
theorem ct_X8_heaviest (Γ : GT) (l : Launch) (M : QM) (ths : Nat) (p1 : Int32) (ht0 : mt M ths = 8) (z : Int32) (M' : QM) (h : fn_X8_heaviest M ths p1 = some (z, M')) : CT Γ l yX8_heaviest cX8_heaviest 4 (some .int) rm_X8_heaviest (.ref ths :: [.int p1]) M (some (.int z)) M' := by
  refine ct_intro (own := RX8) (L := [(0, .ref ths), (1, .int p1)]) (by decide +kernel) rfl (Nat.le_of_ble_eq_true rfl) rfl ?_
  intro p e s m args below meth c Q hQ cx hnm
  unfold fn_X8_heaviest at h
  refine q_aload_n cx (pc' := 1) 0 rfl dX8_heaviest_0 rfl ?_
  obtain ⟨ht1, r1, ex1, h⟩ := gR_i h
  refine q_gR cx (pc' := 4) 8 0 fl_X8_12 rfl ht1 ex1 dX8_heaviest_1 rfl ?_
  refine q_iload_n cx (pc' := 5) 1 rfl dX8_heaviest_4 rfl ?_
  obtain ⟨hk5, h⟩ := ck_i h
  obtain ⟨c5, hc5, h⟩ := bnd_i h
  refine q_callV cx (pc' := 8) (S := []) (S1 := [va_rf c5]) (kc' := 0) (ks' := 0) 5 (ct_X5_walkerAt Γ l M r1 p1 hk5 _ hc5) lki_X5_walkerAt lkv_X5_walkerAt lkc_X8_85 hk5 (r := (RX5, TX5, 8)) ⟨rfl, by decide, rfl⟩ rfl rfl (Nat.le_of_ble_eq_true rfl) ⟨(Nat.le_of_ble_eq_true rfl), (Nat.le_of_ble_eq_true rfl)⟩ ⟨(Nat.le_of_ble_eq_true rfl), (Nat.le_of_ble_eq_true rfl)⟩ dX8_heaviest_5 rfl rfl rfl ?_
  refine q_astore_nO cx (pc' := 9) rfl rfl (by decide) (L' := [(2, va_rf c5), (0, .ref ths), (1, .int p1)]) rfl dX8_heaviest_8 rfl ?_
  refine q_aload_nO cx (pc' := 10) 0 rfl dX8_heaviest_9 rfl ?_
  rcases c5 with _ | r10
  · replace h := cnul_n h
    refine q_ifnonnull_null cx (pc' := 13) dX8_heaviest_10 rfl ?_
    refine q_iconst cx (pc' := 14) ki_m1 dX8_heaviest_13 rfl ?_
    obtain ⟨rfl, rfl⟩ := o2_i h
    rw [hQ]
    exact q_iret cx dX8_heaviest_14
  · replace h := cnul_s h
    refine q_ifnonnull_ref cx dX8_heaviest_10 (tgt := 15) (by decide) ?_
    refine q_aload_n cx (pc' := 16) 1 rfl dX8_heaviest_15 rfl ?_
    obtain ⟨ht16, r16, ex16, h⟩ := gR_i h
    refine q_gR cx (pc' := 19) 8 8 fl_X8_51 rfl ht16 ex16 dX8_heaviest_16 rfl ?_
    refine q_aload_n cx (pc' := 20) 0 rfl dX8_heaviest_19 rfl ?_
    obtain ⟨hk20, h⟩ := ck_i h
    obtain ⟨M20, hc20, h⟩ := bnd_i h
    refine q_callV cx (pc' := 23) (S := []) (S1 := []) (kc' := 0) (ks' := 0) 7 (ct_X7_copy Γ l M r16 r10 hk20 _ hc20) lki_X7_copy lkv_X7_copy lkc_X8_208 hk20 (r := (RX7, TX7, 4)) ⟨rfl, by decide, rfl⟩ rfl rfl (Nat.le_of_ble_eq_true rfl) ⟨(Nat.le_of_ble_eq_true rfl), (Nat.le_of_ble_eq_true rfl)⟩ ⟨(Nat.le_of_ble_eq_true rfl), (Nat.le_of_ble_eq_true rfl)⟩ dX8_heaviest_20 rfl rfl rfl ?_
    refine q_bipush cx (pc' := 25) kb_99 dX8_heaviest_23 rfl ?_
    refine q_istore_n cx (pc' := 26) rfl rfl (by decide) (L' := [(3, .int 99), (2, .ref r10), (0, .ref ths), (1, .int p1)]) rfl dX8_heaviest_25 rfl ?_
    obtain ⟨r26, hL26, h⟩ := bnd_i h
    have hk26_r : ∀ (re_26 : Int32) (Mr_26 : QM), (re_26, Mr_26) = r26 → some (re_26, Mr_26) = some (z, M') := by
      intro re_26 Mr_26 hp
      subst hp
      replace h := pr2_i h
      exact h
    have key26 : ∀ (n : Nat) (w3_26 : Int32) (Mw_26 : QM), itr (fun s26 : Int32 × QM => lp_X8_heaviest_26 ths s26.1 s26.2) n (w3_26, Mw_26) = some r26 → EE p l e rm_X8_heaviest s m args below meth c Q Γ 4 0 0 26 [(0, .ref ths), (3, .int w3_26)] [] Mw_26 := by
      intro n
      induction n with
      | zero => intro _ _ h; exact (itr_0 h).elim
      | succ n ih =>
        intro w3_26 Mw_26 h
        obtain ⟨z26, h, hz26⟩ := itr_i h
        replace h : lp_X8_heaviest_26 ths w3_26 Mw_26 = some z26 := h
        unfold lp_X8_heaviest_26 at h
        refine q_iload_n cx (pc' := 27) 1 rfl dX8_heaviest_26 rfl ?_
        refine q_if_lt cx (pc' := 30) (tgt := 73) dX8_heaviest_27 (by decide) rfl (fun c27 => ?_) (fun c27 => ?_)
        · replace h := ip c27 h
          refine q_bipush cx (pc' := 75) kb_m5 dX8_heaviest_73 rfl ?_
          replace h := hk26_r _ _ (hz26.2 _ h)
          obtain ⟨rfl, rfl⟩ := o2_i h
          rw [hQ]
          exact q_iret cx dX8_heaviest_75
        · replace h := ine c27 h
          refine q_aload_n cx (pc' := 31) 0 rfl dX8_heaviest_30 rfl ?_
          obtain ⟨ht31, r31, ex31, h⟩ := gR_i h
          refine q_gR cx (pc' := 34) 8 8 fl_X8_51 rfl ht31 ex31 dX8_heaviest_31 rfl ?_
          refine q_iload_n cx (pc' := 35) 1 rfl dX8_heaviest_34 rfl ?_
          obtain ⟨ht35, M35, eM35, h⟩ := pI_i h
          refine q_pI cx (pc' := 38) 7 2 fl_X8_95 rfl ht35 (ty := .int) ⟨(RX7, TX7, 4), rfl, by decide +kernel, Or.inl rfl⟩ rfl rfl eM35 dX8_heaviest_35 rfl ?_
          refine q_aload_n cx (pc' := 39) 0 rfl dX8_heaviest_38 rfl ?_
          obtain ⟨ht39, r39, ex39, h⟩ := gR_i h
          refine q_gR cx (pc' := 42) 8 8 fl_X8_51 rfl ht39 ex39 dX8_heaviest_39 rfl ?_
          refine q_aload_n cx (pc' := 43) 0 rfl dX8_heaviest_42 rfl ?_
          obtain ⟨ht43, r43, ex43, h⟩ := gR_i h
          refine q_gR cx (pc' := 46) 8 0 fl_X8_12 rfl ht43 ex43 dX8_heaviest_43 rfl ?_
          obtain ⟨ht46, r46, ex46, h⟩ := gR_i h
          refine q_gR cx (pc' := 49) 5 0 fl_X8_98 rfl ht46 ex46 dX8_heaviest_46 rfl ?_
          refine q_aload_n cx (pc' := 50) 0 rfl dX8_heaviest_49 rfl ?_
          obtain ⟨ht50, r50, ex50, h⟩ := gR_i h
          refine q_gR cx (pc' := 53) 8 0 fl_X8_12 rfl ht50 ex50 dX8_heaviest_50 rfl ?_
          obtain ⟨ht53, r53, ex53, h⟩ := gR_i h
          refine q_gR cx (pc' := 56) 5 7 fl_X8_64 rfl ht53 ex53 dX8_heaviest_53 rfl ?_
          obtain ⟨ht56, x56, ex56, h⟩ := gI_i h
          refine q_gI cx (pc' := 59) 1 1 fl_X8_101 rfl ht56 ex56 dX8_heaviest_56 rfl ?_
          obtain ⟨hk59, h⟩ := ck_i h
          obtain ⟨c59, hc59, h⟩ := bnd_i h
          refine q_callV cx (pc' := 62) (S := []) (S1 := [.int c59]) (kc' := 0) (ks' := 0) 7 (ct_X7_crossing Γ l M35 r39 r46 x56 hk59 _ hc59) lki_X7_crossing lkv_X7_crossing lkc_X8_104 hk59 (r := (RX7, TX7, 4)) ⟨rfl, by decide, rfl⟩ rfl rfl (Nat.le_of_ble_eq_true rfl) ⟨(Nat.le_of_ble_eq_true rfl), (Nat.le_of_ble_eq_true rfl)⟩ ⟨(Nat.le_of_ble_eq_true rfl), (Nat.le_of_ble_eq_true rfl)⟩ dX8_heaviest_59 rfl rfl rfl ?_
          refine q_if_lt cx (pc' := 65) (tgt := 67) dX8_heaviest_62 (by decide) rfl (fun c62 => ?_) (fun c62 => ?_)
          · replace h := ip c62 h
            obtain ⟨v3_67, ev3_67, h⟩ := nm_i h
            refine q_iinc cx (pc' := 70) 1 rfl ki_m1 ev3_67 (by decide) (L' := [(3, .int v3_67), (0, .ref ths)]) rfl dX8_heaviest_67 rfl ?_
            refine q_goto cx dX8_heaviest_70 (tgt := 26) (by decide) ?_
            refine q_sub cx [1, 0] rfl ?_
            exact ih _ _ (hz26.1 _ h)
          · replace h := ine c62 h
            refine q_iload_n cx (pc' := 66) 1 rfl dX8_heaviest_65 rfl ?_
            replace h := hk26_r _ _ (hz26.2 _ h)
            obtain ⟨rfl, rfl⟩ := o2_i h
            rw [hQ]
            exact q_iret cx dX8_heaviest_66
    refine q_sub cx [2, 0] rfl ?_
    exact key26 FU _ _ hL26

abbrev rm_X8_isLess : Room := { frames := 2, cells := 0, slots := 0, locals := 60 }
def fn_X8_isLess (p0 : Int32) (p1 : Int32) : Int32 :=
  if 0 ≤ p1 then
    nm ((fn_J6_bitCount_0f7a4 p0) - (fn_J6_bitCount_0f7a4 p1)) fun v2_15 =>
    if v2_15 < 0 then
      1
    else
      if v2_15 = 0 then
        if p1 ≤ p0 then
          0
        else
          1
      else
        0
  else
    1
set_option maxRecDepth 100000 in
set_option maxHeartbeats 4000000 in
theorem ct_X8_isLess (Γ : GT) (l : Launch) (M : QM) (p0 : Int32) (p1 : Int32) : CT Γ l yX8_isLess cX8_isLess 3 (some .boolean) rm_X8_isLess [.int p0, .int p1] M (some (.int (fn_X8_isLess p0 p1))) M := by
  generalize h : fn_X8_isLess p0 p1 = z
  refine ct_intro (own := RX8) (L := [(0, .int p0), (1, .int p1)]) (by decide +kernel) rfl (Nat.le_of_ble_eq_true rfl) rfl ?_
  intro p e s m args below meth c Q hQ cx hnm
  unfold fn_X8_isLess at h
  refine q_iload_n cx (pc' := 1) 1 rfl dX8_isLess_0 rfl ?_
  refine q_if_ge cx (pc' := 4) (tgt := 6) dX8_isLess_1 (by decide) rfl (fun c1 => ?_) (fun c1 => ?_)
  · replace h := ip c1 h
    refine q_iload_n cx (pc' := 7) 0 rfl dX8_isLess_6 rfl ?_
    refine q_callS cx (pc' := 10) (S := []) (S1 := [.int (fn_J6_bitCount_0f7a4 p0)]) (kc' := 0) (ks' := 0) (ct_J6_bitCount_0f7a4 Γ l M p0) lki_J6_bitCount_0f7a4 lkv_J6_bitCount_0f7a4 lkc_X8_215 rfl rfl (Nat.le_of_ble_eq_true rfl) ⟨(Nat.le_of_ble_eq_true rfl), (Nat.le_of_ble_eq_true rfl)⟩ ⟨(Nat.le_of_ble_eq_true rfl), (Nat.le_of_ble_eq_true rfl)⟩ dX8_isLess_7 rfl rfl rfl ?_
    refine q_iload_n cx (pc' := 11) 1 rfl dX8_isLess_10 rfl ?_
    refine q_callS cx (pc' := 14) (S := [.int (fn_J6_bitCount_0f7a4 p0)]) (S1 := [.int (fn_J6_bitCount_0f7a4 p1), .int (fn_J6_bitCount_0f7a4 p0)]) (kc' := 0) (ks' := 0) (ct_J6_bitCount_0f7a4 Γ l M p1) lki_J6_bitCount_0f7a4 lkv_J6_bitCount_0f7a4 lkc_X8_215 rfl rfl (Nat.le_of_ble_eq_true rfl) ⟨(Nat.le_of_ble_eq_true rfl), (Nat.le_of_ble_eq_true rfl)⟩ ⟨(Nat.le_of_ble_eq_true rfl), (Nat.le_of_ble_eq_true rfl)⟩ dX8_isLess_11 rfl rfl rfl ?_
    refine q_isub cx (pc' := 15) dX8_isLess_14 rfl ?_
    obtain ⟨v2_15, ev2_15, h⟩ := nm_i h
    refine q_istore_n cx (pc' := 16) rfl ev2_15 (by decide) (L' := [(2, .int v2_15), (0, .int p0), (1, .int p1)]) rfl dX8_isLess_15 rfl ?_
    refine q_iload_n cx (pc' := 17) 0 rfl dX8_isLess_16 rfl ?_
    refine q_if_lt cx (pc' := 20) (tgt := 29) dX8_isLess_17 (by decide) rfl (fun c17 => ?_) (fun c17 => ?_)
    · replace h := ip c17 h
      refine q_iconst cx (pc' := 30) ki_1 dX8_isLess_29 rfl ?_
      refine q_goto cx dX8_isLess_30 (tgt := 34) (by decide) ?_
      subst h
      rw [hQ]
      exact q_nret cx rfl dX8_isLess_34
    · replace h := ine c17 h
      refine q_iload_n cx (pc' := 21) 0 rfl dX8_isLess_20 rfl ?_
      refine q_if_ne cx (pc' := 24) (tgt := 33) dX8_isLess_21 (by decide) rfl (fun c21 => ?_) (fun c21 => ?_)
      · replace h := ine c21 h
        refine q_iconst cx (pc' := 34) ki_0 dX8_isLess_33 rfl ?_
        subst h
        rw [hQ]
        exact q_nret cx rfl dX8_isLess_34
      · replace h := ip c21 h
        refine q_iload_n cx (pc' := 25) 1 rfl dX8_isLess_24 rfl ?_
        refine q_iload_n cx (pc' := 26) 2 rfl dX8_isLess_25 rfl ?_
        refine q_icmp_ge cx (pc' := 29) (tgt := 33) dX8_isLess_26 (by decide) rfl (fun c26 => ?_) (fun c26 => ?_)
        · replace h := ip c26 h
          refine q_iconst cx (pc' := 34) ki_0 dX8_isLess_33 rfl ?_
          subst h
          rw [hQ]
          exact q_nret cx rfl dX8_isLess_34
        · replace h := ine c26 h
          refine q_iconst cx (pc' := 30) ki_1 dX8_isLess_29 rfl ?_
          refine q_goto cx dX8_isLess_30 (tgt := 34) (by decide) ?_
          subst h
          rw [hQ]
          exact q_nret cx rfl dX8_isLess_34
  · replace h := ine c1 h
    refine q_iconst cx (pc' := 5) ki_1 dX8_isLess_4 rfl ?_
    subst h
    rw [hQ]
    exact q_nret cx rfl dX8_isLess_5

abbrev rm_X8_leastCut : Room := { frames := 3, cells := 0, slots := 0, locals := 88 }
def lp_X8_leastCut_38 (p0 : Int32) (p1 : Int32) (w3_20 : Int32) (w4_29 : Int32) (w2_38 : Int32) (w5_38 : Int32) : Option ((Int32 × Int32) ⊕ (Int32)) :=
  if w4_29 < w5_38 then
    some (.inr w2_38)
  else
    nm (((1 <<< (w3_20 &&& 31)) ||| (1 <<< (w4_29 &&& 31))) ||| (1 <<< (w5_38 &&& 31))) fun v6_58 =>
    if (fn_X8_isLess v6_58 w2_38) = 0 then
      nm (w5_38 + 1) fun v5_90 =>
      some (.inl (w2_38, v5_90))
    else
      bnd (fn_X8_fewest 4369 34952 (p0 &&& (v6_58 ^^^ (-1))) p1) fun c81 =>
      if 0 ≤ c81 then
        nm (w5_38 + 1) fun v5_90 =>
        some (.inl (w2_38, v5_90))
      else
        nm (w5_38 + 1) fun v5_90 =>
        some (.inl (v6_58, v5_90))
def lp_X8_leastCut_29 (p0 : Int32) (p1 : Int32) (w3_20 : Int32) (w2_29 : Int32) (w4_29 : Int32) : Option ((Int32 × Int32) ⊕ (Int32)) :=
  if w3_20 < w4_29 then
    some (.inr w2_29)
  else
    bnd (itr (fun s38 : Int32 × Int32 => lp_X8_leastCut_38 p0 p1 w3_20 w4_29 s38.1 s38.2) FU (w2_29, 0)) fun e2_38 =>
    nm (w4_29 + 1) fun v4_96 =>
    some (.inl (e2_38, v4_96))
def lp_X8_leastCut_20 (p0 : Int32) (p1 : Int32) (w2_20 : Int32) (w3_20 : Int32) : Option ((Int32 × Int32) ⊕ (Int32)) :=
  if 16 ≤ w3_20 then
    some (.inr w2_20)
  else
    bnd (itr (fun s29 : Int32 × Int32 => lp_X8_leastCut_29 p0 p1 w3_20 s29.1 s29.2) FU (w2_20, 0)) fun e2_29 =>
    nm (w3_20 + 1) fun v3_102 =>
    some (.inl (e2_29, v3_102))
def fn_X8_leastCut (p0 : Int32) (p1 : Int32) : Option Int32 :=
  bnd (fn_X8_fewest 4369 34952 p0 p1) fun c7 =>
  if 0 ≤ c7 then
    bnd (itr (fun s20 : Int32 × Int32 => lp_X8_leastCut_20 p0 p1 s20.1 s20.2) FU ((-5), 0)) fun re_20 =>
    some re_20
  else
    some 0
set_option maxRecDepth 100000 in
set_option maxHeartbeats 4000000 in
theorem ct_X8_leastCut (Γ : GT) (l : Launch) (M : QM) (p0 : Int32) (p1 : Int32) (z : Int32) (h : fn_X8_leastCut p0 p1 = some z) : CT Γ l yX8_leastCut cX8_leastCut 7 (some .int) rm_X8_leastCut [.int p0, .int p1] M (some (.int z)) M := by
  refine ct_intro (own := RX8) (L := [(0, .int p0), (1, .int p1)]) (by decide +kernel) rfl (Nat.le_of_ble_eq_true rfl) rfl ?_
  intro p e s m args below meth c Q hQ cx hnm
  unfold fn_X8_leastCut at h
  refine q_sipush cx (pc' := 3) ks_4369 dX8_leastCut_0 rfl ?_
  refine q_ldc cx (pc' := 5) aw_94 dX8_leastCut_3 rfl ?_
  refine q_iload_n cx (pc' := 6) 0 rfl dX8_leastCut_5 rfl ?_
  refine q_iload_n cx (pc' := 7) 1 rfl dX8_leastCut_6 rfl ?_
  obtain ⟨c7, hc7, h⟩ := bnd_i h
  refine q_callS cx (pc' := 10) (S := []) (S1 := [.int c7]) (kc' := 0) (ks' := 0) (ct_X8_fewest Γ l M 4369 34952 p0 p1 _ hc7) lki_X8_fewest lkv_X8_fewest lkc_X8_201 rfl rfl (Nat.le_of_ble_eq_true rfl) ⟨(Nat.le_of_ble_eq_true rfl), (Nat.le_of_ble_eq_true rfl)⟩ ⟨(Nat.le_of_ble_eq_true rfl), (Nat.le_of_ble_eq_true rfl)⟩ dX8_leastCut_7 rfl rfl rfl ?_
  refine q_if_ge cx (pc' := 13) (tgt := 15) dX8_leastCut_10 (by decide) rfl (fun c10 => ?_) (fun c10 => ?_)
  · replace h := ip c10 h
    refine q_bipush cx (pc' := 17) kb_m5 dX8_leastCut_15 rfl ?_
    refine q_istore_n cx (pc' := 18) rfl rfl (by decide) (L' := [(2, .int (-5)), (0, .int p0), (1, .int p1)]) rfl dX8_leastCut_17 rfl ?_
    refine q_iconst cx (pc' := 19) ki_0 dX8_leastCut_18 rfl ?_
    refine q_istore_n cx (pc' := 20) rfl rfl (by decide) (L' := [(3, .int 0), (2, .int (-5)), (0, .int p0), (1, .int p1)]) rfl dX8_leastCut_19 rfl ?_
    obtain ⟨r20, hL20, h⟩ := bnd_i h
    have hk20_r : ∀ (re_20 : Int32), re_20 = r20 → some re_20 = some z := by
      intro re_20 hp
      subst hp
      exact h
    have key20 : ∀ (n : Nat) (w2_20 : Int32) (w3_20 : Int32), itr (fun s20 : Int32 × Int32 => lp_X8_leastCut_20 p0 p1 s20.1 s20.2) n (w2_20, w3_20) = some r20 → EE p l e rm_X8_leastCut s m args below meth c Q Γ 7 0 0 20 [(0, .int p0), (1, .int p1), (2, .int w2_20), (3, .int w3_20)] [] M := by
      intro n
      induction n with
      | zero => intro _ _ h; exact (itr_0 h).elim
      | succ n ih =>
        intro w2_20 w3_20 h
        obtain ⟨z20, h, hz20⟩ := itr_i h
        replace h : lp_X8_leastCut_20 p0 p1 w2_20 w3_20 = some z20 := h
        unfold lp_X8_leastCut_20 at h
        refine q_iload_n cx (pc' := 21) 3 rfl dX8_leastCut_20 rfl ?_
        refine q_bipush cx (pc' := 23) kb_16 dX8_leastCut_21 rfl ?_
        refine q_icmp_ge cx (pc' := 26) (tgt := 108) dX8_leastCut_23 (by decide) rfl (fun c23 => ?_) (fun c23 => ?_)
        · replace h := ip c23 h
          refine q_iload_n cx (pc' := 109) 2 rfl dX8_leastCut_108 rfl ?_
          replace h := hk20_r _ (hz20.2 _ h)
          obtain rfl := o1_i h
          rw [hQ]
          exact q_iret cx dX8_leastCut_109
        · replace h := ine c23 h
          refine q_iconst cx (pc' := 27) ki_0 dX8_leastCut_26 rfl ?_
          refine q_istore cx (pc' := 29) rfl (by decide) (L' := [(4, .int 0), (0, .int p0), (1, .int p1), (2, .int w2_20), (3, .int w3_20)]) rfl dX8_leastCut_27 rfl ?_
          obtain ⟨r29, hL29, h⟩ := bnd_i h
          have hk29_0 : ∀ (e2_29 : Int32), e2_29 = r29 → EE p l e rm_X8_leastCut s m args below meth c Q Γ 7 0 0 102 [(0, .int p0), (1, .int p1), (2, .int e2_29), (3, .int w3_20)] [] M := by
            intro e2_29 hp
            subst hp
            obtain ⟨v3_102, ev3_102, h⟩ := nm_i h
            refine q_iinc cx (pc' := 105) 3 rfl ki_1 ev3_102 (by decide) (L' := [(3, .int v3_102), (0, .int p0), (1, .int p1), (2, .int e2_29)]) rfl dX8_leastCut_102 rfl ?_
            refine q_goto cx dX8_leastCut_105 (tgt := 20) (by decide) ?_
            refine q_sub cx [1, 2, 3, 0] rfl ?_
            exact ih _ _ (hz20.1 _ h)
          have key29 : ∀ (n : Nat) (w2_29 : Int32) (w4_29 : Int32), itr (fun s29 : Int32 × Int32 => lp_X8_leastCut_29 p0 p1 w3_20 s29.1 s29.2) n (w2_29, w4_29) = some r29 → EE p l e rm_X8_leastCut s m args below meth c Q Γ 7 0 0 29 [(0, .int p0), (1, .int p1), (2, .int w2_29), (3, .int w3_20), (4, .int w4_29)] [] M := by
            intro n
            induction n with
            | zero => intro _ _ h; exact (itr_0 h).elim
            | succ n ih =>
              intro w2_29 w4_29 h
              obtain ⟨z29, h, hz29⟩ := itr_i h
              replace h : lp_X8_leastCut_29 p0 p1 w3_20 w2_29 w4_29 = some z29 := h
              unfold lp_X8_leastCut_29 at h
              refine q_iload cx (pc' := 31) 4 rfl dX8_leastCut_29 rfl ?_
              refine q_iload_n cx (pc' := 32) 3 rfl dX8_leastCut_31 rfl ?_
              refine q_icmp_gt cx (pc' := 35) (tgt := 102) dX8_leastCut_32 (by decide) rfl (fun c32 => ?_) (fun c32 => ?_)
              · replace h := ip c32 h
                refine q_sub cx [0, 1, 2, 3] rfl ?_
                exact hk29_0 _ (hz29.2 _ h)
              · replace h := ine c32 h
                refine q_iconst cx (pc' := 36) ki_0 dX8_leastCut_35 rfl ?_
                refine q_istore cx (pc' := 38) rfl (by decide) (L' := [(5, .int 0), (0, .int p0), (1, .int p1), (2, .int w2_29), (3, .int w3_20), (4, .int w4_29)]) rfl dX8_leastCut_36 rfl ?_
                obtain ⟨r38, hL38, h⟩ := bnd_i h
                have hk38_0 : ∀ (e2_38 : Int32), e2_38 = r38 → EE p l e rm_X8_leastCut s m args below meth c Q Γ 7 0 0 96 [(0, .int p0), (1, .int p1), (2, .int e2_38), (3, .int w3_20), (4, .int w4_29)] [] M := by
                  intro e2_38 hp
                  subst hp
                  obtain ⟨v4_96, ev4_96, h⟩ := nm_i h
                  refine q_iinc cx (pc' := 99) 4 rfl ki_1 ev4_96 (by decide) (L' := [(4, .int v4_96), (0, .int p0), (1, .int p1), (2, .int e2_38), (3, .int w3_20)]) rfl dX8_leastCut_96 rfl ?_
                  refine q_goto cx dX8_leastCut_99 (tgt := 29) (by decide) ?_
                  refine q_sub cx [1, 2, 3, 4, 0] rfl ?_
                  exact ih _ _ (hz29.1 _ h)
                have key38 : ∀ (n : Nat) (w2_38 : Int32) (w5_38 : Int32), itr (fun s38 : Int32 × Int32 => lp_X8_leastCut_38 p0 p1 w3_20 w4_29 s38.1 s38.2) n (w2_38, w5_38) = some r38 → EE p l e rm_X8_leastCut s m args below meth c Q Γ 7 0 0 38 [(0, .int p0), (1, .int p1), (2, .int w2_38), (3, .int w3_20), (4, .int w4_29), (5, .int w5_38)] [] M := by
                  intro n
                  induction n with
                  | zero => intro _ _ h; exact (itr_0 h).elim
                  | succ n ih =>
                    intro w2_38 w5_38 h
                    obtain ⟨z38, h, hz38⟩ := itr_i h
                    replace h : lp_X8_leastCut_38 p0 p1 w3_20 w4_29 w2_38 w5_38 = some z38 := h
                    unfold lp_X8_leastCut_38 at h
                    refine q_iload cx (pc' := 40) 5 rfl dX8_leastCut_38 rfl ?_
                    refine q_iload cx (pc' := 42) 4 rfl dX8_leastCut_40 rfl ?_
                    refine q_icmp_gt cx (pc' := 45) (tgt := 96) dX8_leastCut_42 (by decide) rfl (fun c42 => ?_) (fun c42 => ?_)
                    · replace h := ip c42 h
                      refine q_sub cx [0, 1, 2, 3, 4] rfl ?_
                      exact hk38_0 _ (hz38.2 _ h)
                    · replace h := ine c42 h
                      refine q_iconst cx (pc' := 46) ki_1 dX8_leastCut_45 rfl ?_
                      refine q_iload_n cx (pc' := 47) 3 rfl dX8_leastCut_46 rfl ?_
                      refine q_ishl cx (pc' := 48) dX8_leastCut_47 rfl ?_
                      refine q_iconst cx (pc' := 49) ki_1 dX8_leastCut_48 rfl ?_
                      refine q_iload cx (pc' := 51) 4 rfl dX8_leastCut_49 rfl ?_
                      refine q_ishl cx (pc' := 52) dX8_leastCut_51 rfl ?_
                      refine q_ior cx (pc' := 53) dX8_leastCut_52 rfl ?_
                      refine q_iconst cx (pc' := 54) ki_1 dX8_leastCut_53 rfl ?_
                      refine q_iload cx (pc' := 56) 5 rfl dX8_leastCut_54 rfl ?_
                      refine q_ishl cx (pc' := 57) dX8_leastCut_56 rfl ?_
                      refine q_ior cx (pc' := 58) dX8_leastCut_57 rfl ?_
                      obtain ⟨v6_58, ev6_58, h⟩ := nm_i h
                      refine q_istore cx (pc' := 60) ev6_58 (by decide) (L' := [(6, .int v6_58), (0, .int p0), (1, .int p1), (2, .int w2_38), (3, .int w3_20), (4, .int w4_29), (5, .int w5_38)]) rfl dX8_leastCut_58 rfl ?_
                      refine q_iload cx (pc' := 62) 0 rfl dX8_leastCut_60 rfl ?_
                      refine q_iload_n cx (pc' := 63) 3 rfl dX8_leastCut_62 rfl ?_
                      refine q_callS cx (pc' := 66) (S := []) (S1 := [.int (fn_X8_isLess v6_58 w2_38)]) (kc' := 0) (ks' := 0) (ct_X8_isLess Γ l M v6_58 w2_38) lki_X8_isLess lkv_X8_isLess lkc_X8_320 rfl rfl (Nat.le_of_ble_eq_true rfl) ⟨(Nat.le_of_ble_eq_true rfl), (Nat.le_of_ble_eq_true rfl)⟩ ⟨(Nat.le_of_ble_eq_true rfl), (Nat.le_of_ble_eq_true rfl)⟩ dX8_leastCut_63 rfl rfl rfl ?_
                      refine q_if_eq cx (pc' := 69) (tgt := 90) dX8_leastCut_66 (by decide) rfl (fun c66 => ?_) (fun c66 => ?_)
                      · replace h := ip c66 h
                        obtain ⟨v5_90, ev5_90, h⟩ := nm_i h
                        refine q_iinc cx (pc' := 93) 6 rfl ki_1 ev5_90 (by decide) (L' := [(5, .int v5_90), (6, .int v6_58), (0, .int p0), (1, .int p1), (2, .int w2_38), (3, .int w3_20), (4, .int w4_29)]) rfl dX8_leastCut_90 rfl ?_
                        refine q_goto cx dX8_leastCut_93 (tgt := 38) (by decide) ?_
                        refine q_sub cx [2, 3, 4, 5, 6, 0] rfl ?_
                        exact ih _ _ (hz38.1 _ h)
                      · replace h := ine c66 h
                        refine q_sipush cx (pc' := 72) ks_4369 dX8_leastCut_69 rfl ?_
                        refine q_ldc cx (pc' := 74) aw_94 dX8_leastCut_72 rfl ?_
                        refine q_iload_n cx (pc' := 75) 1 rfl dX8_leastCut_74 rfl ?_
                        refine q_iload cx (pc' := 77) 0 rfl dX8_leastCut_75 rfl ?_
                        refine q_iconst cx (pc' := 78) ki_m1 dX8_leastCut_77 rfl ?_
                        refine q_ixor cx (pc' := 79) dX8_leastCut_78 rfl ?_
                        refine q_iand cx (pc' := 80) dX8_leastCut_79 rfl ?_
                        refine q_iload_n cx (pc' := 81) 2 rfl dX8_leastCut_80 rfl ?_
                        obtain ⟨c81, hc81, h⟩ := bnd_i h
                        refine q_callS cx (pc' := 84) (S := []) (S1 := [.int c81]) (kc' := 0) (ks' := 0) (ct_X8_fewest Γ l M 4369 34952 (p0 &&& (v6_58 ^^^ (-1))) p1 _ hc81) lki_X8_fewest lkv_X8_fewest lkc_X8_201 rfl rfl (Nat.le_of_ble_eq_true rfl) ⟨(Nat.le_of_ble_eq_true rfl), (Nat.le_of_ble_eq_true rfl)⟩ ⟨(Nat.le_of_ble_eq_true rfl), (Nat.le_of_ble_eq_true rfl)⟩ dX8_leastCut_81 rfl rfl rfl ?_
                        refine q_if_ge cx (pc' := 87) (tgt := 90) dX8_leastCut_84 (by decide) rfl (fun c84 => ?_) (fun c84 => ?_)
                        · replace h := ip c84 h
                          obtain ⟨v5_90, ev5_90, h⟩ := nm_i h
                          refine q_iinc cx (pc' := 93) 6 rfl ki_1 ev5_90 (by decide) (L' := [(5, .int v5_90), (6, .int v6_58), (0, .int p0), (1, .int p1), (2, .int w2_38), (3, .int w3_20), (4, .int w4_29)]) rfl dX8_leastCut_90 rfl ?_
                          refine q_goto cx dX8_leastCut_93 (tgt := 38) (by decide) ?_
                          refine q_sub cx [2, 3, 4, 5, 6, 0] rfl ?_
                          exact ih _ _ (hz38.1 _ h)
                        · replace h := ine c84 h
                          refine q_iload cx (pc' := 89) 0 rfl dX8_leastCut_87 rfl ?_
                          refine q_istore_n cx (pc' := 90) rfl rfl (by decide) (L' := [(2, .int v6_58), (6, .int v6_58), (0, .int p0), (1, .int p1), (3, .int w3_20), (4, .int w4_29), (5, .int w5_38)]) rfl dX8_leastCut_89 rfl ?_
                          obtain ⟨v5_90, ev5_90, h⟩ := nm_i h
                          refine q_iinc cx (pc' := 93) 6 rfl ki_1 ev5_90 (by decide) (L' := [(5, .int v5_90), (2, .int v6_58), (6, .int v6_58), (0, .int p0), (1, .int p1), (3, .int w3_20), (4, .int w4_29)]) rfl dX8_leastCut_90 rfl ?_
                          refine q_goto cx dX8_leastCut_93 (tgt := 38) (by decide) ?_
                          refine q_sub cx [3, 4, 1, 5, 6, 0] rfl ?_
                          exact ih _ _ (hz38.1 _ h)
                refine q_sub cx [1, 2, 3, 4, 5, 0] rfl ?_
                exact key38 FU _ _ hL38
          refine q_sub cx [1, 2, 3, 4, 0] rfl ?_
          exact key29 FU _ _ hL29
    refine q_sub cx [2, 3, 1, 0] rfl ?_
    exact key20 FU _ _ hL20
  · replace h := ine c10 h
    refine q_iconst cx (pc' := 14) ki_0 dX8_leastCut_13 rfl ?_
    obtain rfl := o1_i h
    rw [hQ]
    exact q_iret cx dX8_leastCut_14

abbrev rm_X8_cut : Room := { frames := 4, cells := 0, slots := 0, locals := 127 }
def fn_X8_cut (M : QM) (ths : Nat) (p1 : Int32) (p2 : Int32) : Option Int32 :=
  gR M ths 8 0 fun r1 =>
  ck M r1 5 <|
  bnd (fn_X5_walkerAt M r1 p1) fun c5 =>
  cnul c5 (
    some (-1)) fun r10 =>
  if (fn_X8_isBelow p2 2) = 0 then
    some (-1)
  else
    gR M ths 8 0 fun r25 =>
    gR M r25 5 0 fun r28 =>
    gR M ths 8 0 fun r32 =>
    gR M r32 5 7 fun r35 =>
    gI M r35 1 1 fun x38 =>
    ck M r10 7 <|
    bnd (fn_X7_bearers M r10 r28 x38) fun c41 =>
    ck M r10 7 <|
    bnd (fn_X7_leaps M r10) fun c45 =>
    bnd (fn_X8_leastCut c41 c45) fun c48 =>
    if c48 < 0 then
      some c48
    else
      if p2 = 1 then
        some c48
      else
        some (fn_J6_bitCount_0f7a4 c48)
set_option maxRecDepth 100000 in
set_option maxHeartbeats 4000000 in
theorem ct_X8_cut (Γ : GT) (l : Launch) (M : QM) (ths : Nat) (p1 : Int32) (p2 : Int32) (ht0 : mt M ths = 8) (z : Int32) (h : fn_X8_cut M ths p1 p2 = some z) : CT Γ l yX8_cut cX8_cut 5 (some .int) rm_X8_cut (.ref ths :: [.int p1, .int p2]) M (some (.int z)) M := by
  refine ct_intro (own := RX8) (L := [(0, .ref ths), (1, .int p1), (2, .int p2)]) (by decide +kernel) rfl (Nat.le_of_ble_eq_true rfl) rfl ?_
  intro p e s m args below meth c Q hQ cx hnm
  unfold fn_X8_cut at h
  refine q_aload_n cx (pc' := 1) 0 rfl dX8_cut_0 rfl ?_
  obtain ⟨ht1, r1, ex1, h⟩ := gR_i h
  refine q_gR cx (pc' := 4) 8 0 fl_X8_12 rfl ht1 ex1 dX8_cut_1 rfl ?_
  refine q_iload_n cx (pc' := 5) 1 rfl dX8_cut_4 rfl ?_
  obtain ⟨hk5, h⟩ := ck_i h
  obtain ⟨c5, hc5, h⟩ := bnd_i h
  refine q_callV cx (pc' := 8) (S := []) (S1 := [va_rf c5]) (kc' := 0) (ks' := 0) 5 (ct_X5_walkerAt Γ l M r1 p1 hk5 _ hc5) lki_X5_walkerAt lkv_X5_walkerAt lkc_X8_85 hk5 (r := (RX5, TX5, 8)) ⟨rfl, by decide, rfl⟩ rfl rfl (Nat.le_of_ble_eq_true rfl) ⟨(Nat.le_of_ble_eq_true rfl), (Nat.le_of_ble_eq_true rfl)⟩ ⟨(Nat.le_of_ble_eq_true rfl), (Nat.le_of_ble_eq_true rfl)⟩ dX8_cut_5 rfl rfl rfl ?_
  refine q_astore_nO cx (pc' := 9) rfl rfl (by decide) (L' := [(3, va_rf c5), (0, .ref ths), (1, .int p1), (2, .int p2)]) rfl dX8_cut_8 rfl ?_
  refine q_aload_nO cx (pc' := 10) 0 rfl dX8_cut_9 rfl ?_
  rcases c5 with _ | r10
  · replace h := cnul_n h
    refine q_ifnull_null cx dX8_cut_10 (tgt := 21) (by decide) ?_
    refine q_iconst cx (pc' := 22) ki_m1 dX8_cut_21 rfl ?_
    obtain rfl := o1_i h
    rw [hQ]
    exact q_iret cx dX8_cut_22
  · replace h := cnul_s h
    refine q_ifnull_ref cx (pc' := 13) dX8_cut_10 rfl ?_
    refine q_iload_n cx (pc' := 14) 3 rfl dX8_cut_13 rfl ?_
    refine q_iconst cx (pc' := 15) ki_2 dX8_cut_14 rfl ?_
    refine q_callS cx (pc' := 18) (S := []) (S1 := [.int (fn_X8_isBelow p2 2)]) (kc' := 0) (ks' := 0) (ct_X8_isBelow Γ l M p2 2) lki_X8_isBelow lkv_X8_isBelow lkc_X8_69 rfl rfl (Nat.le_of_ble_eq_true rfl) ⟨(Nat.le_of_ble_eq_true rfl), (Nat.le_of_ble_eq_true rfl)⟩ ⟨(Nat.le_of_ble_eq_true rfl), (Nat.le_of_ble_eq_true rfl)⟩ dX8_cut_15 rfl rfl rfl ?_
    refine q_if_ne cx (pc' := 21) (tgt := 23) dX8_cut_18 (by decide) rfl (fun c18 => ?_) (fun c18 => ?_)
    · replace h := ine c18 h
      refine q_aload_n cx (pc' := 24) 0 rfl dX8_cut_23 rfl ?_
      refine q_aload_n cx (pc' := 25) 1 rfl dX8_cut_24 rfl ?_
      obtain ⟨ht25, r25, ex25, h⟩ := gR_i h
      refine q_gR cx (pc' := 28) 8 0 fl_X8_12 rfl ht25 ex25 dX8_cut_25 rfl ?_
      obtain ⟨ht28, r28, ex28, h⟩ := gR_i h
      refine q_gR cx (pc' := 31) 5 0 fl_X8_98 rfl ht28 ex28 dX8_cut_28 rfl ?_
      refine q_aload_n cx (pc' := 32) 1 rfl dX8_cut_31 rfl ?_
      obtain ⟨ht32, r32, ex32, h⟩ := gR_i h
      refine q_gR cx (pc' := 35) 8 0 fl_X8_12 rfl ht32 ex32 dX8_cut_32 rfl ?_
      obtain ⟨ht35, r35, ex35, h⟩ := gR_i h
      refine q_gR cx (pc' := 38) 5 7 fl_X8_64 rfl ht35 ex35 dX8_cut_35 rfl ?_
      obtain ⟨ht38, x38, ex38, h⟩ := gI_i h
      refine q_gI cx (pc' := 41) 1 1 fl_X8_101 rfl ht38 ex38 dX8_cut_38 rfl ?_
      obtain ⟨hk41, h⟩ := ck_i h
      obtain ⟨c41, hc41, h⟩ := bnd_i h
      refine q_callV cx (pc' := 44) (S := []) (S1 := [.int c41]) (kc' := 0) (ks' := 0) 7 (ct_X7_bearers Γ l M r10 r28 x38 hk41 _ hc41) lki_X7_bearers lkv_X7_bearers lkc_X8_193 hk41 (r := (RX7, TX7, 4)) ⟨rfl, by decide, rfl⟩ rfl rfl (Nat.le_of_ble_eq_true rfl) ⟨(Nat.le_of_ble_eq_true rfl), (Nat.le_of_ble_eq_true rfl)⟩ ⟨(Nat.le_of_ble_eq_true rfl), (Nat.le_of_ble_eq_true rfl)⟩ dX8_cut_41 rfl rfl rfl ?_
      refine q_aload_n cx (pc' := 45) 0 rfl dX8_cut_44 rfl ?_
      obtain ⟨hk45, h⟩ := ck_i h
      obtain ⟨c45, hc45, h⟩ := bnd_i h
      refine q_callV cx (pc' := 48) (S := [.int c41]) (S1 := [.int c45, .int c41]) (kc' := 0) (ks' := 0) 7 (ct_X7_leaps Γ l M r10 hk45 _ hc45) lki_X7_leaps lkv_X7_leaps lkc_X8_197 hk45 (r := (RX7, TX7, 4)) ⟨rfl, by decide, rfl⟩ rfl rfl (Nat.le_of_ble_eq_true rfl) ⟨(Nat.le_of_ble_eq_true rfl), (Nat.le_of_ble_eq_true rfl)⟩ ⟨(Nat.le_of_ble_eq_true rfl), (Nat.le_of_ble_eq_true rfl)⟩ dX8_cut_45 rfl rfl rfl ?_
      obtain ⟨c48, hc48, h⟩ := bnd_i h
      refine q_callS cx (pc' := 51) (S := []) (S1 := [.int c48]) (kc' := 0) (ks' := 0) (ct_X8_leastCut Γ l M c41 c45 _ hc48) lki_X8_leastCut lkv_X8_leastCut lkc_X8_212 rfl rfl (Nat.le_of_ble_eq_true rfl) ⟨(Nat.le_of_ble_eq_true rfl), (Nat.le_of_ble_eq_true rfl)⟩ ⟨(Nat.le_of_ble_eq_true rfl), (Nat.le_of_ble_eq_true rfl)⟩ dX8_cut_48 rfl rfl rfl ?_
      refine q_istore cx (pc' := 53) rfl (by decide) (L' := [(4, .int c48), (3, .ref r10), (0, .ref ths), (1, .int p1), (2, .int p2)]) rfl dX8_cut_51 rfl ?_
      refine q_iload cx (pc' := 55) 0 rfl dX8_cut_53 rfl ?_
      refine q_if_lt cx (pc' := 58) (tgt := 63) dX8_cut_55 (by decide) rfl (fun c55 => ?_) (fun c55 => ?_)
      · replace h := ip c55 h
        refine q_iload cx (pc' := 65) 0 rfl dX8_cut_63 rfl ?_
        obtain rfl := o1_i h
        rw [hQ]
        exact q_iret cx dX8_cut_65
      · replace h := ine c55 h
        refine q_iload_n cx (pc' := 59) 4 rfl dX8_cut_58 rfl ?_
        refine q_iconst cx (pc' := 60) ki_1 dX8_cut_59 rfl ?_
        refine q_icmp_ne cx (pc' := 63) (tgt := 66) dX8_cut_60 (by decide) rfl (fun c60 => ?_) (fun c60 => ?_)
        · replace h := ine c60 h
          refine q_iload cx (pc' := 68) 0 rfl dX8_cut_66 rfl ?_
          refine q_callS cx (pc' := 71) (S := []) (S1 := [.int (fn_J6_bitCount_0f7a4 c48)]) (kc' := 0) (ks' := 0) (ct_J6_bitCount_0f7a4 Γ l M c48) lki_J6_bitCount_0f7a4 lkv_J6_bitCount_0f7a4 lkc_X8_215 rfl rfl (Nat.le_of_ble_eq_true rfl) ⟨(Nat.le_of_ble_eq_true rfl), (Nat.le_of_ble_eq_true rfl)⟩ ⟨(Nat.le_of_ble_eq_true rfl), (Nat.le_of_ble_eq_true rfl)⟩ dX8_cut_68 rfl rfl rfl ?_
          obtain rfl := o1_i h
          rw [hQ]
          exact q_iret cx dX8_cut_71
        · replace h := ip c60 h
          refine q_iload cx (pc' := 65) 0 rfl dX8_cut_63 rfl ?_
          obtain rfl := o1_i h
          rw [hQ]
          exact q_iret cx dX8_cut_65
    · replace h := ip c18 h
      refine q_iconst cx (pc' := 22) ki_m1 dX8_cut_21 rfl ?_
      obtain rfl := o1_i h
      rw [hQ]
      exact q_iret cx dX8_cut_22

abbrev rm_X8_stirred : Room := { frames := 5, cells := 0, slots := 0, locals := 149 }
def jn_X8_stirred_152_78 (w5_55 : Int32) (j7_152 : Int32) (j8_152 : Int32) (Mj_152 : QM) : Option ((Int32 × Int32 × Int32 × QM) ⊕ (Int32 × Int32 × QM)) :=
  nm ((100 * w5_55) + j7_152) fun v4_163 =>
  nm (j7_152 + 1) fun v7_165 =>
  some (.inl (j8_152, v4_163, v7_165, Mj_152))
def lp_X8_stirred_78 (ths : Nat) (r10 : Nat) (v6_70 : Int32) (w5_55 : Int32) (w3_78 : Int32) (w4_78 : Int32) (w7_78 : Int32) (Mw_78 : QM) : Option ((Int32 × Int32 × Int32 × QM) ⊕ (Int32 × Int32 × QM)) :=
  if 16 ≤ w7_78 then
    some (.inr (w3_78, w4_78, Mw_78))
  else
    if (v6_70 &&& (1 <<< (w7_78 &&& 31))) = 0 then
      nm (w7_78 + 1) fun v7_165 =>
      some (.inl (w3_78, w4_78, v7_165, Mw_78))
    else
      gR Mw_78 ths 8 7 fun r96 =>
      ck Mw_78 r96 2 <|
      bnd (fn_X2_swap Mw_78 r96 w5_55 w7_78) fun M103 =>
      gR M103 ths 8 7 fun r108 =>
      gR M103 ths 8 0 fun r112 =>
      gR M103 r112 5 7 fun r115 =>
      gI M103 r115 1 1 fun x118 =>
      ck M103 r10 7 <|
      bnd (fn_X7_crossing M103 r10 r108 x118) fun c121 =>
      gR M103 ths 8 7 fun r127 =>
      ck M103 r127 2 <|
      bnd (fn_X2_swap M103 r127 w5_55 w7_78) fun M134 =>
      if c121 < 0 then
        nm (w7_78 + 1) fun v7_165 =>
        some (.inl (w3_78, w4_78, v7_165, M134))
      else
        if w3_78 < 0 then
          jn_X8_stirred_152_78 w5_55 w7_78 c121 M134
        else
          if w3_78 ≤ c121 then
            nm (w7_78 + 1) fun v7_165 =>
            some (.inl (w3_78, w4_78, v7_165, M134))
          else
            jn_X8_stirred_152_78 w5_55 w7_78 c121 M134
def lp_X8_stirred_55 (ths : Nat) (r10 : Nat) (w3_55 : Int32) (w4_55 : Int32) (w5_55 : Int32) (Mw_55 : QM) : Option ((Int32 × Int32 × Int32 × QM) ⊕ (Int32 × QM)) :=
  if 16 ≤ w5_55 then
    some (.inr (w4_55, Mw_55))
  else
    nm (fn_X8_around (1 <<< (w5_55 &&& 31)) 0) fun v6_70 =>
    nm (w5_55 + 1) fun v7_76 =>
    bnd (itr (fun s78 : Int32 × Int32 × Int32 × QM => lp_X8_stirred_78 ths r10 v6_70 w5_55 s78.1 s78.2.1 s78.2.2.1 s78.2.2.2) FU (w3_55, w4_55, v7_76, Mw_55)) fun r78 =>
    pr3 r78 fun e3_78 e4_78 Me_78 =>
    nm (w5_55 + 1) fun v5_171 =>
    some (.inl (e3_78, e4_78, v5_171, Me_78))
def fn_X8_stirred (M : QM) (ths : Nat) (p1 : Int32) : Option (Int32 × QM) :=
  gR M ths 8 0 fun r1 =>
  ck M r1 5 <|
  bnd (fn_X5_walkerAt M r1 p1) fun c5 =>
  cnul c5 (
    some ((-1), M)) fun r10 =>
  gR M ths 8 7 fun r16 =>
  gR M ths 8 0 fun r20 =>
  gR M r20 5 0 fun r23 =>
  ck M r16 2 <|
  bnd (fn_X2_become M r16 r23) fun M26 =>
  gR M26 ths 8 7 fun r31 =>
  gR M26 ths 8 0 fun r35 =>
  gR M26 r35 5 7 fun r38 =>
  gI M26 r38 1 1 fun x41 =>
  ck M26 r10 7 <|
  bnd (fn_X7_crossing M26 r10 r31 x41) fun c44 =>
  bnd (itr (fun s55 : Int32 × Int32 × Int32 × QM => lp_X8_stirred_55 ths r10 s55.1 s55.2.1 s55.2.2.1 s55.2.2.2) FU (c44, (-5), 0, M26)) fun r55 =>
  pr2 r55 fun re_55 Mr_55 =>
  some (re_55, Mr_55)
set_option maxRecDepth 100000 in
set_option maxHeartbeats 4000000 in
theorem ct_X8_stirred (Γ : GT) (l : Launch) (M : QM) (ths : Nat) (p1 : Int32) (ht0 : mt M ths = 8) (z : Int32) (M' : QM) (h : fn_X8_stirred M ths p1 = some (z, M')) : CT Γ l yX8_stirred cX8_stirred 9 (some .int) rm_X8_stirred (.ref ths :: [.int p1]) M (some (.int z)) M' := by
  refine ct_intro (own := RX8) (L := [(0, .ref ths), (1, .int p1)]) (by decide +kernel) rfl (Nat.le_of_ble_eq_true rfl) rfl ?_
  intro p e s m args below meth c Q hQ cx hnm
  unfold fn_X8_stirred at h
  refine q_aload_n cx (pc' := 1) 0 rfl dX8_stirred_0 rfl ?_
  obtain ⟨ht1, r1, ex1, h⟩ := gR_i h
  refine q_gR cx (pc' := 4) 8 0 fl_X8_12 rfl ht1 ex1 dX8_stirred_1 rfl ?_
  refine q_iload_n cx (pc' := 5) 1 rfl dX8_stirred_4 rfl ?_
  obtain ⟨hk5, h⟩ := ck_i h
  obtain ⟨c5, hc5, h⟩ := bnd_i h
  refine q_callV cx (pc' := 8) (S := []) (S1 := [va_rf c5]) (kc' := 0) (ks' := 0) 5 (ct_X5_walkerAt Γ l M r1 p1 hk5 _ hc5) lki_X5_walkerAt lkv_X5_walkerAt lkc_X8_85 hk5 (r := (RX5, TX5, 8)) ⟨rfl, by decide, rfl⟩ rfl rfl (Nat.le_of_ble_eq_true rfl) ⟨(Nat.le_of_ble_eq_true rfl), (Nat.le_of_ble_eq_true rfl)⟩ ⟨(Nat.le_of_ble_eq_true rfl), (Nat.le_of_ble_eq_true rfl)⟩ dX8_stirred_5 rfl rfl rfl ?_
  refine q_astore_nO cx (pc' := 9) rfl rfl (by decide) (L' := [(2, va_rf c5), (0, .ref ths), (1, .int p1)]) rfl dX8_stirred_8 rfl ?_
  refine q_aload_nO cx (pc' := 10) 0 rfl dX8_stirred_9 rfl ?_
  rcases c5 with _ | r10
  · replace h := cnul_n h
    refine q_ifnonnull_null cx (pc' := 13) dX8_stirred_10 rfl ?_
    refine q_iconst cx (pc' := 14) ki_m1 dX8_stirred_13 rfl ?_
    obtain ⟨rfl, rfl⟩ := o2_i h
    rw [hQ]
    exact q_iret cx dX8_stirred_14
  · replace h := cnul_s h
    refine q_ifnonnull_ref cx dX8_stirred_10 (tgt := 15) (by decide) ?_
    refine q_aload_n cx (pc' := 16) 1 rfl dX8_stirred_15 rfl ?_
    obtain ⟨ht16, r16, ex16, h⟩ := gR_i h
    refine q_gR cx (pc' := 19) 8 7 fl_X8_44 rfl ht16 ex16 dX8_stirred_16 rfl ?_
    refine q_aload_n cx (pc' := 20) 1 rfl dX8_stirred_19 rfl ?_
    obtain ⟨ht20, r20, ex20, h⟩ := gR_i h
    refine q_gR cx (pc' := 23) 8 0 fl_X8_12 rfl ht20 ex20 dX8_stirred_20 rfl ?_
    obtain ⟨ht23, r23, ex23, h⟩ := gR_i h
    refine q_gR cx (pc' := 26) 5 0 fl_X8_98 rfl ht23 ex23 dX8_stirred_23 rfl ?_
    obtain ⟨hk26, h⟩ := ck_i h
    obtain ⟨M26, hc26, h⟩ := bnd_i h
    refine q_callV cx (pc' := 29) (S := []) (S1 := []) (kc' := 0) (ks' := 0) 2 (ct_X2_become Γ l M r16 r23 hk26 _ hc26) lki_X2_become lkv_X2_become lkc_X8_190 hk26 (r := (RX2, TX2, 2)) ⟨rfl, by decide, rfl⟩ rfl rfl (Nat.le_of_ble_eq_true rfl) ⟨(Nat.le_of_ble_eq_true rfl), (Nat.le_of_ble_eq_true rfl)⟩ ⟨(Nat.le_of_ble_eq_true rfl), (Nat.le_of_ble_eq_true rfl)⟩ dX8_stirred_26 rfl rfl rfl ?_
    refine q_aload_n cx (pc' := 30) 0 rfl dX8_stirred_29 rfl ?_
    refine q_aload_n cx (pc' := 31) 1 rfl dX8_stirred_30 rfl ?_
    obtain ⟨ht31, r31, ex31, h⟩ := gR_i h
    refine q_gR cx (pc' := 34) 8 7 fl_X8_44 rfl ht31 ex31 dX8_stirred_31 rfl ?_
    refine q_aload_n cx (pc' := 35) 1 rfl dX8_stirred_34 rfl ?_
    obtain ⟨ht35, r35, ex35, h⟩ := gR_i h
    refine q_gR cx (pc' := 38) 8 0 fl_X8_12 rfl ht35 ex35 dX8_stirred_35 rfl ?_
    obtain ⟨ht38, r38, ex38, h⟩ := gR_i h
    refine q_gR cx (pc' := 41) 5 7 fl_X8_64 rfl ht38 ex38 dX8_stirred_38 rfl ?_
    obtain ⟨ht41, x41, ex41, h⟩ := gI_i h
    refine q_gI cx (pc' := 44) 1 1 fl_X8_101 rfl ht41 ex41 dX8_stirred_41 rfl ?_
    obtain ⟨hk44, h⟩ := ck_i h
    obtain ⟨c44, hc44, h⟩ := bnd_i h
    refine q_callV cx (pc' := 47) (S := []) (S1 := [.int c44]) (kc' := 0) (ks' := 0) 7 (ct_X7_crossing Γ l M26 r10 r31 x41 hk44 _ hc44) lki_X7_crossing lkv_X7_crossing lkc_X8_104 hk44 (r := (RX7, TX7, 4)) ⟨rfl, by decide, rfl⟩ rfl rfl (Nat.le_of_ble_eq_true rfl) ⟨(Nat.le_of_ble_eq_true rfl), (Nat.le_of_ble_eq_true rfl)⟩ ⟨(Nat.le_of_ble_eq_true rfl), (Nat.le_of_ble_eq_true rfl)⟩ dX8_stirred_44 rfl rfl rfl ?_
    refine q_istore_n cx (pc' := 48) rfl rfl (by decide) (L' := [(3, .int c44), (2, .ref r10), (0, .ref ths), (1, .int p1)]) rfl dX8_stirred_47 rfl ?_
    refine q_bipush cx (pc' := 50) kb_m5 dX8_stirred_48 rfl ?_
    refine q_istore cx (pc' := 52) rfl (by decide) (L' := [(4, .int (-5)), (3, .int c44), (2, .ref r10), (0, .ref ths), (1, .int p1)]) rfl dX8_stirred_50 rfl ?_
    refine q_iconst cx (pc' := 53) ki_0 dX8_stirred_52 rfl ?_
    refine q_istore cx (pc' := 55) rfl (by decide) (L' := [(5, .int 0), (4, .int (-5)), (3, .int c44), (2, .ref r10), (0, .ref ths), (1, .int p1)]) rfl dX8_stirred_53 rfl ?_
    obtain ⟨r55, hL55, h⟩ := bnd_i h
    have hk55_r : ∀ (re_55 : Int32) (Mr_55 : QM), (re_55, Mr_55) = r55 → some (re_55, Mr_55) = some (z, M') := by
      intro re_55 Mr_55 hp
      subst hp
      replace h := pr2_i h
      exact h
    have key55 : ∀ (n : Nat) (w3_55 : Int32) (w4_55 : Int32) (w5_55 : Int32) (Mw_55 : QM), itr (fun s55 : Int32 × Int32 × Int32 × QM => lp_X8_stirred_55 ths r10 s55.1 s55.2.1 s55.2.2.1 s55.2.2.2) n (w3_55, w4_55, w5_55, Mw_55) = some r55 → EE p l e rm_X8_stirred s m args below meth c Q Γ 9 0 0 55 [(0, .ref ths), (2, .ref r10), (3, .int w3_55), (4, .int w4_55), (5, .int w5_55)] [] Mw_55 := by
      intro n
      induction n with
      | zero => intro _ _ _ _ h; exact (itr_0 h).elim
      | succ n ih =>
        intro w3_55 w4_55 w5_55 Mw_55 h
        obtain ⟨z55, h, hz55⟩ := itr_i h
        replace h : lp_X8_stirred_55 ths r10 w3_55 w4_55 w5_55 Mw_55 = some z55 := h
        unfold lp_X8_stirred_55 at h
        refine q_iload cx (pc' := 57) 4 rfl dX8_stirred_55 rfl ?_
        refine q_bipush cx (pc' := 59) kb_16 dX8_stirred_57 rfl ?_
        refine q_icmp_ge cx (pc' := 62) (tgt := 177) dX8_stirred_59 (by decide) rfl (fun c59 => ?_) (fun c59 => ?_)
        · replace h := ip c59 h
          refine q_iload cx (pc' := 179) 3 rfl dX8_stirred_177 rfl ?_
          replace h := hk55_r _ _ (hz55.2 _ h)
          obtain ⟨rfl, rfl⟩ := o2_i h
          rw [hQ]
          exact q_iret cx dX8_stirred_179
        · replace h := ine c59 h
          refine q_iconst cx (pc' := 63) ki_1 dX8_stirred_62 rfl ?_
          refine q_iload cx (pc' := 65) 4 rfl dX8_stirred_63 rfl ?_
          refine q_ishl cx (pc' := 66) dX8_stirred_65 rfl ?_
          refine q_iconst cx (pc' := 67) ki_0 dX8_stirred_66 rfl ?_
          refine q_callS cx (pc' := 70) (S := []) (S1 := [.int (fn_X8_around (1 <<< (w5_55 &&& 31)) 0)]) (kc' := 0) (ks' := 0) (ct_X8_around Γ l Mw_55 (1 <<< (w5_55 &&& 31)) 0) lki_X8_around lkv_X8_around lkc_X8_138 rfl rfl (Nat.le_of_ble_eq_true rfl) ⟨(Nat.le_of_ble_eq_true rfl), (Nat.le_of_ble_eq_true rfl)⟩ ⟨(Nat.le_of_ble_eq_true rfl), (Nat.le_of_ble_eq_true rfl)⟩ dX8_stirred_67 rfl rfl rfl ?_
          obtain ⟨v6_70, ev6_70, h⟩ := nm_i h
          refine q_istore cx (pc' := 72) ev6_70 (by decide) (L' := [(6, .int v6_70), (0, .ref ths), (2, .ref r10), (3, .int w3_55), (4, .int w4_55), (5, .int w5_55)]) rfl dX8_stirred_70 rfl ?_
          refine q_iload cx (pc' := 74) 5 rfl dX8_stirred_72 rfl ?_
          refine q_iconst cx (pc' := 75) ki_1 dX8_stirred_74 rfl ?_
          refine q_iadd cx (pc' := 76) dX8_stirred_75 rfl ?_
          obtain ⟨v7_76, ev7_76, h⟩ := nm_i h
          refine q_istore cx (pc' := 78) ev7_76 (by decide) (L' := [(7, .int v7_76), (6, .int v6_70), (0, .ref ths), (2, .ref r10), (3, .int w3_55), (4, .int w4_55), (5, .int w5_55)]) rfl dX8_stirred_76 rfl ?_
          obtain ⟨r78, hL78, h⟩ := bnd_i h
          have hk78_0 : ∀ (e3_78 : Int32) (e4_78 : Int32) (Me_78 : QM), (e3_78, e4_78, Me_78) = r78 → EE p l e rm_X8_stirred s m args below meth c Q Γ 9 0 0 171 [(0, .ref ths), (2, .ref r10), (3, .int e3_78), (4, .int e4_78), (5, .int w5_55)] [] Me_78 := by
            intro e3_78 e4_78 Me_78 hp
            subst hp
            replace h := pr3_i h
            obtain ⟨v5_171, ev5_171, h⟩ := nm_i h
            refine q_iinc cx (pc' := 174) 4 rfl ki_1 ev5_171 (by decide) (L' := [(5, .int v5_171), (0, .ref ths), (2, .ref r10), (3, .int e3_78), (4, .int e4_78)]) rfl dX8_stirred_171 rfl ?_
            refine q_goto cx dX8_stirred_174 (tgt := 55) (by decide) ?_
            refine q_sub cx [1, 2, 3, 4, 0] rfl ?_
            exact ih _ _ _ _ (hz55.1 _ h)
          have key78 : ∀ (n : Nat) (w3_78 : Int32) (w4_78 : Int32) (w7_78 : Int32) (Mw_78 : QM), itr (fun s78 : Int32 × Int32 × Int32 × QM => lp_X8_stirred_78 ths r10 v6_70 w5_55 s78.1 s78.2.1 s78.2.2.1 s78.2.2.2) n (w3_78, w4_78, w7_78, Mw_78) = some r78 → EE p l e rm_X8_stirred s m args below meth c Q Γ 9 0 0 78 [(0, .ref ths), (2, .ref r10), (3, .int w3_78), (4, .int w4_78), (5, .int w5_55), (6, .int v6_70), (7, .int w7_78)] [] Mw_78 := by
            intro n
            induction n with
            | zero => intro _ _ _ _ h; exact (itr_0 h).elim
            | succ n ih =>
              intro w3_78 w4_78 w7_78 Mw_78 h
              obtain ⟨z78, h, hz78⟩ := itr_i h
              replace h : lp_X8_stirred_78 ths r10 v6_70 w5_55 w3_78 w4_78 w7_78 Mw_78 = some z78 := h
              unfold lp_X8_stirred_78 at h
              have hj152 : ∀ (j7_152 : Int32) (j8_152 : Int32) (Mj_152 : QM), jn_X8_stirred_152_78 w5_55 j7_152 j8_152 Mj_152 = some z78 → EE p l e rm_X8_stirred s m args below meth c Q Γ 9 0 0 152 [(0, .ref ths), (2, .ref r10), (5, .int w5_55), (6, .int v6_70), (7, .int j7_152), (8, .int j8_152)] [] Mj_152 := by
                intro j7_152 j8_152 Mj_152 h
                unfold jn_X8_stirred_152_78 at h
                refine q_iload cx (pc' := 154) 5 rfl dX8_stirred_152 rfl ?_
                refine q_istore_n cx (pc' := 155) rfl rfl (by decide) (L' := [(3, .int j8_152), (0, .ref ths), (2, .ref r10), (5, .int w5_55), (6, .int v6_70), (7, .int j7_152), (8, .int j8_152)]) rfl dX8_stirred_154 rfl ?_
                refine q_bipush cx (pc' := 157) kb_100 dX8_stirred_155 rfl ?_
                refine q_iload cx (pc' := 159) 3 rfl dX8_stirred_157 rfl ?_
                refine q_imul cx (pc' := 160) dX8_stirred_159 rfl ?_
                refine q_iload cx (pc' := 162) 5 rfl dX8_stirred_160 rfl ?_
                refine q_iadd cx (pc' := 163) dX8_stirred_162 rfl ?_
                obtain ⟨v4_163, ev4_163, h⟩ := nm_i h
                refine q_istore cx (pc' := 165) ev4_163 (by decide) (L' := [(4, .int v4_163), (3, .int j8_152), (0, .ref ths), (2, .ref r10), (5, .int w5_55), (6, .int v6_70), (7, .int j7_152), (8, .int j8_152)]) rfl dX8_stirred_163 rfl ?_
                obtain ⟨v7_165, ev7_165, h⟩ := nm_i h
                refine q_iinc cx (pc' := 168) 6 rfl ki_1 ev7_165 (by decide) (L' := [(7, .int v7_165), (4, .int v4_163), (3, .int j8_152), (0, .ref ths), (2, .ref r10), (5, .int w5_55), (6, .int v6_70), (8, .int j8_152)]) rfl dX8_stirred_165 rfl ?_
                refine q_goto cx dX8_stirred_168 (tgt := 78) (by decide) ?_
                refine q_sub cx [3, 4, 2, 1, 5, 6, 0] rfl ?_
                exact ih _ _ _ _ (hz78.1 _ h)
              refine q_iload cx (pc' := 80) 6 rfl dX8_stirred_78 rfl ?_
              refine q_bipush cx (pc' := 82) kb_16 dX8_stirred_80 rfl ?_
              refine q_icmp_ge cx (pc' := 85) (tgt := 171) dX8_stirred_82 (by decide) rfl (fun c82 => ?_) (fun c82 => ?_)
              · replace h := ip c82 h
                refine q_sub cx [0, 1, 2, 3, 4] rfl ?_
                exact hk78_0 _ _ _ (hz78.2 _ h)
              · replace h := ine c82 h
                refine q_iload cx (pc' := 87) 5 rfl dX8_stirred_85 rfl ?_
                refine q_iconst cx (pc' := 88) ki_1 dX8_stirred_87 rfl ?_
                refine q_iload cx (pc' := 90) 6 rfl dX8_stirred_88 rfl ?_
                refine q_ishl cx (pc' := 91) dX8_stirred_90 rfl ?_
                refine q_iand cx (pc' := 92) dX8_stirred_91 rfl ?_
                refine q_if_eq cx (pc' := 95) (tgt := 165) dX8_stirred_92 (by decide) rfl (fun c92 => ?_) (fun c92 => ?_)
                · replace h := ip c92 h
                  obtain ⟨v7_165, ev7_165, h⟩ := nm_i h
                  refine q_iinc cx (pc' := 168) 6 rfl ki_1 ev7_165 (by decide) (L' := [(7, .int v7_165), (0, .ref ths), (2, .ref r10), (3, .int w3_78), (4, .int w4_78), (5, .int w5_55), (6, .int v6_70)]) rfl dX8_stirred_165 rfl ?_
                  refine q_goto cx dX8_stirred_168 (tgt := 78) (by decide) ?_
                  refine q_sub cx [1, 2, 3, 4, 5, 6, 0] rfl ?_
                  exact ih _ _ _ _ (hz78.1 _ h)
                · replace h := ine c92 h
                  refine q_aload_n cx (pc' := 96) 0 rfl dX8_stirred_95 rfl ?_
                  obtain ⟨ht96, r96, ex96, h⟩ := gR_i h
                  refine q_gR cx (pc' := 99) 8 7 fl_X8_44 rfl ht96 ex96 dX8_stirred_96 rfl ?_
                  refine q_iload cx (pc' := 101) 4 rfl dX8_stirred_99 rfl ?_
                  refine q_iload cx (pc' := 103) 6 rfl dX8_stirred_101 rfl ?_
                  obtain ⟨hk103, h⟩ := ck_i h
                  obtain ⟨M103, hc103, h⟩ := bnd_i h
                  refine q_callV cx (pc' := 106) (S := []) (S1 := []) (kc' := 0) (ks' := 0) 2 (ct_X2_swap Γ l Mw_78 r96 w5_55 w7_78 hk103 _ hc103) lki_X2_swap lkv_X2_swap lkc_X8_142 hk103 (r := (RX2, TX2, 2)) ⟨rfl, by decide, rfl⟩ rfl rfl (Nat.le_of_ble_eq_true rfl) ⟨(Nat.le_of_ble_eq_true rfl), (Nat.le_of_ble_eq_true rfl)⟩ ⟨(Nat.le_of_ble_eq_true rfl), (Nat.le_of_ble_eq_true rfl)⟩ dX8_stirred_103 rfl rfl rfl ?_
                  refine q_aload_n cx (pc' := 107) 1 rfl dX8_stirred_106 rfl ?_
                  refine q_aload_n cx (pc' := 108) 0 rfl dX8_stirred_107 rfl ?_
                  obtain ⟨ht108, r108, ex108, h⟩ := gR_i h
                  refine q_gR cx (pc' := 111) 8 7 fl_X8_44 rfl ht108 ex108 dX8_stirred_108 rfl ?_
                  refine q_aload_n cx (pc' := 112) 0 rfl dX8_stirred_111 rfl ?_
                  obtain ⟨ht112, r112, ex112, h⟩ := gR_i h
                  refine q_gR cx (pc' := 115) 8 0 fl_X8_12 rfl ht112 ex112 dX8_stirred_112 rfl ?_
                  obtain ⟨ht115, r115, ex115, h⟩ := gR_i h
                  refine q_gR cx (pc' := 118) 5 7 fl_X8_64 rfl ht115 ex115 dX8_stirred_115 rfl ?_
                  obtain ⟨ht118, x118, ex118, h⟩ := gI_i h
                  refine q_gI cx (pc' := 121) 1 1 fl_X8_101 rfl ht118 ex118 dX8_stirred_118 rfl ?_
                  obtain ⟨hk121, h⟩ := ck_i h
                  obtain ⟨c121, hc121, h⟩ := bnd_i h
                  refine q_callV cx (pc' := 124) (S := []) (S1 := [.int c121]) (kc' := 0) (ks' := 0) 7 (ct_X7_crossing Γ l M103 r10 r108 x118 hk121 _ hc121) lki_X7_crossing lkv_X7_crossing lkc_X8_104 hk121 (r := (RX7, TX7, 4)) ⟨rfl, by decide, rfl⟩ rfl rfl (Nat.le_of_ble_eq_true rfl) ⟨(Nat.le_of_ble_eq_true rfl), (Nat.le_of_ble_eq_true rfl)⟩ ⟨(Nat.le_of_ble_eq_true rfl), (Nat.le_of_ble_eq_true rfl)⟩ dX8_stirred_121 rfl rfl rfl ?_
                  refine q_istore cx (pc' := 126) rfl (by decide) (L' := [(8, .int c121), (0, .ref ths), (2, .ref r10), (3, .int w3_78), (4, .int w4_78), (5, .int w5_55), (6, .int v6_70), (7, .int w7_78)]) rfl dX8_stirred_124 rfl ?_
                  refine q_aload_n cx (pc' := 127) 1 rfl dX8_stirred_126 rfl ?_
                  obtain ⟨ht127, r127, ex127, h⟩ := gR_i h
                  refine q_gR cx (pc' := 130) 8 7 fl_X8_44 rfl ht127 ex127 dX8_stirred_127 rfl ?_
                  refine q_iload cx (pc' := 132) 5 rfl dX8_stirred_130 rfl ?_
                  refine q_iload cx (pc' := 134) 7 rfl dX8_stirred_132 rfl ?_
                  obtain ⟨hk134, h⟩ := ck_i h
                  obtain ⟨M134, hc134, h⟩ := bnd_i h
                  refine q_callV cx (pc' := 137) (S := []) (S1 := []) (kc' := 0) (ks' := 0) 2 (ct_X2_swap Γ l M103 r127 w5_55 w7_78 hk134 _ hc134) lki_X2_swap lkv_X2_swap lkc_X8_142 hk134 (r := (RX2, TX2, 2)) ⟨rfl, by decide, rfl⟩ rfl rfl (Nat.le_of_ble_eq_true rfl) ⟨(Nat.le_of_ble_eq_true rfl), (Nat.le_of_ble_eq_true rfl)⟩ ⟨(Nat.le_of_ble_eq_true rfl), (Nat.le_of_ble_eq_true rfl)⟩ dX8_stirred_134 rfl rfl rfl ?_
                  refine q_iload cx (pc' := 139) 0 rfl dX8_stirred_137 rfl ?_
                  refine q_if_lt cx (pc' := 142) (tgt := 165) dX8_stirred_139 (by decide) rfl (fun c139 => ?_) (fun c139 => ?_)
                  · replace h := ip c139 h
                    obtain ⟨v7_165, ev7_165, h⟩ := nm_i h
                    refine q_iinc cx (pc' := 168) 7 rfl ki_1 ev7_165 (by decide) (L' := [(7, .int v7_165), (8, .int c121), (0, .ref ths), (2, .ref r10), (3, .int w3_78), (4, .int w4_78), (5, .int w5_55), (6, .int v6_70)]) rfl dX8_stirred_165 rfl ?_
                    refine q_goto cx dX8_stirred_168 (tgt := 78) (by decide) ?_
                    refine q_sub cx [2, 3, 4, 5, 6, 7, 0] rfl ?_
                    exact ih _ _ _ _ (hz78.1 _ h)
                  · replace h := ine c139 h
                    refine q_iload_n cx (pc' := 143) 3 rfl dX8_stirred_142 rfl ?_
                    refine q_if_lt cx (pc' := 146) (tgt := 152) dX8_stirred_143 (by decide) rfl (fun c143 => ?_) (fun c143 => ?_)
                    · replace h := ip c143 h
                      refine q_sub cx [1, 2, 5, 6, 7, 0] rfl ?_
                      exact hj152 _ _ _ h
                    · replace h := ine c143 h
                      refine q_iload cx (pc' := 148) 0 rfl dX8_stirred_146 rfl ?_
                      refine q_iload_n cx (pc' := 149) 3 rfl dX8_stirred_148 rfl ?_
                      refine q_icmp_ge cx (pc' := 152) (tgt := 165) dX8_stirred_149 (by decide) rfl (fun c149 => ?_) (fun c149 => ?_)
                      · replace h := ip c149 h
                        obtain ⟨v7_165, ev7_165, h⟩ := nm_i h
                        refine q_iinc cx (pc' := 168) 7 rfl ki_1 ev7_165 (by decide) (L' := [(7, .int v7_165), (8, .int c121), (0, .ref ths), (2, .ref r10), (3, .int w3_78), (4, .int w4_78), (5, .int w5_55), (6, .int v6_70)]) rfl dX8_stirred_165 rfl ?_
                        refine q_goto cx dX8_stirred_168 (tgt := 78) (by decide) ?_
                        refine q_sub cx [2, 3, 4, 5, 6, 7, 0] rfl ?_
                        exact ih _ _ _ _ (hz78.1 _ h)
                      · replace h := ine c149 h
                        refine q_sub cx [1, 2, 5, 6, 7, 0] rfl ?_
                        exact hj152 _ _ _ h
          refine q_sub cx [2, 3, 4, 5, 6, 1, 0] rfl ?_
          exact key78 FU _ _ _ _ hL78
    refine q_sub cx [4, 3, 2, 1, 0] rfl ?_
    exact key55 FU _ _ _ _ hL55

abbrev rm_X8_meet : Room := { frames := 4, cells := 0, slots := 0, locals := 127 }
def jn_X8_meet_164_95 (j9_164 : Int32) (j10_164 : Int32) (j11_164 : Int32) : Option ((Int32 × Int32 × Int32) ⊕ (Int32)) :=
  nm (j10_164 + j11_164) fun v7_169 =>
  nm (j9_164 + 1) fun v9_175 =>
  some (.inl (v7_169, j9_164, v9_175))
def lp_X8_meet_95 (M : QM) (c56 : Int32) (c80 : Int32) (r20 : Nat) (r25 : Nat) (w7_95 : Int32) (w8_95 : Int32) (w9_95 : Int32) : Option ((Int32 × Int32 × Int32) ⊕ (Int32)) :=
  if 16 ≤ w9_95 then
    some (.inr w8_95)
  else
    ck M r20 7 <|
    bnd (fn_X7_leaps M r20) fun c112 =>
    bnd (fn_X8_fewest 4369 (1 <<< (w9_95 &&& 31)) c56 c112) fun c115 =>
    ck M r25 7 <|
    bnd (fn_X7_leaps M r25) fun c131 =>
    bnd (fn_X8_fewest 4369 (1 <<< (w9_95 &&& 31)) c80 c131) fun c134 =>
    if c115 < 0 then
      nm (w9_95 + 1) fun v9_175 =>
      some (.inl (w7_95, w8_95, v9_175))
    else
      if c134 < 0 then
        nm (w9_95 + 1) fun v9_175 =>
        some (.inl (w7_95, w8_95, v9_175))
      else
        if w8_95 < 0 then
          jn_X8_meet_164_95 w9_95 c115 c134
        else
          if w7_95 ≤ (c115 + c134) then
            nm (w9_95 + 1) fun v9_175 =>
            some (.inl (w7_95, w8_95, v9_175))
          else
            jn_X8_meet_164_95 w9_95 c115 c134
def fn_X8_meet (M : QM) (ths : Nat) (p1 : Int32) (p2 : Int32) : Option Int32 :=
  gR M ths 8 0 fun r1 =>
  ck M r1 5 <|
  bnd (fn_X5_walkerAt M r1 p1) fun c5 =>
  gR M ths 8 0 fun r10 =>
  ck M r10 5 <|
  bnd (fn_X5_walkerAt M r10 p2) fun c14 =>
  cnul c5 (
    some (-1)) fun r20 =>
  cnul c14 (
    some (-1)) fun r25 =>
  if p1 = p2 then
    some (-2)
  else
    gR M ths 8 0 fun r40 =>
    gR M r40 5 0 fun r43 =>
    gR M ths 8 0 fun r47 =>
    gR M r47 5 7 fun r50 =>
    gI M r50 1 1 fun x53 =>
    ck M r20 7 <|
    bnd (fn_X7_bearers M r20 r43 x53) fun c56 =>
    gR M ths 8 0 fun r64 =>
    gR M r64 5 0 fun r67 =>
    gR M ths 8 0 fun r71 =>
    gR M r71 5 7 fun r74 =>
    gI M r74 1 1 fun x77 =>
    ck M r25 7 <|
    bnd (fn_X7_bearers M r25 r67 x77) fun c80 =>
    bnd (itr (fun s95 : Int32 × Int32 × Int32 => lp_X8_meet_95 M c56 c80 r20 r25 s95.1 s95.2.1 s95.2.2) FU (0, (-5), 0)) fun re_95 =>
    some re_95
set_option maxRecDepth 100000 in
set_option maxHeartbeats 4000000 in
theorem ct_X8_meet (Γ : GT) (l : Launch) (M : QM) (ths : Nat) (p1 : Int32) (p2 : Int32) (ht0 : mt M ths = 8) (z : Int32) (h : fn_X8_meet M ths p1 p2 = some z) : CT Γ l yX8_meet cX8_meet 12 (some .int) rm_X8_meet (.ref ths :: [.int p1, .int p2]) M (some (.int z)) M := by
  refine ct_intro (own := RX8) (L := [(0, .ref ths), (1, .int p1), (2, .int p2)]) (by decide +kernel) rfl (Nat.le_of_ble_eq_true rfl) rfl ?_
  intro p e s m args below meth c Q hQ cx hnm
  unfold fn_X8_meet at h
  refine q_aload_n cx (pc' := 1) 0 rfl dX8_meet_0 rfl ?_
  obtain ⟨ht1, r1, ex1, h⟩ := gR_i h
  refine q_gR cx (pc' := 4) 8 0 fl_X8_12 rfl ht1 ex1 dX8_meet_1 rfl ?_
  refine q_iload_n cx (pc' := 5) 1 rfl dX8_meet_4 rfl ?_
  obtain ⟨hk5, h⟩ := ck_i h
  obtain ⟨c5, hc5, h⟩ := bnd_i h
  refine q_callV cx (pc' := 8) (S := []) (S1 := [va_rf c5]) (kc' := 0) (ks' := 0) 5 (ct_X5_walkerAt Γ l M r1 p1 hk5 _ hc5) lki_X5_walkerAt lkv_X5_walkerAt lkc_X8_85 hk5 (r := (RX5, TX5, 8)) ⟨rfl, by decide, rfl⟩ rfl rfl (Nat.le_of_ble_eq_true rfl) ⟨(Nat.le_of_ble_eq_true rfl), (Nat.le_of_ble_eq_true rfl)⟩ ⟨(Nat.le_of_ble_eq_true rfl), (Nat.le_of_ble_eq_true rfl)⟩ dX8_meet_5 rfl rfl rfl ?_
  refine q_astore_nO cx (pc' := 9) rfl rfl (by decide) (L' := [(3, va_rf c5), (0, .ref ths), (1, .int p1), (2, .int p2)]) rfl dX8_meet_8 rfl ?_
  refine q_aload_n cx (pc' := 10) 1 rfl dX8_meet_9 rfl ?_
  obtain ⟨ht10, r10, ex10, h⟩ := gR_i h
  refine q_gR cx (pc' := 13) 8 0 fl_X8_12 rfl ht10 ex10 dX8_meet_10 rfl ?_
  refine q_iload_n cx (pc' := 14) 3 rfl dX8_meet_13 rfl ?_
  obtain ⟨hk14, h⟩ := ck_i h
  obtain ⟨c14, hc14, h⟩ := bnd_i h
  refine q_callV cx (pc' := 17) (S := []) (S1 := [va_rf c14]) (kc' := 0) (ks' := 0) 5 (ct_X5_walkerAt Γ l M r10 p2 hk14 _ hc14) lki_X5_walkerAt lkv_X5_walkerAt lkc_X8_85 hk14 (r := (RX5, TX5, 8)) ⟨rfl, by decide, rfl⟩ rfl rfl (Nat.le_of_ble_eq_true rfl) ⟨(Nat.le_of_ble_eq_true rfl), (Nat.le_of_ble_eq_true rfl)⟩ ⟨(Nat.le_of_ble_eq_true rfl), (Nat.le_of_ble_eq_true rfl)⟩ dX8_meet_14 rfl rfl rfl ?_
  refine q_astoreO cx (pc' := 19) rfl (by decide) (L' := [(4, va_rf c14), (3, va_rf c5), (0, .ref ths), (1, .int p1), (2, .int p2)]) (by cases c5 <;> rfl) dX8_meet_17 rfl ?_
  refine q_aload_nO cx (pc' := 20) 1 rfl dX8_meet_19 rfl ?_
  rcases c5 with _ | r20
  · replace h := cnul_n h
    refine q_ifnull_null cx dX8_meet_20 (tgt := 28) (by decide) ?_
    refine q_iconst cx (pc' := 29) ki_m1 dX8_meet_28 rfl ?_
    obtain rfl := o1_i h
    rw [hQ]
    exact q_iret cx dX8_meet_29
  · replace h := cnul_s h
    refine q_ifnull_ref cx (pc' := 23) dX8_meet_20 rfl ?_
    refine q_aloadO cx (pc' := 25) 0 rfl dX8_meet_23 rfl ?_
    rcases c14 with _ | r25
    · replace h := cnul_n h
      refine q_ifnonnull_null cx (pc' := 28) dX8_meet_25 rfl ?_
      refine q_iconst cx (pc' := 29) ki_m1 dX8_meet_28 rfl ?_
      obtain rfl := o1_i h
      rw [hQ]
      exact q_iret cx dX8_meet_29
    · replace h := cnul_s h
      refine q_ifnonnull_ref cx dX8_meet_25 (tgt := 30) (by decide) ?_
      refine q_iload_n cx (pc' := 31) 3 rfl dX8_meet_30 rfl ?_
      refine q_iload_n cx (pc' := 32) 4 rfl dX8_meet_31 rfl ?_
      refine q_icmp_ne cx (pc' := 35) (tgt := 38) dX8_meet_32 (by decide) rfl (fun c32 => ?_) (fun c32 => ?_)
      · replace h := ine c32 h
        refine q_aload_n cx (pc' := 39) 1 rfl dX8_meet_38 rfl ?_
        refine q_aload_n cx (pc' := 40) 2 rfl dX8_meet_39 rfl ?_
        obtain ⟨ht40, r40, ex40, h⟩ := gR_i h
        refine q_gR cx (pc' := 43) 8 0 fl_X8_12 rfl ht40 ex40 dX8_meet_40 rfl ?_
        obtain ⟨ht43, r43, ex43, h⟩ := gR_i h
        refine q_gR cx (pc' := 46) 5 0 fl_X8_98 rfl ht43 ex43 dX8_meet_43 rfl ?_
        refine q_aload_n cx (pc' := 47) 2 rfl dX8_meet_46 rfl ?_
        obtain ⟨ht47, r47, ex47, h⟩ := gR_i h
        refine q_gR cx (pc' := 50) 8 0 fl_X8_12 rfl ht47 ex47 dX8_meet_47 rfl ?_
        obtain ⟨ht50, r50, ex50, h⟩ := gR_i h
        refine q_gR cx (pc' := 53) 5 7 fl_X8_64 rfl ht50 ex50 dX8_meet_50 rfl ?_
        obtain ⟨ht53, x53, ex53, h⟩ := gI_i h
        refine q_gI cx (pc' := 56) 1 1 fl_X8_101 rfl ht53 ex53 dX8_meet_53 rfl ?_
        obtain ⟨hk56, h⟩ := ck_i h
        obtain ⟨c56, hc56, h⟩ := bnd_i h
        refine q_callV cx (pc' := 59) (S := []) (S1 := [.int c56]) (kc' := 0) (ks' := 0) 7 (ct_X7_bearers Γ l M r20 r43 x53 hk56 _ hc56) lki_X7_bearers lkv_X7_bearers lkc_X8_193 hk56 (r := (RX7, TX7, 4)) ⟨rfl, by decide, rfl⟩ rfl rfl (Nat.le_of_ble_eq_true rfl) ⟨(Nat.le_of_ble_eq_true rfl), (Nat.le_of_ble_eq_true rfl)⟩ ⟨(Nat.le_of_ble_eq_true rfl), (Nat.le_of_ble_eq_true rfl)⟩ dX8_meet_56 rfl rfl rfl ?_
        refine q_istore cx (pc' := 61) rfl (by decide) (L' := [(5, .int c56), (4, .ref r25), (3, .ref r20), (0, .ref ths), (1, .int p1), (2, .int p2)]) rfl dX8_meet_59 rfl ?_
        refine q_aload cx (pc' := 63) 1 rfl dX8_meet_61 rfl ?_
        refine q_aload_n cx (pc' := 64) 3 rfl dX8_meet_63 rfl ?_
        obtain ⟨ht64, r64, ex64, h⟩ := gR_i h
        refine q_gR cx (pc' := 67) 8 0 fl_X8_12 rfl ht64 ex64 dX8_meet_64 rfl ?_
        obtain ⟨ht67, r67, ex67, h⟩ := gR_i h
        refine q_gR cx (pc' := 70) 5 0 fl_X8_98 rfl ht67 ex67 dX8_meet_67 rfl ?_
        refine q_aload_n cx (pc' := 71) 3 rfl dX8_meet_70 rfl ?_
        obtain ⟨ht71, r71, ex71, h⟩ := gR_i h
        refine q_gR cx (pc' := 74) 8 0 fl_X8_12 rfl ht71 ex71 dX8_meet_71 rfl ?_
        obtain ⟨ht74, r74, ex74, h⟩ := gR_i h
        refine q_gR cx (pc' := 77) 5 7 fl_X8_64 rfl ht74 ex74 dX8_meet_74 rfl ?_
        obtain ⟨ht77, x77, ex77, h⟩ := gI_i h
        refine q_gI cx (pc' := 80) 1 1 fl_X8_101 rfl ht77 ex77 dX8_meet_77 rfl ?_
        obtain ⟨hk80, h⟩ := ck_i h
        obtain ⟨c80, hc80, h⟩ := bnd_i h
        refine q_callV cx (pc' := 83) (S := []) (S1 := [.int c80]) (kc' := 0) (ks' := 0) 7 (ct_X7_bearers Γ l M r25 r67 x77 hk80 _ hc80) lki_X7_bearers lkv_X7_bearers lkc_X8_193 hk80 (r := (RX7, TX7, 4)) ⟨rfl, by decide, rfl⟩ rfl rfl (Nat.le_of_ble_eq_true rfl) ⟨(Nat.le_of_ble_eq_true rfl), (Nat.le_of_ble_eq_true rfl)⟩ ⟨(Nat.le_of_ble_eq_true rfl), (Nat.le_of_ble_eq_true rfl)⟩ dX8_meet_80 rfl rfl rfl ?_
        refine q_istore cx (pc' := 85) rfl (by decide) (L' := [(6, .int c80), (5, .int c56), (4, .ref r25), (3, .ref r20), (0, .ref ths), (1, .int p1), (2, .int p2)]) rfl dX8_meet_83 rfl ?_
        refine q_iconst cx (pc' := 86) ki_0 dX8_meet_85 rfl ?_
        refine q_istore cx (pc' := 88) rfl (by decide) (L' := [(7, .int 0), (6, .int c80), (5, .int c56), (4, .ref r25), (3, .ref r20), (0, .ref ths), (1, .int p1), (2, .int p2)]) rfl dX8_meet_86 rfl ?_
        refine q_bipush cx (pc' := 90) kb_m5 dX8_meet_88 rfl ?_
        refine q_istore cx (pc' := 92) rfl (by decide) (L' := [(8, .int (-5)), (7, .int 0), (6, .int c80), (5, .int c56), (4, .ref r25), (3, .ref r20), (0, .ref ths), (1, .int p1), (2, .int p2)]) rfl dX8_meet_90 rfl ?_
        refine q_iconst cx (pc' := 93) ki_0 dX8_meet_92 rfl ?_
        refine q_istore cx (pc' := 95) rfl (by decide) (L' := [(9, .int 0), (8, .int (-5)), (7, .int 0), (6, .int c80), (5, .int c56), (4, .ref r25), (3, .ref r20), (0, .ref ths), (1, .int p1), (2, .int p2)]) rfl dX8_meet_93 rfl ?_
        obtain ⟨r95, hL95, h⟩ := bnd_i h
        have hk95_r : ∀ (re_95 : Int32), re_95 = r95 → some re_95 = some z := by
          intro re_95 hp
          subst hp
          exact h
        have key95 : ∀ (n : Nat) (w7_95 : Int32) (w8_95 : Int32) (w9_95 : Int32), itr (fun s95 : Int32 × Int32 × Int32 => lp_X8_meet_95 M c56 c80 r20 r25 s95.1 s95.2.1 s95.2.2) n (w7_95, w8_95, w9_95) = some r95 → EE p l e rm_X8_meet s m args below meth c Q Γ 12 0 0 95 [(3, .ref r20), (4, .ref r25), (5, .int c56), (6, .int c80), (7, .int w7_95), (8, .int w8_95), (9, .int w9_95)] [] M := by
          intro n
          induction n with
          | zero => intro _ _ _ h; exact (itr_0 h).elim
          | succ n ih =>
            intro w7_95 w8_95 w9_95 h
            obtain ⟨z95, h, hz95⟩ := itr_i h
            replace h : lp_X8_meet_95 M c56 c80 r20 r25 w7_95 w8_95 w9_95 = some z95 := h
            unfold lp_X8_meet_95 at h
            have hj164 : ∀ (j9_164 : Int32) (j10_164 : Int32) (j11_164 : Int32), jn_X8_meet_164_95 j9_164 j10_164 j11_164 = some z95 → EE p l e rm_X8_meet s m args below meth c Q Γ 12 0 0 164 [(3, .ref r20), (4, .ref r25), (5, .int c56), (6, .int c80), (9, .int j9_164), (10, .int j10_164), (11, .int j11_164)] [] M := by
              intro j9_164 j10_164 j11_164 h
              unfold jn_X8_meet_164_95 at h
              refine q_iload cx (pc' := 166) 5 rfl dX8_meet_164 rfl ?_
              refine q_iload cx (pc' := 168) 6 rfl dX8_meet_166 rfl ?_
              refine q_iadd cx (pc' := 169) dX8_meet_168 rfl ?_
              obtain ⟨v7_169, ev7_169, h⟩ := nm_i h
              refine q_istore cx (pc' := 171) ev7_169 (by decide) (L' := [(7, .int v7_169), (3, .ref r20), (4, .ref r25), (5, .int c56), (6, .int c80), (9, .int j9_164), (10, .int j10_164), (11, .int j11_164)]) rfl dX8_meet_169 rfl ?_
              refine q_iload cx (pc' := 173) 5 rfl dX8_meet_171 rfl ?_
              refine q_istore cx (pc' := 175) rfl (by decide) (L' := [(8, .int j9_164), (7, .int v7_169), (3, .ref r20), (4, .ref r25), (5, .int c56), (6, .int c80), (9, .int j9_164), (10, .int j10_164), (11, .int j11_164)]) rfl dX8_meet_173 rfl ?_
              obtain ⟨v9_175, ev9_175, h⟩ := nm_i h
              refine q_iinc cx (pc' := 178) 6 rfl ki_1 ev9_175 (by decide) (L' := [(9, .int v9_175), (8, .int j9_164), (7, .int v7_169), (3, .ref r20), (4, .ref r25), (5, .int c56), (6, .int c80), (10, .int j10_164), (11, .int j11_164)]) rfl dX8_meet_175 rfl ?_
              refine q_goto cx dX8_meet_178 (tgt := 95) (by decide) ?_
              refine q_sub cx [3, 4, 5, 6, 2, 1, 0] rfl ?_
              exact ih _ _ _ (hz95.1 _ h)
            refine q_iload cx (pc' := 97) 6 rfl dX8_meet_95 rfl ?_
            refine q_bipush cx (pc' := 99) kb_16 dX8_meet_97 rfl ?_
            refine q_icmp_ge cx (pc' := 102) (tgt := 181) dX8_meet_99 (by decide) rfl (fun c99 => ?_) (fun c99 => ?_)
            · replace h := ip c99 h
              refine q_iload cx (pc' := 183) 5 rfl dX8_meet_181 rfl ?_
              replace h := hk95_r _ (hz95.2 _ h)
              obtain rfl := o1_i h
              rw [hQ]
              exact q_iret cx dX8_meet_183
            · replace h := ine c99 h
              refine q_sipush cx (pc' := 105) ks_4369 dX8_meet_102 rfl ?_
              refine q_iconst cx (pc' := 106) ki_1 dX8_meet_105 rfl ?_
              refine q_iload cx (pc' := 108) 6 rfl dX8_meet_106 rfl ?_
              refine q_ishl cx (pc' := 109) dX8_meet_108 rfl ?_
              refine q_iload cx (pc' := 111) 2 rfl dX8_meet_109 rfl ?_
              refine q_aload_n cx (pc' := 112) 0 rfl dX8_meet_111 rfl ?_
              obtain ⟨hk112, h⟩ := ck_i h
              obtain ⟨c112, hc112, h⟩ := bnd_i h
              refine q_callV cx (pc' := 115) (S := [.int c56, .int (1 <<< (w9_95 &&& 31)), .int 4369]) (S1 := [.int c112, .int c56, .int (1 <<< (w9_95 &&& 31)), .int 4369]) (kc' := 0) (ks' := 0) 7 (ct_X7_leaps Γ l M r20 hk112 _ hc112) lki_X7_leaps lkv_X7_leaps lkc_X8_197 hk112 (r := (RX7, TX7, 4)) ⟨rfl, by decide, rfl⟩ rfl rfl (Nat.le_of_ble_eq_true rfl) ⟨(Nat.le_of_ble_eq_true rfl), (Nat.le_of_ble_eq_true rfl)⟩ ⟨(Nat.le_of_ble_eq_true rfl), (Nat.le_of_ble_eq_true rfl)⟩ dX8_meet_112 rfl rfl rfl ?_
              obtain ⟨c115, hc115, h⟩ := bnd_i h
              refine q_callS cx (pc' := 118) (S := []) (S1 := [.int c115]) (kc' := 0) (ks' := 0) (ct_X8_fewest Γ l M 4369 (1 <<< (w9_95 &&& 31)) c56 c112 _ hc115) lki_X8_fewest lkv_X8_fewest lkc_X8_201 rfl rfl (Nat.le_of_ble_eq_true rfl) ⟨(Nat.le_of_ble_eq_true rfl), (Nat.le_of_ble_eq_true rfl)⟩ ⟨(Nat.le_of_ble_eq_true rfl), (Nat.le_of_ble_eq_true rfl)⟩ dX8_meet_115 rfl rfl rfl ?_
              refine q_istore cx (pc' := 120) rfl (by decide) (L' := [(10, .int c115), (3, .ref r20), (4, .ref r25), (5, .int c56), (6, .int c80), (7, .int w7_95), (8, .int w8_95), (9, .int w9_95)]) rfl dX8_meet_118 rfl ?_
              refine q_sipush cx (pc' := 123) ks_4369 dX8_meet_120 rfl ?_
              refine q_iconst cx (pc' := 124) ki_1 dX8_meet_123 rfl ?_
              refine q_iload cx (pc' := 126) 7 rfl dX8_meet_124 rfl ?_
              refine q_ishl cx (pc' := 127) dX8_meet_126 rfl ?_
              refine q_iload cx (pc' := 129) 4 rfl dX8_meet_127 rfl ?_
              refine q_aload cx (pc' := 131) 2 rfl dX8_meet_129 rfl ?_
              obtain ⟨hk131, h⟩ := ck_i h
              obtain ⟨c131, hc131, h⟩ := bnd_i h
              refine q_callV cx (pc' := 134) (S := [.int c80, .int (1 <<< (w9_95 &&& 31)), .int 4369]) (S1 := [.int c131, .int c80, .int (1 <<< (w9_95 &&& 31)), .int 4369]) (kc' := 0) (ks' := 0) 7 (ct_X7_leaps Γ l M r25 hk131 _ hc131) lki_X7_leaps lkv_X7_leaps lkc_X8_197 hk131 (r := (RX7, TX7, 4)) ⟨rfl, by decide, rfl⟩ rfl rfl (Nat.le_of_ble_eq_true rfl) ⟨(Nat.le_of_ble_eq_true rfl), (Nat.le_of_ble_eq_true rfl)⟩ ⟨(Nat.le_of_ble_eq_true rfl), (Nat.le_of_ble_eq_true rfl)⟩ dX8_meet_131 rfl rfl rfl ?_
              obtain ⟨c134, hc134, h⟩ := bnd_i h
              refine q_callS cx (pc' := 137) (S := []) (S1 := [.int c134]) (kc' := 0) (ks' := 0) (ct_X8_fewest Γ l M 4369 (1 <<< (w9_95 &&& 31)) c80 c131 _ hc134) lki_X8_fewest lkv_X8_fewest lkc_X8_201 rfl rfl (Nat.le_of_ble_eq_true rfl) ⟨(Nat.le_of_ble_eq_true rfl), (Nat.le_of_ble_eq_true rfl)⟩ ⟨(Nat.le_of_ble_eq_true rfl), (Nat.le_of_ble_eq_true rfl)⟩ dX8_meet_134 rfl rfl rfl ?_
              refine q_istore cx (pc' := 139) rfl (by decide) (L' := [(11, .int c134), (10, .int c115), (3, .ref r20), (4, .ref r25), (5, .int c56), (6, .int c80), (7, .int w7_95), (8, .int w8_95), (9, .int w9_95)]) rfl dX8_meet_137 rfl ?_
              refine q_iload cx (pc' := 141) 1 rfl dX8_meet_139 rfl ?_
              refine q_if_lt cx (pc' := 144) (tgt := 175) dX8_meet_141 (by decide) rfl (fun c141 => ?_) (fun c141 => ?_)
              · replace h := ip c141 h
                obtain ⟨v9_175, ev9_175, h⟩ := nm_i h
                refine q_iinc cx (pc' := 178) 8 rfl ki_1 ev9_175 (by decide) (L' := [(9, .int v9_175), (11, .int c134), (10, .int c115), (3, .ref r20), (4, .ref r25), (5, .int c56), (6, .int c80), (7, .int w7_95), (8, .int w8_95)]) rfl dX8_meet_175 rfl ?_
                refine q_goto cx dX8_meet_178 (tgt := 95) (by decide) ?_
                refine q_sub cx [3, 4, 5, 6, 7, 8, 0] rfl ?_
                exact ih _ _ _ (hz95.1 _ h)
              · replace h := ine c141 h
                refine q_iload cx (pc' := 146) 0 rfl dX8_meet_144 rfl ?_
                refine q_if_lt cx (pc' := 149) (tgt := 175) dX8_meet_146 (by decide) rfl (fun c146 => ?_) (fun c146 => ?_)
                · replace h := ip c146 h
                  obtain ⟨v9_175, ev9_175, h⟩ := nm_i h
                  refine q_iinc cx (pc' := 178) 8 rfl ki_1 ev9_175 (by decide) (L' := [(9, .int v9_175), (11, .int c134), (10, .int c115), (3, .ref r20), (4, .ref r25), (5, .int c56), (6, .int c80), (7, .int w7_95), (8, .int w8_95)]) rfl dX8_meet_175 rfl ?_
                  refine q_goto cx dX8_meet_178 (tgt := 95) (by decide) ?_
                  refine q_sub cx [3, 4, 5, 6, 7, 8, 0] rfl ?_
                  exact ih _ _ _ (hz95.1 _ h)
                · replace h := ine c146 h
                  refine q_iload cx (pc' := 151) 7 rfl dX8_meet_149 rfl ?_
                  refine q_if_lt cx (pc' := 154) (tgt := 164) dX8_meet_151 (by decide) rfl (fun c151 => ?_) (fun c151 => ?_)
                  · replace h := ip c151 h
                    refine q_sub cx [2, 3, 4, 5, 8, 1, 0] rfl ?_
                    exact hj164 _ _ _ h
                  · replace h := ine c151 h
                    refine q_iload cx (pc' := 156) 1 rfl dX8_meet_154 rfl ?_
                    refine q_iload cx (pc' := 158) 0 rfl dX8_meet_156 rfl ?_
                    refine q_iadd cx (pc' := 159) dX8_meet_158 rfl ?_
                    refine q_iload cx (pc' := 161) 6 rfl dX8_meet_159 rfl ?_
                    refine q_icmp_ge cx (pc' := 164) (tgt := 175) dX8_meet_161 (by decide) rfl (fun c161 => ?_) (fun c161 => ?_)
                    · replace h := ip c161 h
                      obtain ⟨v9_175, ev9_175, h⟩ := nm_i h
                      refine q_iinc cx (pc' := 178) 8 rfl ki_1 ev9_175 (by decide) (L' := [(9, .int v9_175), (11, .int c134), (10, .int c115), (3, .ref r20), (4, .ref r25), (5, .int c56), (6, .int c80), (7, .int w7_95), (8, .int w8_95)]) rfl dX8_meet_175 rfl ?_
                      refine q_goto cx dX8_meet_178 (tgt := 95) (by decide) ?_
                      refine q_sub cx [3, 4, 5, 6, 7, 8, 0] rfl ?_
                      exact ih _ _ _ (hz95.1 _ h)
                    · replace h := ine c161 h
                      refine q_sub cx [2, 3, 4, 5, 8, 1, 0] rfl ?_
                      exact hj164 _ _ _ h
        refine q_sub cx [6, 5, 4, 3, 2, 1, 0] rfl ?_
        exact key95 FU _ _ _ hL95
      · replace h := ip c32 h
        refine q_bipush cx (pc' := 37) kb_m2 dX8_meet_35 rfl ?_
        obtain rfl := o1_i h
        rw [hQ]
        exact q_iret cx dX8_meet_37

abbrev rm_X8_print : Room := { frames := 2, cells := 0, slots := 0, locals := 61 }
def fn_X8_print (M : QM) (ths : Nat) (p1 : Int32) : Option (Int32 × QM) :=
  if (fn_X8_isUpTo p1 65535) = 0 then
    some ((-2), M)
  else
    gR M ths 8 0 fun r13 =>
    gI M r13 5 3 fun x16 =>
    gR M ths 8 0 fun r21 =>
    pI M r21 5 3 p1 fun M25 =>
    some (x16, M25)
set_option maxRecDepth 100000 in
set_option maxHeartbeats 4000000 in
theorem ct_X8_print (Γ : GT) (l : Launch) (M : QM) (ths : Nat) (p1 : Int32) (ht0 : mt M ths = 8) (z : Int32) (M' : QM) (h : fn_X8_print M ths p1 = some (z, M')) : CT Γ l yX8_print cX8_print 3 (some .int) rm_X8_print (.ref ths :: [.int p1]) M (some (.int z)) M' := by
  refine ct_intro (own := RX8) (L := [(0, .ref ths), (1, .int p1)]) (by decide +kernel) rfl (Nat.le_of_ble_eq_true rfl) rfl ?_
  intro p e s m args below meth c Q hQ cx hnm
  unfold fn_X8_print at h
  refine q_iload_n cx (pc' := 1) 1 rfl dX8_print_0 rfl ?_
  refine q_ldc cx (pc' := 3) aw_74 dX8_print_1 rfl ?_
  refine q_callS cx (pc' := 6) (S := []) (S1 := [.int (fn_X8_isUpTo p1 65535)]) (kc' := 0) (ks' := 0) (ct_X8_isUpTo Γ l M p1 65535) lki_X8_isUpTo lkv_X8_isUpTo lkc_X8_179 rfl rfl (Nat.le_of_ble_eq_true rfl) ⟨(Nat.le_of_ble_eq_true rfl), (Nat.le_of_ble_eq_true rfl)⟩ ⟨(Nat.le_of_ble_eq_true rfl), (Nat.le_of_ble_eq_true rfl)⟩ dX8_print_3 rfl rfl rfl ?_
  refine q_if_ne cx (pc' := 9) (tgt := 12) dX8_print_6 (by decide) rfl (fun c6 => ?_) (fun c6 => ?_)
  · replace h := ine c6 h
    refine q_aload_n cx (pc' := 13) 0 rfl dX8_print_12 rfl ?_
    obtain ⟨ht13, r13, ex13, h⟩ := gR_i h
    refine q_gR cx (pc' := 16) 8 0 fl_X8_12 rfl ht13 ex13 dX8_print_13 rfl ?_
    obtain ⟨ht16, x16, ex16, h⟩ := gI_i h
    refine q_gI cx (pc' := 19) 5 3 fl_X8_176 rfl ht16 ex16 dX8_print_16 rfl ?_
    refine q_istore_n cx (pc' := 20) rfl rfl (by decide) (L' := [(2, .int x16), (0, .ref ths), (1, .int p1)]) rfl dX8_print_19 rfl ?_
    refine q_aload_n cx (pc' := 21) 1 rfl dX8_print_20 rfl ?_
    obtain ⟨ht21, r21, ex21, h⟩ := gR_i h
    refine q_gR cx (pc' := 24) 8 0 fl_X8_12 rfl ht21 ex21 dX8_print_21 rfl ?_
    refine q_iload_n cx (pc' := 25) 2 rfl dX8_print_24 rfl ?_
    obtain ⟨ht25, M25, eM25, h⟩ := pI_i h
    refine q_pI cx (pc' := 28) 5 3 fl_X8_176 rfl ht25 (ty := .int) ⟨(RX5, TX5, 8), rfl, by decide +kernel, Or.inl rfl⟩ rfl rfl eM25 dX8_print_25 rfl ?_
    refine q_iload_n cx (pc' := 29) 0 rfl dX8_print_28 rfl ?_
    obtain ⟨rfl, rfl⟩ := o2_i h
    rw [hQ]
    exact q_iret cx dX8_print_29
  · replace h := ip c6 h
    refine q_bipush cx (pc' := 11) kb_m2 dX8_print_9 rfl ?_
    obtain ⟨rfl, rfl⟩ := o2_i h
    rw [hQ]
    exact q_iret cx dX8_print_11

abbrev rm_X8_see : Room := { frames := 3, cells := 0, slots := 0, locals := 82 }
def fn_X8_see (M : QM) (ths : Nat) (p1 : Int32) (p2 : Int32) (p3 : Int32) : Option (Int32 × QM) :=
  if p1 = (-1) then
    gR M ths 8 0 fun r6 =>
    gR M r6 5 4 fun r9 =>
    ck M r9 4 <|
    bnd (fn_X4_empty M r9) fun y12 =>
    pr2 y12 fun c12 M12 =>
    some (c12, M12)
  else
    gR M ths 8 0 fun r17 =>
    ck M r17 5 <|
    bnd (fn_X5_walkerAt M r17 p1) fun c21 =>
    cnul c21 (
      some ((-1), M)) fun r24 =>
    if (fn_X8_isUpTo p3 20) = 0 then
      some ((-2), M)
    else
      gR M ths 8 0 fun r42 =>
      gR M r42 5 4 fun r45 =>
      if p2 = 0 then
        ck M r45 4 <|
        bnd (fn_X4_append M r45 p1 p3 0) fun y59 =>
        pr2 y59 fun c59 M59 =>
        some (c59, M59)
      else
        ck M r45 4 <|
        bnd (fn_X4_append M r45 p1 p3 1) fun y59 =>
        pr2 y59 fun c59 M59 =>
        some (c59, M59)
set_option maxRecDepth 100000 in
set_option maxHeartbeats 4000000 in
theorem ct_X8_see (Γ : GT) (l : Launch) (M : QM) (ths : Nat) (p1 : Int32) (p2 : Int32) (p3 : Int32) (ht0 : mt M ths = 8) (z : Int32) (M' : QM) (h : fn_X8_see M ths p1 p2 p3 = some (z, M')) : CT Γ l yX8_see cX8_see 4 (some .int) rm_X8_see (.ref ths :: [.int p1, .int p2, .int p3]) M (some (.int z)) M' := by
  refine ct_intro (own := RX8) (L := [(0, .ref ths), (1, .int p1), (2, .int p2), (3, .int p3)]) (by decide +kernel) rfl (Nat.le_of_ble_eq_true rfl) rfl ?_
  intro p e s m args below meth c Q hQ cx hnm
  unfold fn_X8_see at h
  refine q_iload_n cx (pc' := 1) 1 rfl dX8_see_0 rfl ?_
  refine q_iconst cx (pc' := 2) ki_m1 dX8_see_1 rfl ?_
  refine q_icmp_ne cx (pc' := 5) (tgt := 16) dX8_see_2 (by decide) rfl (fun c2 => ?_) (fun c2 => ?_)
  · replace h := ine c2 h
    refine q_aload_n cx (pc' := 17) 0 rfl dX8_see_16 rfl ?_
    obtain ⟨ht17, r17, ex17, h⟩ := gR_i h
    refine q_gR cx (pc' := 20) 8 0 fl_X8_12 rfl ht17 ex17 dX8_see_17 rfl ?_
    refine q_iload_n cx (pc' := 21) 1 rfl dX8_see_20 rfl ?_
    obtain ⟨hk21, h⟩ := ck_i h
    obtain ⟨c21, hc21, h⟩ := bnd_i h
    refine q_callV cx (pc' := 24) (S := []) (S1 := [va_rf c21]) (kc' := 0) (ks' := 0) 5 (ct_X5_walkerAt Γ l M r17 p1 hk21 _ hc21) lki_X5_walkerAt lkv_X5_walkerAt lkc_X8_85 hk21 (r := (RX5, TX5, 8)) ⟨rfl, by decide, rfl⟩ rfl rfl (Nat.le_of_ble_eq_true rfl) ⟨(Nat.le_of_ble_eq_true rfl), (Nat.le_of_ble_eq_true rfl)⟩ ⟨(Nat.le_of_ble_eq_true rfl), (Nat.le_of_ble_eq_true rfl)⟩ dX8_see_21 rfl rfl rfl ?_
    rcases c21 with _ | r24
    · replace h := cnul_n h
      refine q_ifnonnull_null cx (pc' := 27) dX8_see_24 rfl ?_
      refine q_iconst cx (pc' := 28) ki_m1 dX8_see_27 rfl ?_
      obtain ⟨rfl, rfl⟩ := o2_i h
      rw [hQ]
      exact q_iret cx dX8_see_28
    · replace h := cnul_s h
      refine q_ifnonnull_ref cx dX8_see_24 (tgt := 29) (by decide) ?_
      refine q_iload_n cx (pc' := 30) 3 rfl dX8_see_29 rfl ?_
      refine q_bipush cx (pc' := 32) kb_20 dX8_see_30 rfl ?_
      refine q_callS cx (pc' := 35) (S := []) (S1 := [.int (fn_X8_isUpTo p3 20)]) (kc' := 0) (ks' := 0) (ct_X8_isUpTo Γ l M p3 20) lki_X8_isUpTo lkv_X8_isUpTo lkc_X8_179 rfl rfl (Nat.le_of_ble_eq_true rfl) ⟨(Nat.le_of_ble_eq_true rfl), (Nat.le_of_ble_eq_true rfl)⟩ ⟨(Nat.le_of_ble_eq_true rfl), (Nat.le_of_ble_eq_true rfl)⟩ dX8_see_32 rfl rfl rfl ?_
      refine q_if_ne cx (pc' := 38) (tgt := 41) dX8_see_35 (by decide) rfl (fun c35 => ?_) (fun c35 => ?_)
      · replace h := ine c35 h
        refine q_aload_n cx (pc' := 42) 0 rfl dX8_see_41 rfl ?_
        obtain ⟨ht42, r42, ex42, h⟩ := gR_i h
        refine q_gR cx (pc' := 45) 8 0 fl_X8_12 rfl ht42 ex42 dX8_see_42 rfl ?_
        obtain ⟨ht45, r45, ex45, h⟩ := gR_i h
        refine q_gR cx (pc' := 48) 5 4 fl_X8_221 rfl ht45 ex45 dX8_see_45 rfl ?_
        refine q_iload_n cx (pc' := 49) 1 rfl dX8_see_48 rfl ?_
        refine q_iload_n cx (pc' := 50) 3 rfl dX8_see_49 rfl ?_
        refine q_iload_n cx (pc' := 51) 2 rfl dX8_see_50 rfl ?_
        refine q_if_eq cx (pc' := 54) (tgt := 58) dX8_see_51 (by decide) rfl (fun c51 => ?_) (fun c51 => ?_)
        · replace h := ip c51 h
          refine q_iconst cx (pc' := 59) ki_0 dX8_see_58 rfl ?_
          obtain ⟨hk59, h⟩ := ck_i h
          obtain ⟨⟨c59, M59⟩, hc59, h⟩ := bnd_i h
          replace h := pr2_i h
          refine q_callV cx (pc' := 62) (S := []) (S1 := [.int c59]) (kc' := 0) (ks' := 0) 4 (ct_X4_append Γ l M r45 p1 p3 0 hk59 _ _ hc59) lki_X4_append lkv_X4_append lkc_X8_230 hk59 (r := (RX4, TX4, 5)) ⟨rfl, by decide, rfl⟩ rfl rfl (Nat.le_of_ble_eq_true rfl) ⟨(Nat.le_of_ble_eq_true rfl), (Nat.le_of_ble_eq_true rfl)⟩ ⟨(Nat.le_of_ble_eq_true rfl), (Nat.le_of_ble_eq_true rfl)⟩ dX8_see_59 rfl rfl rfl ?_
          obtain ⟨rfl, rfl⟩ := o2_i h
          rw [hQ]
          exact q_iret cx dX8_see_62
        · replace h := ine c51 h
          refine q_iconst cx (pc' := 55) ki_1 dX8_see_54 rfl ?_
          refine q_goto cx dX8_see_55 (tgt := 59) (by decide) ?_
          obtain ⟨hk59, h⟩ := ck_i h
          obtain ⟨⟨c59, M59⟩, hc59, h⟩ := bnd_i h
          replace h := pr2_i h
          refine q_callV cx (pc' := 62) (S := []) (S1 := [.int c59]) (kc' := 0) (ks' := 0) 4 (ct_X4_append Γ l M r45 p1 p3 1 hk59 _ _ hc59) lki_X4_append lkv_X4_append lkc_X8_230 hk59 (r := (RX4, TX4, 5)) ⟨rfl, by decide, rfl⟩ rfl rfl (Nat.le_of_ble_eq_true rfl) ⟨(Nat.le_of_ble_eq_true rfl), (Nat.le_of_ble_eq_true rfl)⟩ ⟨(Nat.le_of_ble_eq_true rfl), (Nat.le_of_ble_eq_true rfl)⟩ dX8_see_59 rfl rfl rfl ?_
          obtain ⟨rfl, rfl⟩ := o2_i h
          rw [hQ]
          exact q_iret cx dX8_see_62
      · replace h := ip c35 h
        refine q_bipush cx (pc' := 40) kb_m2 dX8_see_38 rfl ?_
        obtain ⟨rfl, rfl⟩ := o2_i h
        rw [hQ]
        exact q_iret cx dX8_see_40
  · replace h := ip c2 h
    refine q_aload_n cx (pc' := 6) 0 rfl dX8_see_5 rfl ?_
    obtain ⟨ht6, r6, ex6, h⟩ := gR_i h
    refine q_gR cx (pc' := 9) 8 0 fl_X8_12 rfl ht6 ex6 dX8_see_6 rfl ?_
    obtain ⟨ht9, r9, ex9, h⟩ := gR_i h
    refine q_gR cx (pc' := 12) 5 4 fl_X8_221 rfl ht9 ex9 dX8_see_9 rfl ?_
    obtain ⟨hk12, h⟩ := ck_i h
    obtain ⟨⟨c12, M12⟩, hc12, h⟩ := bnd_i h
    replace h := pr2_i h
    refine q_callV cx (pc' := 15) (S := []) (S1 := [.int c12]) (kc' := 0) (ks' := 0) 4 (ct_X4_empty Γ l M r9 hk12 _ _ hc12) lki_X4_empty lkv_X4_empty lkc_X8_225 hk12 (r := (RX4, TX4, 5)) ⟨rfl, by decide, rfl⟩ rfl rfl (Nat.le_of_ble_eq_true rfl) ⟨(Nat.le_of_ble_eq_true rfl), (Nat.le_of_ble_eq_true rfl)⟩ ⟨(Nat.le_of_ble_eq_true rfl), (Nat.le_of_ble_eq_true rfl)⟩ dX8_see_12 rfl rfl rfl ?_
    obtain ⟨rfl, rfl⟩ := o2_i h
    rw [hQ]
    exact q_iret cx dX8_see_15

abbrev rm_X8_fitAll : Room := { frames := 1, cells := 0, slots := 0, locals := 40 }
def lp_X8_fitAll_2 (ths : Nat) (p1 : Int32) (w2_2 : Int32) (Mw_2 : QM) : Option ((Int32 × QM) ⊕ (QM)) :=
  if p1 ≤ w2_2 then
    some (.inr Mw_2)
  else
    gR Mw_2 ths 8 9 fun r8 =>
    wI Mw_2 21 r8 w2_2 (zb 1) fun M13 =>
    nm (w2_2 + 1) fun v2_14 =>
    some (.inl (v2_14, M13))
def fn_X8_fitAll (M : QM) (ths : Nat) (p1 : Int32) : Option QM :=
  bnd (itr (fun s2 : Int32 × QM => lp_X8_fitAll_2 ths p1 s2.1 s2.2) FU (0, M)) fun Mr_2 =>
  some Mr_2
set_option maxRecDepth 100000 in
set_option maxHeartbeats 4000000 in
theorem ct_X8_fitAll (Γ : GT) (l : Launch) (M : QM) (ths : Nat) (p1 : Int32) (ht0 : mt M ths = 8) (M' : QM) (h : fn_X8_fitAll M ths p1 = some M') : CT Γ l yX8_fitAll cX8_fitAll 3 none rm_X8_fitAll (.ref ths :: [.int p1]) M none M' := by
  refine ct_intro (own := RX8) (L := [(0, .ref ths), (1, .int p1)]) (by decide +kernel) rfl (Nat.le_of_ble_eq_true rfl) rfl ?_
  intro p e s m args below meth c Q hQ cx hnm
  unfold fn_X8_fitAll at h
  refine q_iconst cx (pc' := 1) ki_0 dX8_fitAll_0 rfl ?_
  refine q_istore_n cx (pc' := 2) rfl rfl (by decide) (L' := [(2, .int 0), (0, .ref ths), (1, .int p1)]) rfl dX8_fitAll_1 rfl ?_
  obtain ⟨r2, hL2, h⟩ := bnd_i h
  have hk2_r : ∀ (Mr_2 : QM), Mr_2 = r2 → some Mr_2 = some M' := by
    intro Mr_2 hp
    subst hp
    exact h
  have key2 : ∀ (n : Nat) (w2_2 : Int32) (Mw_2 : QM), itr (fun s2 : Int32 × QM => lp_X8_fitAll_2 ths p1 s2.1 s2.2) n (w2_2, Mw_2) = some r2 → EE p l e rm_X8_fitAll s m args below meth c Q Γ 3 0 0 2 [(0, .ref ths), (1, .int p1), (2, .int w2_2)] [] Mw_2 := by
    intro n
    induction n with
    | zero => intro _ _ h; exact (itr_0 h).elim
    | succ n ih =>
      intro w2_2 Mw_2 h
      obtain ⟨z2, h, hz2⟩ := itr_i h
      replace h : lp_X8_fitAll_2 ths p1 w2_2 Mw_2 = some z2 := h
      unfold lp_X8_fitAll_2 at h
      refine q_iload_n cx (pc' := 3) 2 rfl dX8_fitAll_2 rfl ?_
      refine q_iload_n cx (pc' := 4) 1 rfl dX8_fitAll_3 rfl ?_
      refine q_icmp_ge cx (pc' := 7) (tgt := 20) dX8_fitAll_4 (by decide) rfl (fun c4 => ?_) (fun c4 => ?_)
      · replace h := ip c4 h
        replace h := hk2_r _ (hz2.2 _ h)
        obtain rfl := o1_i h
        rw [hQ]
        exact q_vret cx dX8_fitAll_20
      · replace h := ine c4 h
        refine q_aload_n cx (pc' := 8) 0 rfl dX8_fitAll_7 rfl ?_
        obtain ⟨ht8, r8, ex8, h⟩ := gR_i h
        refine q_gR cx (pc' := 11) 8 9 fl_X8_55 rfl ht8 ex8 dX8_fitAll_8 rfl ?_
        refine q_iload_n cx (pc' := 12) 2 rfl dX8_fitAll_11 rfl ?_
        refine q_iconst cx (pc' := 13) ki_1 dX8_fitAll_12 rfl ?_
        obtain ⟨ht13, hi13, M13, eM13, h⟩ := wI_i h
        refine q_zast cx (pc' := 14) ht13 hi13 eM13 dX8_fitAll_13 rfl ?_
        obtain ⟨v2_14, ev2_14, h⟩ := nm_i h
        refine q_iinc cx (pc' := 17) 2 rfl ki_1 ev2_14 (by decide) (L' := [(2, .int v2_14), (0, .ref ths), (1, .int p1)]) rfl dX8_fitAll_14 rfl ?_
        refine q_goto cx dX8_fitAll_17 (tgt := 2) (by decide) ?_
        refine q_sub cx [1, 2, 0] rfl ?_
        exact ih _ _ (hz2.1 _ h)
  refine q_sub cx [1, 2, 0] rfl ?_
  exact key2 FU _ _ hL2

abbrev rm_X8_isSeenSo : Room := { frames := 5, cells := 0, slots := 0, locals := 149 }
def jn_X8_isSeenSo_63 (M : QM) (ths : Nat) (p1 : Int32) (js0_63 : Int32) : Option Int32 :=
  gR M ths 8 0 fun r68 =>
  gR M r68 5 4 fun r71 =>
  gR M r71 4 3 fun r74 =>
  aI M 20 r74 p1 fun x78 =>
  if js0_63 = x78 then
    some 1
  else
    some 0
def jn_X8_isSeenSo_34 (M : QM) (ths : Nat) (p1 : Int32) (js0_34 : Nat) : Option Int32 :=
  gR M ths 8 7 fun r39 =>
  gR M ths 8 0 fun r43 =>
  gR M r43 5 7 fun r46 =>
  gI M r46 1 1 fun x49 =>
  ck M js0_34 7 <|
  bnd (fn_X7_crossing M js0_34 r39 x49) fun c52 =>
  if c52 < 0 then
    jn_X8_isSeenSo_63 M ths p1 0
  else
    jn_X8_isSeenSo_63 M ths p1 1
def fn_X8_isSeenSo (M : QM) (ths : Nat) (p1 : Int32) (p2 : Int32) : Option Int32 :=
  gR M ths 8 0 fun r1 =>
  gR M r1 5 4 fun r4 =>
  gR M r4 4 1 fun r7 =>
  aI M 20 r7 p1 fun x11 =>
  if x11 = p2 then
    gR M ths 8 8 fun r19 =>
    jn_X8_isSeenSo_34 M ths p1 r19
  else
    gR M ths 8 0 fun r26 =>
    gR M r26 5 1 fun r29 =>
    aR M 26 r29 x11 fun r33 =>
    jn_X8_isSeenSo_34 M ths p1 r33
set_option maxRecDepth 100000 in
set_option maxHeartbeats 4000000 in
theorem ct_X8_isSeenSo (Γ : GT) (l : Launch) (M : QM) (ths : Nat) (p1 : Int32) (p2 : Int32) (ht0 : mt M ths = 8) (z : Int32) (h : fn_X8_isSeenSo M ths p1 p2 = some z) : CT Γ l yX8_isSeenSo cX8_isSeenSo 6 (some .boolean) rm_X8_isSeenSo (.ref ths :: [.int p1, .int p2]) M (some (.int z)) M := by
  refine ct_intro (own := RX8) (L := [(0, .ref ths), (1, .int p1), (2, .int p2)]) (by decide +kernel) rfl (Nat.le_of_ble_eq_true rfl) rfl ?_
  intro p e s m args below meth c Q hQ cx hnm
  unfold fn_X8_isSeenSo at h
  have hj63 : ∀ (js0_63 : Int32), jn_X8_isSeenSo_63 M ths p1 js0_63 = some z → EE p l e rm_X8_isSeenSo s m args below meth c Q Γ 6 0 0 63 [(0, .ref ths), (1, .int p1)] [.int js0_63] M := by
    intro js0_63 h
    unfold jn_X8_isSeenSo_63 at h
    refine q_istore cx (pc' := 65) rfl (by decide) (L' := [(5, .int js0_63), (0, .ref ths), (1, .int p1)]) rfl dX8_isSeenSo_63 rfl ?_
    refine q_iload cx (pc' := 67) 0 rfl dX8_isSeenSo_65 rfl ?_
    refine q_aload_n cx (pc' := 68) 1 rfl dX8_isSeenSo_67 rfl ?_
    obtain ⟨ht68, r68, ex68, h⟩ := gR_i h
    refine q_gR cx (pc' := 71) 8 0 fl_X8_12 rfl ht68 ex68 dX8_isSeenSo_68 rfl ?_
    obtain ⟨ht71, r71, ex71, h⟩ := gR_i h
    refine q_gR cx (pc' := 74) 5 4 fl_X8_221 rfl ht71 ex71 dX8_isSeenSo_71 rfl ?_
    obtain ⟨ht74, r74, ex74, h⟩ := gR_i h
    refine q_gR cx (pc' := 77) 4 3 fl_X8_323 rfl ht74 ex74 dX8_isSeenSo_74 rfl ?_
    refine q_iload_n cx (pc' := 78) 2 rfl dX8_isSeenSo_77 rfl ?_
    obtain ⟨ht78, hi78, x78, ex78, h⟩ := aI_i h
    refine q_iald cx (pc' := 79) ht78 hi78 ex78 dX8_isSeenSo_78 rfl ?_
    refine q_icmp_ne cx (pc' := 82) (tgt := 86) dX8_isSeenSo_79 (by decide) rfl (fun c79 => ?_) (fun c79 => ?_)
    · replace h := ine c79 h
      refine q_iconst cx (pc' := 87) ki_0 dX8_isSeenSo_86 rfl ?_
      obtain rfl := o1_i h
      rw [hQ]
      exact q_nret cx rfl dX8_isSeenSo_87
    · replace h := ip c79 h
      refine q_iconst cx (pc' := 83) ki_1 dX8_isSeenSo_82 rfl ?_
      refine q_goto cx dX8_isSeenSo_83 (tgt := 87) (by decide) ?_
      obtain rfl := o1_i h
      rw [hQ]
      exact q_nret cx rfl dX8_isSeenSo_87
  have hj34 : ∀ (js0_34 : Nat), jn_X8_isSeenSo_34 M ths p1 js0_34 = some z → EE p l e rm_X8_isSeenSo s m args below meth c Q Γ 6 0 0 34 [(0, .ref ths), (1, .int p1)] [.ref js0_34] M := by
    intro js0_34 h
    unfold jn_X8_isSeenSo_34 at h
    refine q_astore cx (pc' := 36) rfl (by decide) (L' := [(4, .ref js0_34), (0, .ref ths), (1, .int p1)]) rfl dX8_isSeenSo_34 rfl ?_
    refine q_aload cx (pc' := 38) 0 rfl dX8_isSeenSo_36 rfl ?_
    refine q_aload_n cx (pc' := 39) 1 rfl dX8_isSeenSo_38 rfl ?_
    obtain ⟨ht39, r39, ex39, h⟩ := gR_i h
    refine q_gR cx (pc' := 42) 8 7 fl_X8_44 rfl ht39 ex39 dX8_isSeenSo_39 rfl ?_
    refine q_aload_n cx (pc' := 43) 1 rfl dX8_isSeenSo_42 rfl ?_
    obtain ⟨ht43, r43, ex43, h⟩ := gR_i h
    refine q_gR cx (pc' := 46) 8 0 fl_X8_12 rfl ht43 ex43 dX8_isSeenSo_43 rfl ?_
    obtain ⟨ht46, r46, ex46, h⟩ := gR_i h
    refine q_gR cx (pc' := 49) 5 7 fl_X8_64 rfl ht46 ex46 dX8_isSeenSo_46 rfl ?_
    obtain ⟨ht49, x49, ex49, h⟩ := gI_i h
    refine q_gI cx (pc' := 52) 1 1 fl_X8_101 rfl ht49 ex49 dX8_isSeenSo_49 rfl ?_
    obtain ⟨hk52, h⟩ := ck_i h
    obtain ⟨c52, hc52, h⟩ := bnd_i h
    refine q_callV cx (pc' := 55) (S := []) (S1 := [.int c52]) (kc' := 0) (ks' := 0) 7 (ct_X7_crossing Γ l M js0_34 r39 x49 hk52 _ hc52) lki_X7_crossing lkv_X7_crossing lkc_X8_104 hk52 (r := (RX7, TX7, 4)) ⟨rfl, by decide, rfl⟩ rfl rfl (Nat.le_of_ble_eq_true rfl) ⟨(Nat.le_of_ble_eq_true rfl), (Nat.le_of_ble_eq_true rfl)⟩ ⟨(Nat.le_of_ble_eq_true rfl), (Nat.le_of_ble_eq_true rfl)⟩ dX8_isSeenSo_52 rfl rfl rfl ?_
    refine q_if_lt cx (pc' := 58) (tgt := 62) dX8_isSeenSo_55 (by decide) rfl (fun c55 => ?_) (fun c55 => ?_)
    · replace h := ip c55 h
      refine q_iconst cx (pc' := 63) ki_0 dX8_isSeenSo_62 rfl ?_
      refine q_sub cx [1, 2] rfl ?_
      exact hj63 _ h
    · replace h := ine c55 h
      refine q_iconst cx (pc' := 59) ki_1 dX8_isSeenSo_58 rfl ?_
      refine q_goto cx dX8_isSeenSo_59 (tgt := 63) (by decide) ?_
      refine q_sub cx [1, 2] rfl ?_
      exact hj63 _ h
  refine q_aload_n cx (pc' := 1) 0 rfl dX8_isSeenSo_0 rfl ?_
  obtain ⟨ht1, r1, ex1, h⟩ := gR_i h
  refine q_gR cx (pc' := 4) 8 0 fl_X8_12 rfl ht1 ex1 dX8_isSeenSo_1 rfl ?_
  obtain ⟨ht4, r4, ex4, h⟩ := gR_i h
  refine q_gR cx (pc' := 7) 5 4 fl_X8_221 rfl ht4 ex4 dX8_isSeenSo_4 rfl ?_
  obtain ⟨ht7, r7, ex7, h⟩ := gR_i h
  refine q_gR cx (pc' := 10) 4 1 fl_X8_259 rfl ht7 ex7 dX8_isSeenSo_7 rfl ?_
  refine q_iload_n cx (pc' := 11) 1 rfl dX8_isSeenSo_10 rfl ?_
  obtain ⟨ht11, hi11, x11, ex11, h⟩ := aI_i h
  refine q_iald cx (pc' := 12) ht11 hi11 ex11 dX8_isSeenSo_11 rfl ?_
  refine q_istore_n cx (pc' := 13) rfl rfl (by decide) (L' := [(3, .int x11), (0, .ref ths), (1, .int p1), (2, .int p2)]) rfl dX8_isSeenSo_12 rfl ?_
  refine q_iload_n cx (pc' := 14) 0 rfl dX8_isSeenSo_13 rfl ?_
  refine q_iload_n cx (pc' := 15) 3 rfl dX8_isSeenSo_14 rfl ?_
  refine q_icmp_ne cx (pc' := 18) (tgt := 25) dX8_isSeenSo_15 (by decide) rfl (fun c15 => ?_) (fun c15 => ?_)
  · replace h := ine c15 h
    refine q_aload_n cx (pc' := 26) 1 rfl dX8_isSeenSo_25 rfl ?_
    obtain ⟨ht26, r26, ex26, h⟩ := gR_i h
    refine q_gR cx (pc' := 29) 8 0 fl_X8_12 rfl ht26 ex26 dX8_isSeenSo_26 rfl ?_
    obtain ⟨ht29, r29, ex29, h⟩ := gR_i h
    refine q_gR cx (pc' := 32) 5 1 fl_X8_77 rfl ht29 ex29 dX8_isSeenSo_29 rfl ?_
    refine q_iload_n cx (pc' := 33) 0 rfl dX8_isSeenSo_32 rfl ?_
    obtain ⟨ht33, hi33, r33, ex33, h⟩ := aR_i h
    refine q_aald6 cx (pc' := 34) ht33 hi33 ex33 dX8_isSeenSo_33 rfl ?_
    refine q_sub cx [1, 2] rfl ?_
    exact hj34 _ h
  · replace h := ip c15 h
    refine q_aload_n cx (pc' := 19) 1 rfl dX8_isSeenSo_18 rfl ?_
    obtain ⟨ht19, r19, ex19, h⟩ := gR_i h
    refine q_gR cx (pc' := 22) 8 8 fl_X8_51 rfl ht19 ex19 dX8_isSeenSo_19 rfl ?_
    refine q_goto cx dX8_isSeenSo_22 (tgt := 34) (by decide) ?_
    refine q_sub cx [1, 2] rfl ?_
    exact hj34 _ h

abbrev rm_X8_fitting : Room := { frames := 1, cells := 0, slots := 0, locals := 40 }
def lp_X8_fitting_11 (M : QM) (ths : Nat) (w3_11 : Int32) (w4_11 : Int32) (w5_11 : Int32) : Option ((Int32 × Int32 × Int32) ⊕ (Int32 × Int32)) :=
  if w5_11 < 0 then
    some (.inr (w3_11, w4_11))
  else
    gR M ths 8 9 fun r17 =>
    aI M 21 r17 w5_11 fun x22 =>
    if x22 = 0 then
      nm (w5_11 + (-1)) fun v5_33 =>
      some (.inl (w3_11, w4_11, v5_33))
    else
      nm (w3_11 + 1) fun v3_26 =>
      nm (w5_11 + (-1)) fun v5_33 =>
      some (.inl (v3_26, w5_11, v5_33))
def fn_X8_fitting (M : QM) (ths : Nat) (p1 : Int32) (p2 : Int32) : Option Int32 :=
  nm (p1 - 1) fun v5_9 =>
  bnd (itr (fun s11 : Int32 × Int32 × Int32 => lp_X8_fitting_11 M ths s11.1 s11.2.1 s11.2.2) FU (0, (-5), v5_9)) fun r11 =>
  pr2 r11 fun e3_11 e4_11 =>
  if p2 = 0 then
    some e3_11
  else
    some e4_11
set_option maxRecDepth 100000 in
set_option maxHeartbeats 4000000 in
theorem ct_X8_fitting (Γ : GT) (l : Launch) (M : QM) (ths : Nat) (p1 : Int32) (p2 : Int32) (ht0 : mt M ths = 8) (z : Int32) (h : fn_X8_fitting M ths p1 p2 = some z) : CT Γ l yX8_fitting cX8_fitting 6 (some .int) rm_X8_fitting (.ref ths :: [.int p1, .int p2]) M (some (.int z)) M := by
  refine ct_intro (own := RX8) (L := [(0, .ref ths), (1, .int p1), (2, .int p2)]) (by decide +kernel) rfl (Nat.le_of_ble_eq_true rfl) rfl ?_
  intro p e s m args below meth c Q hQ cx hnm
  unfold fn_X8_fitting at h
  refine q_iconst cx (pc' := 1) ki_0 dX8_fitting_0 rfl ?_
  refine q_istore_n cx (pc' := 2) rfl rfl (by decide) (L' := [(3, .int 0), (0, .ref ths), (1, .int p1), (2, .int p2)]) rfl dX8_fitting_1 rfl ?_
  refine q_bipush cx (pc' := 4) kb_m5 dX8_fitting_2 rfl ?_
  refine q_istore cx (pc' := 6) rfl (by decide) (L' := [(4, .int (-5)), (3, .int 0), (0, .ref ths), (1, .int p1), (2, .int p2)]) rfl dX8_fitting_4 rfl ?_
  refine q_iload_n cx (pc' := 7) 3 rfl dX8_fitting_6 rfl ?_
  refine q_iconst cx (pc' := 8) ki_1 dX8_fitting_7 rfl ?_
  refine q_isub cx (pc' := 9) dX8_fitting_8 rfl ?_
  obtain ⟨v5_9, ev5_9, h⟩ := nm_i h
  refine q_istore cx (pc' := 11) ev5_9 (by decide) (L' := [(5, .int v5_9), (4, .int (-5)), (3, .int 0), (0, .ref ths), (1, .int p1), (2, .int p2)]) rfl dX8_fitting_9 rfl ?_
  obtain ⟨r11, hL11, h⟩ := bnd_i h
  have hk11_0 : ∀ (e3_11 : Int32) (e4_11 : Int32), (e3_11, e4_11) = r11 → EE p l e rm_X8_fitting s m args below meth c Q Γ 6 0 0 39 [(2, .int p2), (3, .int e3_11), (4, .int e4_11)] [] M := by
    intro e3_11 e4_11 hp
    subst hp
    replace h := pr2_i h
    refine q_iload_n cx (pc' := 40) 0 rfl dX8_fitting_39 rfl ?_
    refine q_if_ne cx (pc' := 43) (tgt := 47) dX8_fitting_40 (by decide) rfl (fun c40 => ?_) (fun c40 => ?_)
    · replace h := ine c40 h
      refine q_iload cx (pc' := 49) 2 rfl dX8_fitting_47 rfl ?_
      obtain rfl := o1_i h
      rw [hQ]
      exact q_iret cx dX8_fitting_49
    · replace h := ip c40 h
      refine q_iload_n cx (pc' := 44) 1 rfl dX8_fitting_43 rfl ?_
      refine q_goto cx dX8_fitting_44 (tgt := 49) (by decide) ?_
      obtain rfl := o1_i h
      rw [hQ]
      exact q_iret cx dX8_fitting_49
  have key11 : ∀ (n : Nat) (w3_11 : Int32) (w4_11 : Int32) (w5_11 : Int32), itr (fun s11 : Int32 × Int32 × Int32 => lp_X8_fitting_11 M ths s11.1 s11.2.1 s11.2.2) n (w3_11, w4_11, w5_11) = some r11 → EE p l e rm_X8_fitting s m args below meth c Q Γ 6 0 0 11 [(0, .ref ths), (2, .int p2), (3, .int w3_11), (4, .int w4_11), (5, .int w5_11)] [] M := by
    intro n
    induction n with
    | zero => intro _ _ _ h; exact (itr_0 h).elim
    | succ n ih =>
      intro w3_11 w4_11 w5_11 h
      obtain ⟨z11, h, hz11⟩ := itr_i h
      replace h : lp_X8_fitting_11 M ths w3_11 w4_11 w5_11 = some z11 := h
      unfold lp_X8_fitting_11 at h
      refine q_iload cx (pc' := 13) 4 rfl dX8_fitting_11 rfl ?_
      refine q_if_lt cx (pc' := 16) (tgt := 39) dX8_fitting_13 (by decide) rfl (fun c13 => ?_) (fun c13 => ?_)
      · replace h := ip c13 h
        refine q_sub cx [1, 2, 3] rfl ?_
        exact hk11_0 _ _ (hz11.2 _ h)
      · replace h := ine c13 h
        refine q_aload_n cx (pc' := 17) 0 rfl dX8_fitting_16 rfl ?_
        obtain ⟨ht17, r17, ex17, h⟩ := gR_i h
        refine q_gR cx (pc' := 20) 8 9 fl_X8_55 rfl ht17 ex17 dX8_fitting_17 rfl ?_
        refine q_iload cx (pc' := 22) 4 rfl dX8_fitting_20 rfl ?_
        obtain ⟨ht22, hi22, x22, ex22, h⟩ := aI_i h
        refine q_zald cx (pc' := 23) ht22 hi22 ex22 dX8_fitting_22 rfl ?_
        refine q_if_eq cx (pc' := 26) (tgt := 33) dX8_fitting_23 (by decide) rfl (fun c23 => ?_) (fun c23 => ?_)
        · replace h := ip c23 h
          obtain ⟨v5_33, ev5_33, h⟩ := nm_i h
          refine q_iinc cx (pc' := 36) 4 rfl ki_m1 ev5_33 (by decide) (L' := [(5, .int v5_33), (0, .ref ths), (2, .int p2), (3, .int w3_11), (4, .int w4_11)]) rfl dX8_fitting_33 rfl ?_
          refine q_goto cx dX8_fitting_36 (tgt := 11) (by decide) ?_
          refine q_sub cx [1, 2, 3, 4, 0] rfl ?_
          exact ih _ _ _ (hz11.1 _ h)
        · replace h := ine c23 h
          obtain ⟨v3_26, ev3_26, h⟩ := nm_i h
          refine q_iinc cx (pc' := 29) 2 rfl ki_1 ev3_26 (by decide) (L' := [(3, .int v3_26), (0, .ref ths), (2, .int p2), (4, .int w4_11), (5, .int w5_11)]) rfl dX8_fitting_26 rfl ?_
          refine q_iload cx (pc' := 31) 4 rfl dX8_fitting_29 rfl ?_
          refine q_istore cx (pc' := 33) rfl (by decide) (L' := [(4, .int w5_11), (3, .int v3_26), (0, .ref ths), (2, .int p2), (5, .int w5_11)]) rfl dX8_fitting_31 rfl ?_
          obtain ⟨v5_33, ev5_33, h⟩ := nm_i h
          refine q_iinc cx (pc' := 36) 4 rfl ki_m1 ev5_33 (by decide) (L' := [(5, .int v5_33), (4, .int w5_11), (3, .int v3_26), (0, .ref ths), (2, .int p2)]) rfl dX8_fitting_33 rfl ?_
          refine q_goto cx dX8_fitting_36 (tgt := 11) (by decide) ?_
          refine q_sub cx [3, 4, 2, 1, 0] rfl ?_
          exact ih _ _ _ (hz11.1 _ h)
  refine q_sub cx [3, 5, 2, 1, 0] rfl ?_
  exact key11 FU _ _ _ hL11

abbrev rm_X8_heft : Room := { frames := 6, cells := 0, slots := 0, locals := 174 }
def lp_X8_heft_75 (ths : Nat) (p1 : Int32) (w4_32 : Int32) (w5_75 : Int32) (Mw_75 : QM) : Option ((Int32 × QM) ⊕ (QM)) :=
  if 100 ≤ w5_75 then
    some (.inr Mw_75)
  else
    gR Mw_75 ths 8 8 fun r83 =>
    pI Mw_75 r83 7 2 w5_75 fun M88 =>
    gR M88 ths 8 9 fun r92 =>
    gR M88 ths 8 9 fun r98 =>
    aI M88 21 r98 w5_75 fun x103 =>
    if x103 = 0 then
      wI M88 21 r92 w5_75 (zb 0) fun M122 =>
      nm (w5_75 + 1) fun v5_123 =>
      some (.inl (v5_123, M122))
    else
      ck M88 ths 8 <|
      bnd (fn_X8_isSeenSo M88 ths w4_32 p1) fun c111 =>
      if c111 = 0 then
        wI M88 21 r92 w5_75 (zb 0) fun M122 =>
        nm (w5_75 + 1) fun v5_123 =>
        some (.inl (v5_123, M122))
      else
        wI M88 21 r92 w5_75 (zb 1) fun M122 =>
        nm (w5_75 + 1) fun v5_123 =>
        some (.inl (v5_123, M122))
def lp_X8_heft_32 (ths : Nat) (p1 : Int32) (r10 : Nat) (w4_32 : Int32) (Mw_32 : QM) : Option ((Int32 × QM) ⊕ (QM)) :=
  gR Mw_32 ths 8 0 fun r35 =>
  gR Mw_32 r35 5 4 fun r38 =>
  gI Mw_32 r38 4 4 fun x41 =>
  if x41 ≤ w4_32 then
    some (.inr Mw_32)
  else
    gR Mw_32 ths 8 0 fun r49 =>
    gR Mw_32 r49 5 4 fun r52 =>
    gR Mw_32 r52 4 2 fun r55 =>
    aI Mw_32 20 r55 w4_32 fun x60 =>
    ck Mw_32 ths 8 <|
    bnd (fn_X8_askBehind Mw_32 ths x60) fun M61 =>
    gR M61 ths 8 8 fun r65 =>
    ck M61 r65 7 <|
    bnd (fn_X7_copy M61 r65 r10) fun M69 =>
    bnd (itr (fun s75 : Int32 × QM => lp_X8_heft_75 ths p1 w4_32 s75.1 s75.2) FU (0, M69)) fun Me_75 =>
    nm (w4_32 + 1) fun v4_129 =>
    some (.inl (v4_129, Me_75))
def fn_X8_heft (M : QM) (ths : Nat) (p1 : Int32) (p2 : Int32) : Option (Int32 × QM) :=
  gR M ths 8 0 fun r1 =>
  ck M r1 5 <|
  bnd (fn_X5_walkerAt M r1 p1) fun c5 =>
  cnul c5 (
    some ((-1), M)) fun r10 =>
  if (fn_X8_isBelow p2 2) = 0 then
    some ((-1), M)
  else
    bnd (fn_X8_fitAll M ths 100) fun M26 =>
    bnd (itr (fun s32 : Int32 × QM => lp_X8_heft_32 ths p1 r10 s32.1 s32.2) FU (0, M26)) fun Me_32 =>
    ck Me_32 ths 8 <|
    bnd (fn_X8_fitting Me_32 ths 100 p2) fun c139 =>
    some (c139, Me_32)
set_option maxRecDepth 100000 in
set_option maxHeartbeats 4000000 in
theorem ct_X8_heft (Γ : GT) (l : Launch) (M : QM) (ths : Nat) (p1 : Int32) (p2 : Int32) (ht0 : mt M ths = 8) (z : Int32) (M' : QM) (h : fn_X8_heft M ths p1 p2 = some (z, M')) : CT Γ l yX8_heft cX8_heft 6 (some .int) rm_X8_heft (.ref ths :: [.int p1, .int p2]) M (some (.int z)) M' := by
  refine ct_intro (own := RX8) (L := [(0, .ref ths), (1, .int p1), (2, .int p2)]) (by decide +kernel) rfl (Nat.le_of_ble_eq_true rfl) rfl ?_
  intro p e s m args below meth c Q hQ cx hnm
  unfold fn_X8_heft at h
  refine q_aload_n cx (pc' := 1) 0 rfl dX8_heft_0 rfl ?_
  obtain ⟨ht1, r1, ex1, h⟩ := gR_i h
  refine q_gR cx (pc' := 4) 8 0 fl_X8_12 rfl ht1 ex1 dX8_heft_1 rfl ?_
  refine q_iload_n cx (pc' := 5) 1 rfl dX8_heft_4 rfl ?_
  obtain ⟨hk5, h⟩ := ck_i h
  obtain ⟨c5, hc5, h⟩ := bnd_i h
  refine q_callV cx (pc' := 8) (S := []) (S1 := [va_rf c5]) (kc' := 0) (ks' := 0) 5 (ct_X5_walkerAt Γ l M r1 p1 hk5 _ hc5) lki_X5_walkerAt lkv_X5_walkerAt lkc_X8_85 hk5 (r := (RX5, TX5, 8)) ⟨rfl, by decide, rfl⟩ rfl rfl (Nat.le_of_ble_eq_true rfl) ⟨(Nat.le_of_ble_eq_true rfl), (Nat.le_of_ble_eq_true rfl)⟩ ⟨(Nat.le_of_ble_eq_true rfl), (Nat.le_of_ble_eq_true rfl)⟩ dX8_heft_5 rfl rfl rfl ?_
  refine q_astore_nO cx (pc' := 9) rfl rfl (by decide) (L' := [(3, va_rf c5), (0, .ref ths), (1, .int p1), (2, .int p2)]) rfl dX8_heft_8 rfl ?_
  refine q_aload_nO cx (pc' := 10) 0 rfl dX8_heft_9 rfl ?_
  rcases c5 with _ | r10
  · replace h := cnul_n h
    refine q_ifnull_null cx dX8_heft_10 (tgt := 21) (by decide) ?_
    refine q_iconst cx (pc' := 22) ki_m1 dX8_heft_21 rfl ?_
    obtain ⟨rfl, rfl⟩ := o2_i h
    rw [hQ]
    exact q_iret cx dX8_heft_22
  · replace h := cnul_s h
    refine q_ifnull_ref cx (pc' := 13) dX8_heft_10 rfl ?_
    refine q_iload_n cx (pc' := 14) 3 rfl dX8_heft_13 rfl ?_
    refine q_iconst cx (pc' := 15) ki_2 dX8_heft_14 rfl ?_
    refine q_callS cx (pc' := 18) (S := []) (S1 := [.int (fn_X8_isBelow p2 2)]) (kc' := 0) (ks' := 0) (ct_X8_isBelow Γ l M p2 2) lki_X8_isBelow lkv_X8_isBelow lkc_X8_69 rfl rfl (Nat.le_of_ble_eq_true rfl) ⟨(Nat.le_of_ble_eq_true rfl), (Nat.le_of_ble_eq_true rfl)⟩ ⟨(Nat.le_of_ble_eq_true rfl), (Nat.le_of_ble_eq_true rfl)⟩ dX8_heft_15 rfl rfl rfl ?_
    refine q_if_ne cx (pc' := 21) (tgt := 23) dX8_heft_18 (by decide) rfl (fun c18 => ?_) (fun c18 => ?_)
    · replace h := ine c18 h
      refine q_aload_n cx (pc' := 24) 1 rfl dX8_heft_23 rfl ?_
      refine q_bipush cx (pc' := 26) kb_100 dX8_heft_24 rfl ?_
      obtain ⟨M26, hc26, h⟩ := bnd_i h
      refine q_callV cx (pc' := 29) (S := []) (S1 := []) (kc' := 0) (ks' := 0) 8 (ct_X8_fitAll Γ l M ths 100 ht0 _ hc26) lki_X8_fitAll lkv_X8_fitAll lkc_X8_232 ht0 (r := (RX8, TX8, 10)) ⟨rfl, by decide, rfl⟩ rfl rfl (Nat.le_of_ble_eq_true rfl) ⟨(Nat.le_of_ble_eq_true rfl), (Nat.le_of_ble_eq_true rfl)⟩ ⟨(Nat.le_of_ble_eq_true rfl), (Nat.le_of_ble_eq_true rfl)⟩ dX8_heft_26 rfl rfl rfl ?_
      refine q_iconst cx (pc' := 30) ki_0 dX8_heft_29 rfl ?_
      refine q_istore cx (pc' := 32) rfl (by decide) (L' := [(4, .int 0), (3, .ref r10), (0, .ref ths), (1, .int p1), (2, .int p2)]) rfl dX8_heft_30 rfl ?_
      obtain ⟨r32, hL32, h⟩ := bnd_i h
      have hk32_0 : ∀ (Me_32 : QM), Me_32 = r32 → EE p l e rm_X8_heft s m args below meth c Q Γ 6 0 0 135 [(0, .ref ths), (2, .int p2)] [] Me_32 := by
        intro Me_32 hp
        subst hp
        refine q_aload_n cx (pc' := 136) 0 rfl dX8_heft_135 rfl ?_
        refine q_bipush cx (pc' := 138) kb_100 dX8_heft_136 rfl ?_
        refine q_iload_n cx (pc' := 139) 1 rfl dX8_heft_138 rfl ?_
        obtain ⟨hk139, h⟩ := ck_i h
        obtain ⟨c139, hc139, h⟩ := bnd_i h
        refine q_callV cx (pc' := 142) (S := []) (S1 := [.int c139]) (kc' := 0) (ks' := 0) 8 (ct_X8_fitting Γ l Me_32 ths 100 p2 hk139 _ hc139) lki_X8_fitting lkv_X8_fitting lkc_X8_244 hk139 (r := (RX8, TX8, 10)) ⟨rfl, by decide, rfl⟩ rfl rfl (Nat.le_of_ble_eq_true rfl) ⟨(Nat.le_of_ble_eq_true rfl), (Nat.le_of_ble_eq_true rfl)⟩ ⟨(Nat.le_of_ble_eq_true rfl), (Nat.le_of_ble_eq_true rfl)⟩ dX8_heft_139 rfl rfl rfl ?_
        obtain ⟨rfl, rfl⟩ := o2_i h
        rw [hQ]
        exact q_iret cx dX8_heft_142
      have key32 : ∀ (n : Nat) (w4_32 : Int32) (Mw_32 : QM), itr (fun s32 : Int32 × QM => lp_X8_heft_32 ths p1 r10 s32.1 s32.2) n (w4_32, Mw_32) = some r32 → EE p l e rm_X8_heft s m args below meth c Q Γ 6 0 0 32 [(0, .ref ths), (1, .int p1), (2, .int p2), (3, .ref r10), (4, .int w4_32)] [] Mw_32 := by
        intro n
        induction n with
        | zero => intro _ _ h; exact (itr_0 h).elim
        | succ n ih =>
          intro w4_32 Mw_32 h
          obtain ⟨z32, h, hz32⟩ := itr_i h
          replace h : lp_X8_heft_32 ths p1 r10 w4_32 Mw_32 = some z32 := h
          unfold lp_X8_heft_32 at h
          refine q_iload cx (pc' := 34) 4 rfl dX8_heft_32 rfl ?_
          refine q_aload_n cx (pc' := 35) 0 rfl dX8_heft_34 rfl ?_
          obtain ⟨ht35, r35, ex35, h⟩ := gR_i h
          refine q_gR cx (pc' := 38) 8 0 fl_X8_12 rfl ht35 ex35 dX8_heft_35 rfl ?_
          obtain ⟨ht38, r38, ex38, h⟩ := gR_i h
          refine q_gR cx (pc' := 41) 5 4 fl_X8_221 rfl ht38 ex38 dX8_heft_38 rfl ?_
          obtain ⟨ht41, x41, ex41, h⟩ := gI_i h
          refine q_gI cx (pc' := 44) 4 4 fl_X8_235 rfl ht41 ex41 dX8_heft_41 rfl ?_
          refine q_icmp_ge cx (pc' := 47) (tgt := 135) dX8_heft_44 (by decide) rfl (fun c44 => ?_) (fun c44 => ?_)
          · replace h := ip c44 h
            refine q_sub cx [0, 2] rfl ?_
            exact hk32_0 _ (hz32.2 _ h)
          · replace h := ine c44 h
            refine q_aload_n cx (pc' := 48) 0 rfl dX8_heft_47 rfl ?_
            refine q_aload_n cx (pc' := 49) 0 rfl dX8_heft_48 rfl ?_
            obtain ⟨ht49, r49, ex49, h⟩ := gR_i h
            refine q_gR cx (pc' := 52) 8 0 fl_X8_12 rfl ht49 ex49 dX8_heft_49 rfl ?_
            obtain ⟨ht52, r52, ex52, h⟩ := gR_i h
            refine q_gR cx (pc' := 55) 5 4 fl_X8_221 rfl ht52 ex52 dX8_heft_52 rfl ?_
            obtain ⟨ht55, r55, ex55, h⟩ := gR_i h
            refine q_gR cx (pc' := 58) 4 2 fl_X8_238 rfl ht55 ex55 dX8_heft_55 rfl ?_
            refine q_iload cx (pc' := 60) 4 rfl dX8_heft_58 rfl ?_
            obtain ⟨ht60, hi60, x60, ex60, h⟩ := aI_i h
            refine q_iald cx (pc' := 61) ht60 hi60 ex60 dX8_heft_60 rfl ?_
            obtain ⟨hk61, h⟩ := ck_i h
            obtain ⟨M61, hc61, h⟩ := bnd_i h
            refine q_callV cx (pc' := 64) (S := []) (S1 := []) (kc' := 0) (ks' := 0) 8 (ct_X8_askBehind Γ l Mw_32 ths x60 hk61 _ hc61) lki_X8_askBehind lkv_X8_askBehind lkc_X8_186 hk61 (r := (RX8, TX8, 10)) ⟨rfl, by decide, rfl⟩ rfl rfl (Nat.le_of_ble_eq_true rfl) ⟨(Nat.le_of_ble_eq_true rfl), (Nat.le_of_ble_eq_true rfl)⟩ ⟨(Nat.le_of_ble_eq_true rfl), (Nat.le_of_ble_eq_true rfl)⟩ dX8_heft_61 rfl rfl rfl ?_
            refine q_aload_n cx (pc' := 65) 0 rfl dX8_heft_64 rfl ?_
            obtain ⟨ht65, r65, ex65, h⟩ := gR_i h
            refine q_gR cx (pc' := 68) 8 8 fl_X8_51 rfl ht65 ex65 dX8_heft_65 rfl ?_
            refine q_aload_n cx (pc' := 69) 3 rfl dX8_heft_68 rfl ?_
            obtain ⟨hk69, h⟩ := ck_i h
            obtain ⟨M69, hc69, h⟩ := bnd_i h
            refine q_callV cx (pc' := 72) (S := []) (S1 := []) (kc' := 0) (ks' := 0) 7 (ct_X7_copy Γ l M61 r65 r10 hk69 _ hc69) lki_X7_copy lkv_X7_copy lkc_X8_208 hk69 (r := (RX7, TX7, 4)) ⟨rfl, by decide, rfl⟩ rfl rfl (Nat.le_of_ble_eq_true rfl) ⟨(Nat.le_of_ble_eq_true rfl), (Nat.le_of_ble_eq_true rfl)⟩ ⟨(Nat.le_of_ble_eq_true rfl), (Nat.le_of_ble_eq_true rfl)⟩ dX8_heft_69 rfl rfl rfl ?_
            refine q_iconst cx (pc' := 73) ki_0 dX8_heft_72 rfl ?_
            refine q_istore cx (pc' := 75) rfl (by decide) (L' := [(5, .int 0), (0, .ref ths), (1, .int p1), (2, .int p2), (3, .ref r10), (4, .int w4_32)]) rfl dX8_heft_73 rfl ?_
            obtain ⟨r75, hL75, h⟩ := bnd_i h
            have hk75_0 : ∀ (Me_75 : QM), Me_75 = r75 → EE p l e rm_X8_heft s m args below meth c Q Γ 6 0 0 129 [(0, .ref ths), (1, .int p1), (2, .int p2), (3, .ref r10), (4, .int w4_32)] [] Me_75 := by
              intro Me_75 hp
              subst hp
              obtain ⟨v4_129, ev4_129, h⟩ := nm_i h
              refine q_iinc cx (pc' := 132) 4 rfl ki_1 ev4_129 (by decide) (L' := [(4, .int v4_129), (0, .ref ths), (1, .int p1), (2, .int p2), (3, .ref r10)]) rfl dX8_heft_129 rfl ?_
              refine q_goto cx dX8_heft_132 (tgt := 32) (by decide) ?_
              refine q_sub cx [1, 2, 3, 4, 0] rfl ?_
              exact ih _ _ (hz32.1 _ h)
            have key75 : ∀ (n : Nat) (w5_75 : Int32) (Mw_75 : QM), itr (fun s75 : Int32 × QM => lp_X8_heft_75 ths p1 w4_32 s75.1 s75.2) n (w5_75, Mw_75) = some r75 → EE p l e rm_X8_heft s m args below meth c Q Γ 6 0 0 75 [(0, .ref ths), (1, .int p1), (2, .int p2), (3, .ref r10), (4, .int w4_32), (5, .int w5_75)] [] Mw_75 := by
              intro n
              induction n with
              | zero => intro _ _ h; exact (itr_0 h).elim
              | succ n ih =>
                intro w5_75 Mw_75 h
                obtain ⟨z75, h, hz75⟩ := itr_i h
                replace h : lp_X8_heft_75 ths p1 w4_32 w5_75 Mw_75 = some z75 := h
                unfold lp_X8_heft_75 at h
                refine q_iload cx (pc' := 77) 5 rfl dX8_heft_75 rfl ?_
                refine q_bipush cx (pc' := 79) kb_100 dX8_heft_77 rfl ?_
                refine q_icmp_ge cx (pc' := 82) (tgt := 129) dX8_heft_79 (by decide) rfl (fun c79 => ?_) (fun c79 => ?_)
                · replace h := ip c79 h
                  refine q_sub cx [0, 1, 2, 3, 4] rfl ?_
                  exact hk75_0 _ (hz75.2 _ h)
                · replace h := ine c79 h
                  refine q_aload_n cx (pc' := 83) 0 rfl dX8_heft_82 rfl ?_
                  obtain ⟨ht83, r83, ex83, h⟩ := gR_i h
                  refine q_gR cx (pc' := 86) 8 8 fl_X8_51 rfl ht83 ex83 dX8_heft_83 rfl ?_
                  refine q_iload cx (pc' := 88) 5 rfl dX8_heft_86 rfl ?_
                  obtain ⟨ht88, M88, eM88, h⟩ := pI_i h
                  refine q_pI cx (pc' := 91) 7 2 fl_X8_95 rfl ht88 (ty := .int) ⟨(RX7, TX7, 4), rfl, by decide +kernel, Or.inl rfl⟩ rfl rfl eM88 dX8_heft_88 rfl ?_
                  refine q_aload_n cx (pc' := 92) 0 rfl dX8_heft_91 rfl ?_
                  obtain ⟨ht92, r92, ex92, h⟩ := gR_i h
                  refine q_gR cx (pc' := 95) 8 9 fl_X8_55 rfl ht92 ex92 dX8_heft_92 rfl ?_
                  refine q_iload cx (pc' := 97) 5 rfl dX8_heft_95 rfl ?_
                  refine q_aload_n cx (pc' := 98) 0 rfl dX8_heft_97 rfl ?_
                  obtain ⟨ht98, r98, ex98, h⟩ := gR_i h
                  refine q_gR cx (pc' := 101) 8 9 fl_X8_55 rfl ht98 ex98 dX8_heft_98 rfl ?_
                  refine q_iload cx (pc' := 103) 5 rfl dX8_heft_101 rfl ?_
                  obtain ⟨ht103, hi103, x103, ex103, h⟩ := aI_i h
                  refine q_zald cx (pc' := 104) ht103 hi103 ex103 dX8_heft_103 rfl ?_
                  refine q_if_eq cx (pc' := 107) (tgt := 121) dX8_heft_104 (by decide) rfl (fun c104 => ?_) (fun c104 => ?_)
                  · replace h := ip c104 h
                    refine q_iconst cx (pc' := 122) ki_0 dX8_heft_121 rfl ?_
                    obtain ⟨ht122, hi122, M122, eM122, h⟩ := wI_i h
                    refine q_zast cx (pc' := 123) ht122 hi122 eM122 dX8_heft_122 rfl ?_
                    obtain ⟨v5_123, ev5_123, h⟩ := nm_i h
                    refine q_iinc cx (pc' := 126) 5 rfl ki_1 ev5_123 (by decide) (L' := [(5, .int v5_123), (0, .ref ths), (1, .int p1), (2, .int p2), (3, .ref r10), (4, .int w4_32)]) rfl dX8_heft_123 rfl ?_
                    refine q_goto cx dX8_heft_126 (tgt := 75) (by decide) ?_
                    refine q_sub cx [1, 2, 3, 4, 5, 0] rfl ?_
                    exact ih _ _ (hz75.1 _ h)
                  · replace h := ine c104 h
                    refine q_aload_n cx (pc' := 108) 0 rfl dX8_heft_107 rfl ?_
                    refine q_iload cx (pc' := 110) 4 rfl dX8_heft_108 rfl ?_
                    refine q_iload_n cx (pc' := 111) 1 rfl dX8_heft_110 rfl ?_
                    obtain ⟨hk111, h⟩ := ck_i h
                    obtain ⟨c111, hc111, h⟩ := bnd_i h
                    refine q_callV cx (pc' := 114) (S := [.int w5_75, .ref r92]) (S1 := [.int c111, .int w5_75, .ref r92]) (kc' := 0) (ks' := 0) 8 (ct_X8_isSeenSo Γ l M88 ths w4_32 p1 hk111 _ hc111) lki_X8_isSeenSo lkv_X8_isSeenSo lkc_X8_241 hk111 (r := (RX8, TX8, 10)) ⟨rfl, by decide, rfl⟩ rfl rfl (Nat.le_of_ble_eq_true rfl) ⟨(Nat.le_of_ble_eq_true rfl), (Nat.le_of_ble_eq_true rfl)⟩ ⟨(Nat.le_of_ble_eq_true rfl), (Nat.le_of_ble_eq_true rfl)⟩ dX8_heft_111 rfl rfl rfl ?_
                    refine q_if_eq cx (pc' := 117) (tgt := 121) dX8_heft_114 (by decide) rfl (fun c114 => ?_) (fun c114 => ?_)
                    · replace h := ip c114 h
                      refine q_iconst cx (pc' := 122) ki_0 dX8_heft_121 rfl ?_
                      obtain ⟨ht122, hi122, M122, eM122, h⟩ := wI_i h
                      refine q_zast cx (pc' := 123) ht122 hi122 eM122 dX8_heft_122 rfl ?_
                      obtain ⟨v5_123, ev5_123, h⟩ := nm_i h
                      refine q_iinc cx (pc' := 126) 5 rfl ki_1 ev5_123 (by decide) (L' := [(5, .int v5_123), (0, .ref ths), (1, .int p1), (2, .int p2), (3, .ref r10), (4, .int w4_32)]) rfl dX8_heft_123 rfl ?_
                      refine q_goto cx dX8_heft_126 (tgt := 75) (by decide) ?_
                      refine q_sub cx [1, 2, 3, 4, 5, 0] rfl ?_
                      exact ih _ _ (hz75.1 _ h)
                    · replace h := ine c114 h
                      refine q_iconst cx (pc' := 118) ki_1 dX8_heft_117 rfl ?_
                      refine q_goto cx dX8_heft_118 (tgt := 122) (by decide) ?_
                      obtain ⟨ht122, hi122, M122, eM122, h⟩ := wI_i h
                      refine q_zast cx (pc' := 123) ht122 hi122 eM122 dX8_heft_122 rfl ?_
                      obtain ⟨v5_123, ev5_123, h⟩ := nm_i h
                      refine q_iinc cx (pc' := 126) 5 rfl ki_1 ev5_123 (by decide) (L' := [(5, .int v5_123), (0, .ref ths), (1, .int p1), (2, .int p2), (3, .ref r10), (4, .int w4_32)]) rfl dX8_heft_123 rfl ?_
                      refine q_goto cx dX8_heft_126 (tgt := 75) (by decide) ?_
                      refine q_sub cx [1, 2, 3, 4, 5, 0] rfl ?_
                      exact ih _ _ (hz75.1 _ h)
            refine q_sub cx [1, 2, 3, 4, 5, 0] rfl ?_
            exact key75 FU _ _ hL75
      refine q_sub cx [2, 3, 4, 1, 0] rfl ?_
      exact key32 FU _ _ hL32
    · replace h := ip c18 h
      refine q_iconst cx (pc' := 22) ki_m1 dX8_heft_21 rfl ?_
      obtain ⟨rfl, rfl⟩ := o2_i h
      rw [hQ]
      exact q_iret cx dX8_heft_22

abbrev rm_X8_can : Room := { frames := 6, cells := 0, slots := 0, locals := 174 }
def lp_X8_can_75 (ths : Nat) (p1 : Int32) (w4_32 : Int32) (w5_75 : Int32) (Mw_75 : QM) : Option ((Int32 × QM) ⊕ (QM)) :=
  if 10 ≤ w5_75 then
    some (.inr Mw_75)
  else
    gR Mw_75 ths 8 8 fun r83 =>
    pI Mw_75 r83 7 1 w5_75 fun M88 =>
    gR M88 ths 8 9 fun r92 =>
    gR M88 ths 8 9 fun r98 =>
    aI M88 21 r98 w5_75 fun x103 =>
    if x103 = 0 then
      wI M88 21 r92 w5_75 (zb 0) fun M122 =>
      nm (w5_75 + 1) fun v5_123 =>
      some (.inl (v5_123, M122))
    else
      ck M88 ths 8 <|
      bnd (fn_X8_isSeenSo M88 ths w4_32 p1) fun c111 =>
      if c111 = 0 then
        wI M88 21 r92 w5_75 (zb 0) fun M122 =>
        nm (w5_75 + 1) fun v5_123 =>
        some (.inl (v5_123, M122))
      else
        wI M88 21 r92 w5_75 (zb 1) fun M122 =>
        nm (w5_75 + 1) fun v5_123 =>
        some (.inl (v5_123, M122))
def lp_X8_can_32 (ths : Nat) (p1 : Int32) (r10 : Nat) (w4_32 : Int32) (Mw_32 : QM) : Option ((Int32 × QM) ⊕ (QM)) :=
  gR Mw_32 ths 8 0 fun r35 =>
  gR Mw_32 r35 5 4 fun r38 =>
  gI Mw_32 r38 4 4 fun x41 =>
  if x41 ≤ w4_32 then
    some (.inr Mw_32)
  else
    gR Mw_32 ths 8 0 fun r49 =>
    gR Mw_32 r49 5 4 fun r52 =>
    gR Mw_32 r52 4 2 fun r55 =>
    aI Mw_32 20 r55 w4_32 fun x60 =>
    ck Mw_32 ths 8 <|
    bnd (fn_X8_askBehind Mw_32 ths x60) fun M61 =>
    gR M61 ths 8 8 fun r65 =>
    ck M61 r65 7 <|
    bnd (fn_X7_copy M61 r65 r10) fun M69 =>
    bnd (itr (fun s75 : Int32 × QM => lp_X8_can_75 ths p1 w4_32 s75.1 s75.2) FU (0, M69)) fun Me_75 =>
    nm (w4_32 + 1) fun v4_129 =>
    some (.inl (v4_129, Me_75))
def fn_X8_can (M : QM) (ths : Nat) (p1 : Int32) (p2 : Int32) : Option (Int32 × QM) :=
  gR M ths 8 0 fun r1 =>
  ck M r1 5 <|
  bnd (fn_X5_walkerAt M r1 p1) fun c5 =>
  cnul c5 (
    some ((-1), M)) fun r10 =>
  if (fn_X8_isBelow p2 2) = 0 then
    some ((-1), M)
  else
    bnd (fn_X8_fitAll M ths 10) fun M26 =>
    bnd (itr (fun s32 : Int32 × QM => lp_X8_can_32 ths p1 r10 s32.1 s32.2) FU (0, M26)) fun Me_32 =>
    ck Me_32 ths 8 <|
    bnd (fn_X8_fitting Me_32 ths 10 p2) fun c139 =>
    some (c139, Me_32)
set_option maxRecDepth 100000 in
set_option maxHeartbeats 4000000 in
theorem ct_X8_can (Γ : GT) (l : Launch) (M : QM) (ths : Nat) (p1 : Int32) (p2 : Int32) (ht0 : mt M ths = 8) (z : Int32) (M' : QM) (h : fn_X8_can M ths p1 p2 = some (z, M')) : CT Γ l yX8_can cX8_can 6 (some .int) rm_X8_can (.ref ths :: [.int p1, .int p2]) M (some (.int z)) M' := by
  refine ct_intro (own := RX8) (L := [(0, .ref ths), (1, .int p1), (2, .int p2)]) (by decide +kernel) rfl (Nat.le_of_ble_eq_true rfl) rfl ?_
  intro p e s m args below meth c Q hQ cx hnm
  unfold fn_X8_can at h
  refine q_aload_n cx (pc' := 1) 0 rfl dX8_can_0 rfl ?_
  obtain ⟨ht1, r1, ex1, h⟩ := gR_i h
  refine q_gR cx (pc' := 4) 8 0 fl_X8_12 rfl ht1 ex1 dX8_can_1 rfl ?_
  refine q_iload_n cx (pc' := 5) 1 rfl dX8_can_4 rfl ?_
  obtain ⟨hk5, h⟩ := ck_i h
  obtain ⟨c5, hc5, h⟩ := bnd_i h
  refine q_callV cx (pc' := 8) (S := []) (S1 := [va_rf c5]) (kc' := 0) (ks' := 0) 5 (ct_X5_walkerAt Γ l M r1 p1 hk5 _ hc5) lki_X5_walkerAt lkv_X5_walkerAt lkc_X8_85 hk5 (r := (RX5, TX5, 8)) ⟨rfl, by decide, rfl⟩ rfl rfl (Nat.le_of_ble_eq_true rfl) ⟨(Nat.le_of_ble_eq_true rfl), (Nat.le_of_ble_eq_true rfl)⟩ ⟨(Nat.le_of_ble_eq_true rfl), (Nat.le_of_ble_eq_true rfl)⟩ dX8_can_5 rfl rfl rfl ?_
  refine q_astore_nO cx (pc' := 9) rfl rfl (by decide) (L' := [(3, va_rf c5), (0, .ref ths), (1, .int p1), (2, .int p2)]) rfl dX8_can_8 rfl ?_
  refine q_aload_nO cx (pc' := 10) 0 rfl dX8_can_9 rfl ?_
  rcases c5 with _ | r10
  · replace h := cnul_n h
    refine q_ifnull_null cx dX8_can_10 (tgt := 21) (by decide) ?_
    refine q_iconst cx (pc' := 22) ki_m1 dX8_can_21 rfl ?_
    obtain ⟨rfl, rfl⟩ := o2_i h
    rw [hQ]
    exact q_iret cx dX8_can_22
  · replace h := cnul_s h
    refine q_ifnull_ref cx (pc' := 13) dX8_can_10 rfl ?_
    refine q_iload_n cx (pc' := 14) 3 rfl dX8_can_13 rfl ?_
    refine q_iconst cx (pc' := 15) ki_2 dX8_can_14 rfl ?_
    refine q_callS cx (pc' := 18) (S := []) (S1 := [.int (fn_X8_isBelow p2 2)]) (kc' := 0) (ks' := 0) (ct_X8_isBelow Γ l M p2 2) lki_X8_isBelow lkv_X8_isBelow lkc_X8_69 rfl rfl (Nat.le_of_ble_eq_true rfl) ⟨(Nat.le_of_ble_eq_true rfl), (Nat.le_of_ble_eq_true rfl)⟩ ⟨(Nat.le_of_ble_eq_true rfl), (Nat.le_of_ble_eq_true rfl)⟩ dX8_can_15 rfl rfl rfl ?_
    refine q_if_ne cx (pc' := 21) (tgt := 23) dX8_can_18 (by decide) rfl (fun c18 => ?_) (fun c18 => ?_)
    · replace h := ine c18 h
      refine q_aload_n cx (pc' := 24) 1 rfl dX8_can_23 rfl ?_
      refine q_bipush cx (pc' := 26) kb_10 dX8_can_24 rfl ?_
      obtain ⟨M26, hc26, h⟩ := bnd_i h
      refine q_callV cx (pc' := 29) (S := []) (S1 := []) (kc' := 0) (ks' := 0) 8 (ct_X8_fitAll Γ l M ths 10 ht0 _ hc26) lki_X8_fitAll lkv_X8_fitAll lkc_X8_232 ht0 (r := (RX8, TX8, 10)) ⟨rfl, by decide, rfl⟩ rfl rfl (Nat.le_of_ble_eq_true rfl) ⟨(Nat.le_of_ble_eq_true rfl), (Nat.le_of_ble_eq_true rfl)⟩ ⟨(Nat.le_of_ble_eq_true rfl), (Nat.le_of_ble_eq_true rfl)⟩ dX8_can_26 rfl rfl rfl ?_
      refine q_iconst cx (pc' := 30) ki_0 dX8_can_29 rfl ?_
      refine q_istore cx (pc' := 32) rfl (by decide) (L' := [(4, .int 0), (3, .ref r10), (0, .ref ths), (1, .int p1), (2, .int p2)]) rfl dX8_can_30 rfl ?_
      obtain ⟨r32, hL32, h⟩ := bnd_i h
      have hk32_0 : ∀ (Me_32 : QM), Me_32 = r32 → EE p l e rm_X8_can s m args below meth c Q Γ 6 0 0 135 [(0, .ref ths), (2, .int p2)] [] Me_32 := by
        intro Me_32 hp
        subst hp
        refine q_aload_n cx (pc' := 136) 0 rfl dX8_can_135 rfl ?_
        refine q_bipush cx (pc' := 138) kb_10 dX8_can_136 rfl ?_
        refine q_iload_n cx (pc' := 139) 1 rfl dX8_can_138 rfl ?_
        obtain ⟨hk139, h⟩ := ck_i h
        obtain ⟨c139, hc139, h⟩ := bnd_i h
        refine q_callV cx (pc' := 142) (S := []) (S1 := [.int c139]) (kc' := 0) (ks' := 0) 8 (ct_X8_fitting Γ l Me_32 ths 10 p2 hk139 _ hc139) lki_X8_fitting lkv_X8_fitting lkc_X8_244 hk139 (r := (RX8, TX8, 10)) ⟨rfl, by decide, rfl⟩ rfl rfl (Nat.le_of_ble_eq_true rfl) ⟨(Nat.le_of_ble_eq_true rfl), (Nat.le_of_ble_eq_true rfl)⟩ ⟨(Nat.le_of_ble_eq_true rfl), (Nat.le_of_ble_eq_true rfl)⟩ dX8_can_139 rfl rfl rfl ?_
        obtain ⟨rfl, rfl⟩ := o2_i h
        rw [hQ]
        exact q_iret cx dX8_can_142
      have key32 : ∀ (n : Nat) (w4_32 : Int32) (Mw_32 : QM), itr (fun s32 : Int32 × QM => lp_X8_can_32 ths p1 r10 s32.1 s32.2) n (w4_32, Mw_32) = some r32 → EE p l e rm_X8_can s m args below meth c Q Γ 6 0 0 32 [(0, .ref ths), (1, .int p1), (2, .int p2), (3, .ref r10), (4, .int w4_32)] [] Mw_32 := by
        intro n
        induction n with
        | zero => intro _ _ h; exact (itr_0 h).elim
        | succ n ih =>
          intro w4_32 Mw_32 h
          obtain ⟨z32, h, hz32⟩ := itr_i h
          replace h : lp_X8_can_32 ths p1 r10 w4_32 Mw_32 = some z32 := h
          unfold lp_X8_can_32 at h
          refine q_iload cx (pc' := 34) 4 rfl dX8_can_32 rfl ?_
          refine q_aload_n cx (pc' := 35) 0 rfl dX8_can_34 rfl ?_
          obtain ⟨ht35, r35, ex35, h⟩ := gR_i h
          refine q_gR cx (pc' := 38) 8 0 fl_X8_12 rfl ht35 ex35 dX8_can_35 rfl ?_
          obtain ⟨ht38, r38, ex38, h⟩ := gR_i h
          refine q_gR cx (pc' := 41) 5 4 fl_X8_221 rfl ht38 ex38 dX8_can_38 rfl ?_
          obtain ⟨ht41, x41, ex41, h⟩ := gI_i h
          refine q_gI cx (pc' := 44) 4 4 fl_X8_235 rfl ht41 ex41 dX8_can_41 rfl ?_
          refine q_icmp_ge cx (pc' := 47) (tgt := 135) dX8_can_44 (by decide) rfl (fun c44 => ?_) (fun c44 => ?_)
          · replace h := ip c44 h
            refine q_sub cx [0, 2] rfl ?_
            exact hk32_0 _ (hz32.2 _ h)
          · replace h := ine c44 h
            refine q_aload_n cx (pc' := 48) 0 rfl dX8_can_47 rfl ?_
            refine q_aload_n cx (pc' := 49) 0 rfl dX8_can_48 rfl ?_
            obtain ⟨ht49, r49, ex49, h⟩ := gR_i h
            refine q_gR cx (pc' := 52) 8 0 fl_X8_12 rfl ht49 ex49 dX8_can_49 rfl ?_
            obtain ⟨ht52, r52, ex52, h⟩ := gR_i h
            refine q_gR cx (pc' := 55) 5 4 fl_X8_221 rfl ht52 ex52 dX8_can_52 rfl ?_
            obtain ⟨ht55, r55, ex55, h⟩ := gR_i h
            refine q_gR cx (pc' := 58) 4 2 fl_X8_238 rfl ht55 ex55 dX8_can_55 rfl ?_
            refine q_iload cx (pc' := 60) 4 rfl dX8_can_58 rfl ?_
            obtain ⟨ht60, hi60, x60, ex60, h⟩ := aI_i h
            refine q_iald cx (pc' := 61) ht60 hi60 ex60 dX8_can_60 rfl ?_
            obtain ⟨hk61, h⟩ := ck_i h
            obtain ⟨M61, hc61, h⟩ := bnd_i h
            refine q_callV cx (pc' := 64) (S := []) (S1 := []) (kc' := 0) (ks' := 0) 8 (ct_X8_askBehind Γ l Mw_32 ths x60 hk61 _ hc61) lki_X8_askBehind lkv_X8_askBehind lkc_X8_186 hk61 (r := (RX8, TX8, 10)) ⟨rfl, by decide, rfl⟩ rfl rfl (Nat.le_of_ble_eq_true rfl) ⟨(Nat.le_of_ble_eq_true rfl), (Nat.le_of_ble_eq_true rfl)⟩ ⟨(Nat.le_of_ble_eq_true rfl), (Nat.le_of_ble_eq_true rfl)⟩ dX8_can_61 rfl rfl rfl ?_
            refine q_aload_n cx (pc' := 65) 0 rfl dX8_can_64 rfl ?_
            obtain ⟨ht65, r65, ex65, h⟩ := gR_i h
            refine q_gR cx (pc' := 68) 8 8 fl_X8_51 rfl ht65 ex65 dX8_can_65 rfl ?_
            refine q_aload_n cx (pc' := 69) 3 rfl dX8_can_68 rfl ?_
            obtain ⟨hk69, h⟩ := ck_i h
            obtain ⟨M69, hc69, h⟩ := bnd_i h
            refine q_callV cx (pc' := 72) (S := []) (S1 := []) (kc' := 0) (ks' := 0) 7 (ct_X7_copy Γ l M61 r65 r10 hk69 _ hc69) lki_X7_copy lkv_X7_copy lkc_X8_208 hk69 (r := (RX7, TX7, 4)) ⟨rfl, by decide, rfl⟩ rfl rfl (Nat.le_of_ble_eq_true rfl) ⟨(Nat.le_of_ble_eq_true rfl), (Nat.le_of_ble_eq_true rfl)⟩ ⟨(Nat.le_of_ble_eq_true rfl), (Nat.le_of_ble_eq_true rfl)⟩ dX8_can_69 rfl rfl rfl ?_
            refine q_iconst cx (pc' := 73) ki_0 dX8_can_72 rfl ?_
            refine q_istore cx (pc' := 75) rfl (by decide) (L' := [(5, .int 0), (0, .ref ths), (1, .int p1), (2, .int p2), (3, .ref r10), (4, .int w4_32)]) rfl dX8_can_73 rfl ?_
            obtain ⟨r75, hL75, h⟩ := bnd_i h
            have hk75_0 : ∀ (Me_75 : QM), Me_75 = r75 → EE p l e rm_X8_can s m args below meth c Q Γ 6 0 0 129 [(0, .ref ths), (1, .int p1), (2, .int p2), (3, .ref r10), (4, .int w4_32)] [] Me_75 := by
              intro Me_75 hp
              subst hp
              obtain ⟨v4_129, ev4_129, h⟩ := nm_i h
              refine q_iinc cx (pc' := 132) 4 rfl ki_1 ev4_129 (by decide) (L' := [(4, .int v4_129), (0, .ref ths), (1, .int p1), (2, .int p2), (3, .ref r10)]) rfl dX8_can_129 rfl ?_
              refine q_goto cx dX8_can_132 (tgt := 32) (by decide) ?_
              refine q_sub cx [1, 2, 3, 4, 0] rfl ?_
              exact ih _ _ (hz32.1 _ h)
            have key75 : ∀ (n : Nat) (w5_75 : Int32) (Mw_75 : QM), itr (fun s75 : Int32 × QM => lp_X8_can_75 ths p1 w4_32 s75.1 s75.2) n (w5_75, Mw_75) = some r75 → EE p l e rm_X8_can s m args below meth c Q Γ 6 0 0 75 [(0, .ref ths), (1, .int p1), (2, .int p2), (3, .ref r10), (4, .int w4_32), (5, .int w5_75)] [] Mw_75 := by
              intro n
              induction n with
              | zero => intro _ _ h; exact (itr_0 h).elim
              | succ n ih =>
                intro w5_75 Mw_75 h
                obtain ⟨z75, h, hz75⟩ := itr_i h
                replace h : lp_X8_can_75 ths p1 w4_32 w5_75 Mw_75 = some z75 := h
                unfold lp_X8_can_75 at h
                refine q_iload cx (pc' := 77) 5 rfl dX8_can_75 rfl ?_
                refine q_bipush cx (pc' := 79) kb_10 dX8_can_77 rfl ?_
                refine q_icmp_ge cx (pc' := 82) (tgt := 129) dX8_can_79 (by decide) rfl (fun c79 => ?_) (fun c79 => ?_)
                · replace h := ip c79 h
                  refine q_sub cx [0, 1, 2, 3, 4] rfl ?_
                  exact hk75_0 _ (hz75.2 _ h)
                · replace h := ine c79 h
                  refine q_aload_n cx (pc' := 83) 0 rfl dX8_can_82 rfl ?_
                  obtain ⟨ht83, r83, ex83, h⟩ := gR_i h
                  refine q_gR cx (pc' := 86) 8 8 fl_X8_51 rfl ht83 ex83 dX8_can_83 rfl ?_
                  refine q_iload cx (pc' := 88) 5 rfl dX8_can_86 rfl ?_
                  obtain ⟨ht88, M88, eM88, h⟩ := pI_i h
                  refine q_pI cx (pc' := 91) 7 1 fl_X8_92 rfl ht88 (ty := .int) ⟨(RX7, TX7, 4), rfl, by decide +kernel, Or.inl rfl⟩ rfl rfl eM88 dX8_can_88 rfl ?_
                  refine q_aload_n cx (pc' := 92) 0 rfl dX8_can_91 rfl ?_
                  obtain ⟨ht92, r92, ex92, h⟩ := gR_i h
                  refine q_gR cx (pc' := 95) 8 9 fl_X8_55 rfl ht92 ex92 dX8_can_92 rfl ?_
                  refine q_iload cx (pc' := 97) 5 rfl dX8_can_95 rfl ?_
                  refine q_aload_n cx (pc' := 98) 0 rfl dX8_can_97 rfl ?_
                  obtain ⟨ht98, r98, ex98, h⟩ := gR_i h
                  refine q_gR cx (pc' := 101) 8 9 fl_X8_55 rfl ht98 ex98 dX8_can_98 rfl ?_
                  refine q_iload cx (pc' := 103) 5 rfl dX8_can_101 rfl ?_
                  obtain ⟨ht103, hi103, x103, ex103, h⟩ := aI_i h
                  refine q_zald cx (pc' := 104) ht103 hi103 ex103 dX8_can_103 rfl ?_
                  refine q_if_eq cx (pc' := 107) (tgt := 121) dX8_can_104 (by decide) rfl (fun c104 => ?_) (fun c104 => ?_)
                  · replace h := ip c104 h
                    refine q_iconst cx (pc' := 122) ki_0 dX8_can_121 rfl ?_
                    obtain ⟨ht122, hi122, M122, eM122, h⟩ := wI_i h
                    refine q_zast cx (pc' := 123) ht122 hi122 eM122 dX8_can_122 rfl ?_
                    obtain ⟨v5_123, ev5_123, h⟩ := nm_i h
                    refine q_iinc cx (pc' := 126) 5 rfl ki_1 ev5_123 (by decide) (L' := [(5, .int v5_123), (0, .ref ths), (1, .int p1), (2, .int p2), (3, .ref r10), (4, .int w4_32)]) rfl dX8_can_123 rfl ?_
                    refine q_goto cx dX8_can_126 (tgt := 75) (by decide) ?_
                    refine q_sub cx [1, 2, 3, 4, 5, 0] rfl ?_
                    exact ih _ _ (hz75.1 _ h)
                  · replace h := ine c104 h
                    refine q_aload_n cx (pc' := 108) 0 rfl dX8_can_107 rfl ?_
                    refine q_iload cx (pc' := 110) 4 rfl dX8_can_108 rfl ?_
                    refine q_iload_n cx (pc' := 111) 1 rfl dX8_can_110 rfl ?_
                    obtain ⟨hk111, h⟩ := ck_i h
                    obtain ⟨c111, hc111, h⟩ := bnd_i h
                    refine q_callV cx (pc' := 114) (S := [.int w5_75, .ref r92]) (S1 := [.int c111, .int w5_75, .ref r92]) (kc' := 0) (ks' := 0) 8 (ct_X8_isSeenSo Γ l M88 ths w4_32 p1 hk111 _ hc111) lki_X8_isSeenSo lkv_X8_isSeenSo lkc_X8_241 hk111 (r := (RX8, TX8, 10)) ⟨rfl, by decide, rfl⟩ rfl rfl (Nat.le_of_ble_eq_true rfl) ⟨(Nat.le_of_ble_eq_true rfl), (Nat.le_of_ble_eq_true rfl)⟩ ⟨(Nat.le_of_ble_eq_true rfl), (Nat.le_of_ble_eq_true rfl)⟩ dX8_can_111 rfl rfl rfl ?_
                    refine q_if_eq cx (pc' := 117) (tgt := 121) dX8_can_114 (by decide) rfl (fun c114 => ?_) (fun c114 => ?_)
                    · replace h := ip c114 h
                      refine q_iconst cx (pc' := 122) ki_0 dX8_can_121 rfl ?_
                      obtain ⟨ht122, hi122, M122, eM122, h⟩ := wI_i h
                      refine q_zast cx (pc' := 123) ht122 hi122 eM122 dX8_can_122 rfl ?_
                      obtain ⟨v5_123, ev5_123, h⟩ := nm_i h
                      refine q_iinc cx (pc' := 126) 5 rfl ki_1 ev5_123 (by decide) (L' := [(5, .int v5_123), (0, .ref ths), (1, .int p1), (2, .int p2), (3, .ref r10), (4, .int w4_32)]) rfl dX8_can_123 rfl ?_
                      refine q_goto cx dX8_can_126 (tgt := 75) (by decide) ?_
                      refine q_sub cx [1, 2, 3, 4, 5, 0] rfl ?_
                      exact ih _ _ (hz75.1 _ h)
                    · replace h := ine c114 h
                      refine q_iconst cx (pc' := 118) ki_1 dX8_can_117 rfl ?_
                      refine q_goto cx dX8_can_118 (tgt := 122) (by decide) ?_
                      obtain ⟨ht122, hi122, M122, eM122, h⟩ := wI_i h
                      refine q_zast cx (pc' := 123) ht122 hi122 eM122 dX8_can_122 rfl ?_
                      obtain ⟨v5_123, ev5_123, h⟩ := nm_i h
                      refine q_iinc cx (pc' := 126) 5 rfl ki_1 ev5_123 (by decide) (L' := [(5, .int v5_123), (0, .ref ths), (1, .int p1), (2, .int p2), (3, .ref r10), (4, .int w4_32)]) rfl dX8_can_123 rfl ?_
                      refine q_goto cx dX8_can_126 (tgt := 75) (by decide) ?_
                      refine q_sub cx [1, 2, 3, 4, 5, 0] rfl ?_
                      exact ih _ _ (hz75.1 _ h)
            refine q_sub cx [1, 2, 3, 4, 5, 0] rfl ?_
            exact key75 FU _ _ hL75
      refine q_sub cx [2, 3, 4, 1, 0] rfl ?_
      exact key32 FU _ _ hL32
    · replace h := ip c18 h
      refine q_iconst cx (pc' := 22) ki_m1 dX8_can_21 rfl ?_
      obtain ⟨rfl, rfl⟩ := o2_i h
      rw [hQ]
      exact q_iret cx dX8_can_22

abbrev rm_X8_was : Room := { frames := 3, cells := 0, slots := 0, locals := 103 }
def lp_X8_was_58 (ths : Nat) (p1 : Int32) (p3 : Int32) (Mw_44 : QM) (w6_58 : Int32) (w7_58 : Int32) : Option ((Int32 × Int32) ⊕ (Int32)) :=
  if p3 ≤ w7_58 then
    some (.inr w6_58)
  else
    gR Mw_44 ths 8 0 fun r65 =>
    gR Mw_44 r65 5 7 fun r68 =>
    gR Mw_44 ths 8 0 fun r75 =>
    gR Mw_44 r75 5 0 fun r78 =>
    gI Mw_44 r78 2 1 fun x81 =>
    ck Mw_44 r68 1 <|
    bnd (fn_X1_grown Mw_44 r68 p1 w6_58 (x81 + w7_58)) fun c87 =>
    nm (w7_58 + 1) fun v7_92 =>
    some (.inl (c87, v7_92))
def lp_X8_was_44 (ths : Nat) (p1 : Int32) (p2 : Int32) (p3 : Int32) (w5_44 : Int32) (Mw_44 : QM) : Option ((Int32 × QM) ⊕ (QM)) :=
  if 100 ≤ w5_44 then
    some (.inr Mw_44)
  else
    bnd (itr (fun s58 : Int32 × Int32 => lp_X8_was_58 ths p1 p3 Mw_44 s58.1 s58.2) FU (w5_44, 0)) fun e6_58 =>
    gR Mw_44 ths 8 9 fun r99 =>
    if e6_58 = p2 then
      wI Mw_44 21 r99 w5_44 (zb 1) fun M115 =>
      nm (w5_44 + 1) fun v5_116 =>
      some (.inl (v5_116, M115))
    else
      wI Mw_44 21 r99 w5_44 (zb 0) fun M115 =>
      nm (w5_44 + 1) fun v5_116 =>
      some (.inl (v5_116, M115))
def fn_X8_was (M : QM) (ths : Nat) (p1 : Int32) (p2 : Int32) (p3 : Int32) (p4 : Int32) : Option (Int32 × QM) :=
  if (fn_X8_isBelow p1 16) = 0 then
    some ((-1), M)
  else
    if (fn_X8_isBelow p4 2) = 0 then
      some ((-1), M)
    else
      if (fn_X8_isBelow p2 100) = 0 then
        some ((-2), M)
      else
        if (fn_X8_isUpTo p3 20) = 0 then
          some ((-2), M)
        else
          bnd (itr (fun s44 : Int32 × QM => lp_X8_was_44 ths p1 p2 p3 s44.1 s44.2) FU (0, M)) fun Me_44 =>
          ck Me_44 ths 8 <|
          bnd (fn_X8_fitting Me_44 ths 100 p4) fun c127 =>
          some (c127, Me_44)
set_option maxRecDepth 100000 in
set_option maxHeartbeats 4000000 in
theorem ct_X8_was (Γ : GT) (l : Launch) (M : QM) (ths : Nat) (p1 : Int32) (p2 : Int32) (p3 : Int32) (p4 : Int32) (ht0 : mt M ths = 8) (z : Int32) (M' : QM) (h : fn_X8_was M ths p1 p2 p3 p4 = some (z, M')) : CT Γ l yX8_was cX8_was 8 (some .int) rm_X8_was (.ref ths :: [.int p1, .int p2, .int p3, .int p4]) M (some (.int z)) M' := by
  refine ct_intro (own := RX8) (L := [(0, .ref ths), (1, .int p1), (2, .int p2), (3, .int p3), (4, .int p4)]) (by decide +kernel) rfl (Nat.le_of_ble_eq_true rfl) rfl ?_
  intro p e s m args below meth c Q hQ cx hnm
  unfold fn_X8_was at h
  refine q_iload_n cx (pc' := 1) 1 rfl dX8_was_0 rfl ?_
  refine q_bipush cx (pc' := 3) kb_16 dX8_was_1 rfl ?_
  refine q_callS cx (pc' := 6) (S := []) (S1 := [.int (fn_X8_isBelow p1 16)]) (kc' := 0) (ks' := 0) (ct_X8_isBelow Γ l M p1 16) lki_X8_isBelow lkv_X8_isBelow lkc_X8_69 rfl rfl (Nat.le_of_ble_eq_true rfl) ⟨(Nat.le_of_ble_eq_true rfl), (Nat.le_of_ble_eq_true rfl)⟩ ⟨(Nat.le_of_ble_eq_true rfl), (Nat.le_of_ble_eq_true rfl)⟩ dX8_was_3 rfl rfl rfl ?_
  refine q_if_eq cx (pc' := 9) (tgt := 18) dX8_was_6 (by decide) rfl (fun c6 => ?_) (fun c6 => ?_)
  · replace h := ip c6 h
    refine q_iconst cx (pc' := 19) ki_m1 dX8_was_18 rfl ?_
    obtain ⟨rfl, rfl⟩ := o2_i h
    rw [hQ]
    exact q_iret cx dX8_was_19
  · replace h := ine c6 h
    refine q_iload cx (pc' := 11) 4 rfl dX8_was_9 rfl ?_
    refine q_iconst cx (pc' := 12) ki_2 dX8_was_11 rfl ?_
    refine q_callS cx (pc' := 15) (S := []) (S1 := [.int (fn_X8_isBelow p4 2)]) (kc' := 0) (ks' := 0) (ct_X8_isBelow Γ l M p4 2) lki_X8_isBelow lkv_X8_isBelow lkc_X8_69 rfl rfl (Nat.le_of_ble_eq_true rfl) ⟨(Nat.le_of_ble_eq_true rfl), (Nat.le_of_ble_eq_true rfl)⟩ ⟨(Nat.le_of_ble_eq_true rfl), (Nat.le_of_ble_eq_true rfl)⟩ dX8_was_12 rfl rfl rfl ?_
    refine q_if_ne cx (pc' := 18) (tgt := 20) dX8_was_15 (by decide) rfl (fun c15 => ?_) (fun c15 => ?_)
    · replace h := ine c15 h
      refine q_iload_n cx (pc' := 21) 2 rfl dX8_was_20 rfl ?_
      refine q_bipush cx (pc' := 23) kb_100 dX8_was_21 rfl ?_
      refine q_callS cx (pc' := 26) (S := []) (S1 := [.int (fn_X8_isBelow p2 100)]) (kc' := 0) (ks' := 0) (ct_X8_isBelow Γ l M p2 100) lki_X8_isBelow lkv_X8_isBelow lkc_X8_69 rfl rfl (Nat.le_of_ble_eq_true rfl) ⟨(Nat.le_of_ble_eq_true rfl), (Nat.le_of_ble_eq_true rfl)⟩ ⟨(Nat.le_of_ble_eq_true rfl), (Nat.le_of_ble_eq_true rfl)⟩ dX8_was_23 rfl rfl rfl ?_
      refine q_if_eq cx (pc' := 29) (tgt := 38) dX8_was_26 (by decide) rfl (fun c26 => ?_) (fun c26 => ?_)
      · replace h := ip c26 h
        refine q_bipush cx (pc' := 40) kb_m2 dX8_was_38 rfl ?_
        obtain ⟨rfl, rfl⟩ := o2_i h
        rw [hQ]
        exact q_iret cx dX8_was_40
      · replace h := ine c26 h
        refine q_iload_n cx (pc' := 30) 3 rfl dX8_was_29 rfl ?_
        refine q_bipush cx (pc' := 32) kb_20 dX8_was_30 rfl ?_
        refine q_callS cx (pc' := 35) (S := []) (S1 := [.int (fn_X8_isUpTo p3 20)]) (kc' := 0) (ks' := 0) (ct_X8_isUpTo Γ l M p3 20) lki_X8_isUpTo lkv_X8_isUpTo lkc_X8_179 rfl rfl (Nat.le_of_ble_eq_true rfl) ⟨(Nat.le_of_ble_eq_true rfl), (Nat.le_of_ble_eq_true rfl)⟩ ⟨(Nat.le_of_ble_eq_true rfl), (Nat.le_of_ble_eq_true rfl)⟩ dX8_was_32 rfl rfl rfl ?_
        refine q_if_ne cx (pc' := 38) (tgt := 41) dX8_was_35 (by decide) rfl (fun c35 => ?_) (fun c35 => ?_)
        · replace h := ine c35 h
          refine q_iconst cx (pc' := 42) ki_0 dX8_was_41 rfl ?_
          refine q_istore cx (pc' := 44) rfl (by decide) (L' := [(5, .int 0), (0, .ref ths), (1, .int p1), (2, .int p2), (3, .int p3), (4, .int p4)]) rfl dX8_was_42 rfl ?_
          obtain ⟨r44, hL44, h⟩ := bnd_i h
          have hk44_0 : ∀ (Me_44 : QM), Me_44 = r44 → EE p l e rm_X8_was s m args below meth c Q Γ 8 0 0 122 [(0, .ref ths), (4, .int p4)] [] Me_44 := by
            intro Me_44 hp
            subst hp
            refine q_aload_n cx (pc' := 123) 0 rfl dX8_was_122 rfl ?_
            refine q_bipush cx (pc' := 125) kb_100 dX8_was_123 rfl ?_
            refine q_iload cx (pc' := 127) 1 rfl dX8_was_125 rfl ?_
            obtain ⟨hk127, h⟩ := ck_i h
            obtain ⟨c127, hc127, h⟩ := bnd_i h
            refine q_callV cx (pc' := 130) (S := []) (S1 := [.int c127]) (kc' := 0) (ks' := 0) 8 (ct_X8_fitting Γ l Me_44 ths 100 p4 hk127 _ hc127) lki_X8_fitting lkv_X8_fitting lkc_X8_244 hk127 (r := (RX8, TX8, 10)) ⟨rfl, by decide, rfl⟩ rfl rfl (Nat.le_of_ble_eq_true rfl) ⟨(Nat.le_of_ble_eq_true rfl), (Nat.le_of_ble_eq_true rfl)⟩ ⟨(Nat.le_of_ble_eq_true rfl), (Nat.le_of_ble_eq_true rfl)⟩ dX8_was_127 rfl rfl rfl ?_
            obtain ⟨rfl, rfl⟩ := o2_i h
            rw [hQ]
            exact q_iret cx dX8_was_130
          have key44 : ∀ (n : Nat) (w5_44 : Int32) (Mw_44 : QM), itr (fun s44 : Int32 × QM => lp_X8_was_44 ths p1 p2 p3 s44.1 s44.2) n (w5_44, Mw_44) = some r44 → EE p l e rm_X8_was s m args below meth c Q Γ 8 0 0 44 [(0, .ref ths), (1, .int p1), (2, .int p2), (3, .int p3), (4, .int p4), (5, .int w5_44)] [] Mw_44 := by
            intro n
            induction n with
            | zero => intro _ _ h; exact (itr_0 h).elim
            | succ n ih =>
              intro w5_44 Mw_44 h
              obtain ⟨z44, h, hz44⟩ := itr_i h
              replace h : lp_X8_was_44 ths p1 p2 p3 w5_44 Mw_44 = some z44 := h
              unfold lp_X8_was_44 at h
              refine q_iload cx (pc' := 46) 5 rfl dX8_was_44 rfl ?_
              refine q_bipush cx (pc' := 48) kb_100 dX8_was_46 rfl ?_
              refine q_icmp_ge cx (pc' := 51) (tgt := 122) dX8_was_48 (by decide) rfl (fun c48 => ?_) (fun c48 => ?_)
              · replace h := ip c48 h
                refine q_sub cx [0, 4] rfl ?_
                exact hk44_0 _ (hz44.2 _ h)
              · replace h := ine c48 h
                refine q_iload cx (pc' := 53) 5 rfl dX8_was_51 rfl ?_
                refine q_istore cx (pc' := 55) rfl (by decide) (L' := [(6, .int w5_44), (0, .ref ths), (1, .int p1), (2, .int p2), (3, .int p3), (4, .int p4), (5, .int w5_44)]) rfl dX8_was_53 rfl ?_
                refine q_iconst cx (pc' := 56) ki_0 dX8_was_55 rfl ?_
                refine q_istore cx (pc' := 58) rfl (by decide) (L' := [(7, .int 0), (6, .int w5_44), (0, .ref ths), (1, .int p1), (2, .int p2), (3, .int p3), (4, .int p4), (5, .int w5_44)]) rfl dX8_was_56 rfl ?_
                obtain ⟨r58, hL58, h⟩ := bnd_i h
                have hk58_0 : ∀ (e6_58 : Int32), e6_58 = r58 → EE p l e rm_X8_was s m args below meth c Q Γ 8 0 0 98 [(0, .ref ths), (1, .int p1), (2, .int p2), (3, .int p3), (4, .int p4), (5, .int w5_44), (6, .int e6_58)] [] Mw_44 := by
                  intro e6_58 hp
                  subst hp
                  refine q_aload_n cx (pc' := 99) 0 rfl dX8_was_98 rfl ?_
                  obtain ⟨ht99, r99, ex99, h⟩ := gR_i h
                  refine q_gR cx (pc' := 102) 8 9 fl_X8_55 rfl ht99 ex99 dX8_was_99 rfl ?_
                  refine q_iload cx (pc' := 104) 5 rfl dX8_was_102 rfl ?_
                  refine q_iload cx (pc' := 106) 6 rfl dX8_was_104 rfl ?_
                  refine q_iload_n cx (pc' := 107) 2 rfl dX8_was_106 rfl ?_
                  refine q_icmp_ne cx (pc' := 110) (tgt := 114) dX8_was_107 (by decide) rfl (fun c107 => ?_) (fun c107 => ?_)
                  · replace h := ine c107 h
                    refine q_iconst cx (pc' := 115) ki_0 dX8_was_114 rfl ?_
                    obtain ⟨ht115, hi115, M115, eM115, h⟩ := wI_i h
                    refine q_zast cx (pc' := 116) ht115 hi115 eM115 dX8_was_115 rfl ?_
                    obtain ⟨v5_116, ev5_116, h⟩ := nm_i h
                    refine q_iinc cx (pc' := 119) 5 rfl ki_1 ev5_116 (by decide) (L' := [(5, .int v5_116), (0, .ref ths), (1, .int p1), (2, .int p2), (3, .int p3), (4, .int p4), (6, .int e6_58)]) rfl dX8_was_116 rfl ?_
                    refine q_goto cx dX8_was_119 (tgt := 44) (by decide) ?_
                    refine q_sub cx [1, 2, 3, 4, 5, 0] rfl ?_
                    exact ih _ _ (hz44.1 _ h)
                  · replace h := ip c107 h
                    refine q_iconst cx (pc' := 111) ki_1 dX8_was_110 rfl ?_
                    refine q_goto cx dX8_was_111 (tgt := 115) (by decide) ?_
                    obtain ⟨ht115, hi115, M115, eM115, h⟩ := wI_i h
                    refine q_zast cx (pc' := 116) ht115 hi115 eM115 dX8_was_115 rfl ?_
                    obtain ⟨v5_116, ev5_116, h⟩ := nm_i h
                    refine q_iinc cx (pc' := 119) 5 rfl ki_1 ev5_116 (by decide) (L' := [(5, .int v5_116), (0, .ref ths), (1, .int p1), (2, .int p2), (3, .int p3), (4, .int p4), (6, .int e6_58)]) rfl dX8_was_116 rfl ?_
                    refine q_goto cx dX8_was_119 (tgt := 44) (by decide) ?_
                    refine q_sub cx [1, 2, 3, 4, 5, 0] rfl ?_
                    exact ih _ _ (hz44.1 _ h)
                have key58 : ∀ (n : Nat) (w6_58 : Int32) (w7_58 : Int32), itr (fun s58 : Int32 × Int32 => lp_X8_was_58 ths p1 p3 Mw_44 s58.1 s58.2) n (w6_58, w7_58) = some r58 → EE p l e rm_X8_was s m args below meth c Q Γ 8 0 0 58 [(0, .ref ths), (1, .int p1), (2, .int p2), (3, .int p3), (4, .int p4), (5, .int w5_44), (6, .int w6_58), (7, .int w7_58)] [] Mw_44 := by
                  intro n
                  induction n with
                  | zero => intro _ _ h; exact (itr_0 h).elim
                  | succ n ih =>
                    intro w6_58 w7_58 h
                    obtain ⟨z58, h, hz58⟩ := itr_i h
                    replace h : lp_X8_was_58 ths p1 p3 Mw_44 w6_58 w7_58 = some z58 := h
                    unfold lp_X8_was_58 at h
                    refine q_iload cx (pc' := 60) 7 rfl dX8_was_58 rfl ?_
                    refine q_iload_n cx (pc' := 61) 3 rfl dX8_was_60 rfl ?_
                    refine q_icmp_ge cx (pc' := 64) (tgt := 98) dX8_was_61 (by decide) rfl (fun c61 => ?_) (fun c61 => ?_)
                    · replace h := ip c61 h
                      refine q_sub cx [0, 1, 2, 3, 4, 5, 6] rfl ?_
                      exact hk58_0 _ (hz58.2 _ h)
                    · replace h := ine c61 h
                      refine q_aload_n cx (pc' := 65) 0 rfl dX8_was_64 rfl ?_
                      obtain ⟨ht65, r65, ex65, h⟩ := gR_i h
                      refine q_gR cx (pc' := 68) 8 0 fl_X8_12 rfl ht65 ex65 dX8_was_65 rfl ?_
                      obtain ⟨ht68, r68, ex68, h⟩ := gR_i h
                      refine q_gR cx (pc' := 71) 5 7 fl_X8_64 rfl ht68 ex68 dX8_was_68 rfl ?_
                      refine q_iload_n cx (pc' := 72) 1 rfl dX8_was_71 rfl ?_
                      refine q_iload cx (pc' := 74) 6 rfl dX8_was_72 rfl ?_
                      refine q_aload_n cx (pc' := 75) 0 rfl dX8_was_74 rfl ?_
                      obtain ⟨ht75, r75, ex75, h⟩ := gR_i h
                      refine q_gR cx (pc' := 78) 8 0 fl_X8_12 rfl ht75 ex75 dX8_was_75 rfl ?_
                      obtain ⟨ht78, r78, ex78, h⟩ := gR_i h
                      refine q_gR cx (pc' := 81) 5 0 fl_X8_98 rfl ht78 ex78 dX8_was_78 rfl ?_
                      obtain ⟨ht81, x81, ex81, h⟩ := gI_i h
                      refine q_gI cx (pc' := 84) 2 1 fl_X8_119 rfl ht81 ex81 dX8_was_81 rfl ?_
                      refine q_iload cx (pc' := 86) 7 rfl dX8_was_84 rfl ?_
                      refine q_iadd cx (pc' := 87) dX8_was_86 rfl ?_
                      obtain ⟨hk87, h⟩ := ck_i h
                      obtain ⟨c87, hc87, h⟩ := bnd_i h
                      refine q_callV cx (pc' := 90) (S := []) (S1 := [.int c87]) (kc' := 0) (ks' := 0) 1 (ct_X1_grown Γ l Mw_44 r68 p1 w6_58 (x81 + w7_58) hk87 _ hc87) lki_X1_grown lkv_X1_grown lkc_X8_247 hk87 (r := (RX1, TX1, 3)) ⟨rfl, by decide, rfl⟩ rfl rfl (Nat.le_of_ble_eq_true rfl) ⟨(Nat.le_of_ble_eq_true rfl), (Nat.le_of_ble_eq_true rfl)⟩ ⟨(Nat.le_of_ble_eq_true rfl), (Nat.le_of_ble_eq_true rfl)⟩ dX8_was_87 rfl rfl rfl ?_
                      refine q_istore cx (pc' := 92) rfl (by decide) (L' := [(6, .int c87), (0, .ref ths), (1, .int p1), (2, .int p2), (3, .int p3), (4, .int p4), (5, .int w5_44), (7, .int w7_58)]) rfl dX8_was_90 rfl ?_
                      obtain ⟨v7_92, ev7_92, h⟩ := nm_i h
                      refine q_iinc cx (pc' := 95) 7 rfl ki_1 ev7_92 (by decide) (L' := [(7, .int v7_92), (6, .int c87), (0, .ref ths), (1, .int p1), (2, .int p2), (3, .int p3), (4, .int p4), (5, .int w5_44)]) rfl dX8_was_92 rfl ?_
                      refine q_goto cx dX8_was_95 (tgt := 58) (by decide) ?_
                      refine q_sub cx [2, 3, 4, 5, 6, 7, 1, 0] rfl ?_
                      exact ih _ _ (hz58.1 _ h)
                refine q_sub cx [2, 3, 4, 5, 6, 7, 1, 0] rfl ?_
                exact key58 FU _ _ hL58
          refine q_sub cx [1, 2, 3, 4, 5, 0] rfl ?_
          exact key44 FU _ _ hL44
        · replace h := ip c35 h
          refine q_bipush cx (pc' := 40) kb_m2 dX8_was_38 rfl ?_
          obtain ⟨rfl, rfl⟩ := o2_i h
          rw [hQ]
          exact q_iret cx dX8_was_40
    · replace h := ip c15 h
      refine q_iconst cx (pc' := 19) ki_m1 dX8_was_18 rfl ?_
      obtain ⟨rfl, rfl⟩ := o2_i h
      rw [hQ]
      exact q_iret cx dX8_was_19

abbrev rm_X8_partOfSixteenths : Room := { frames := 1, cells := 0, slots := 0, locals := 40 }
def lp_X8_partOfSixteenths_5 (w0_5 : Int32) (w2_5 : Int32) (w3_5 : Int32) : Option ((Int32 × Int32 × Int32) ⊕ (Int32 × Int32)) :=
  if 4 ≤ w3_5 then
    some (.inr (w0_5, w2_5))
  else
    if (w0_5 - w0_5 / 2 * 2) = 0 then
      if w2_5 ≤ 1 then
        some (.inr (w0_5, w2_5))
      else
        nm (w0_5 / 2) fun v0_24 =>
        nm (w2_5 / 2) fun v2_28 =>
        nm (w3_5 + 1) fun v3_29 =>
        some (.inl (v0_24, v2_28, v3_29))
    else
      some (.inr (w0_5, w2_5))
def fn_X8_partOfSixteenths (p0 : Int32) (p1 : Int32) : Option Int64 :=
  bnd (itr (fun s5 : Int32 × Int32 × Int32 => lp_X8_partOfSixteenths_5 s5.1 s5.2.1 s5.2.2) FU (p0, 16, 0)) fun r5 =>
  pr2 r5 fun e0_5 e2_5 =>
  if p1 = 0 then
    some e0_5.toInt64
  else
    some e2_5.toInt64
set_option maxRecDepth 100000 in
set_option maxHeartbeats 4000000 in
theorem ct_X8_partOfSixteenths (Γ : GT) (l : Launch) (M : QM) (p0 : Int32) (p1 : Int32) (z : Int64) (h : fn_X8_partOfSixteenths p0 p1 = some z) : CT Γ l yX8_partOfSixteenths cX8_partOfSixteenths 4 (some .long) rm_X8_partOfSixteenths [.int p0, .int p1] M (some (.long z)) M := by
  refine ct_intro (own := RX8) (L := [(0, .int p0), (1, .int p1)]) (by decide +kernel) rfl (Nat.le_of_ble_eq_true rfl) rfl ?_
  intro p e s m args below meth c Q hQ cx hnm
  unfold fn_X8_partOfSixteenths at h
  refine q_bipush cx (pc' := 2) kb_16 dX8_partOfSixteenths_0 rfl ?_
  refine q_istore_n cx (pc' := 3) rfl rfl (by decide) (L' := [(2, .int 16), (0, .int p0), (1, .int p1)]) rfl dX8_partOfSixteenths_2 rfl ?_
  refine q_iconst cx (pc' := 4) ki_0 dX8_partOfSixteenths_3 rfl ?_
  refine q_istore_n cx (pc' := 5) rfl rfl (by decide) (L' := [(3, .int 0), (2, .int 16), (0, .int p0), (1, .int p1)]) rfl dX8_partOfSixteenths_4 rfl ?_
  obtain ⟨r5, hL5, h⟩ := bnd_i h
  have hk5_0 : ∀ (e0_5 : Int32) (e2_5 : Int32), (e0_5, e2_5) = r5 → EE p l e rm_X8_partOfSixteenths s m args below meth c Q Γ 4 0 0 35 [(0, .int e0_5), (1, .int p1), (2, .int e2_5)] [] M := by
    intro e0_5 e2_5 hp
    subst hp
    replace h := pr2_i h
    refine q_iload_n cx (pc' := 36) 1 rfl dX8_partOfSixteenths_35 rfl ?_
    refine q_if_ne cx (pc' := 39) (tgt := 44) dX8_partOfSixteenths_36 (by decide) rfl (fun c36 => ?_) (fun c36 => ?_)
    · replace h := ine c36 h
      refine q_iload_n cx (pc' := 45) 2 rfl dX8_partOfSixteenths_44 rfl ?_
      refine q_i2l cx (pc' := 46) dX8_partOfSixteenths_45 rfl ?_
      obtain rfl := o1_i h
      rw [hQ]
      exact q_lret cx dX8_partOfSixteenths_46
    · replace h := ip c36 h
      refine q_iload_n cx (pc' := 40) 0 rfl dX8_partOfSixteenths_39 rfl ?_
      refine q_i2l cx (pc' := 41) dX8_partOfSixteenths_40 rfl ?_
      refine q_goto cx dX8_partOfSixteenths_41 (tgt := 46) (by decide) ?_
      obtain rfl := o1_i h
      rw [hQ]
      exact q_lret cx dX8_partOfSixteenths_46
  have key5 : ∀ (n : Nat) (w0_5 : Int32) (w2_5 : Int32) (w3_5 : Int32), itr (fun s5 : Int32 × Int32 × Int32 => lp_X8_partOfSixteenths_5 s5.1 s5.2.1 s5.2.2) n (w0_5, w2_5, w3_5) = some r5 → EE p l e rm_X8_partOfSixteenths s m args below meth c Q Γ 4 0 0 5 [(0, .int w0_5), (1, .int p1), (2, .int w2_5), (3, .int w3_5)] [] M := by
    intro n
    induction n with
    | zero => intro _ _ _ h; exact (itr_0 h).elim
    | succ n ih =>
      intro w0_5 w2_5 w3_5 h
      obtain ⟨z5, h, hz5⟩ := itr_i h
      replace h : lp_X8_partOfSixteenths_5 w0_5 w2_5 w3_5 = some z5 := h
      unfold lp_X8_partOfSixteenths_5 at h
      refine q_iload_n cx (pc' := 6) 3 rfl dX8_partOfSixteenths_5 rfl ?_
      refine q_iconst cx (pc' := 7) ki_4 dX8_partOfSixteenths_6 rfl ?_
      refine q_icmp_ge cx (pc' := 10) (tgt := 35) dX8_partOfSixteenths_7 (by decide) rfl (fun c7 => ?_) (fun c7 => ?_)
      · replace h := ip c7 h
        refine q_sub cx [0, 1, 2] rfl ?_
        exact hk5_0 _ _ (hz5.2 _ h)
      · replace h := ine c7 h
        refine q_iload_n cx (pc' := 11) 0 rfl dX8_partOfSixteenths_10 rfl ?_
        refine q_iconst cx (pc' := 12) ki_2 dX8_partOfSixteenths_11 rfl ?_
        refine q_irem cx (pc' := 13) (by decide) dX8_partOfSixteenths_12 rfl ?_
        refine q_if_ne cx (pc' := 16) (tgt := 35) dX8_partOfSixteenths_13 (by decide) rfl (fun c13 => ?_) (fun c13 => ?_)
        · replace h := ine c13 h
          refine q_sub cx [0, 1, 2] rfl ?_
          exact hk5_0 _ _ (hz5.2 _ h)
        · replace h := ip c13 h
          refine q_iload_n cx (pc' := 17) 2 rfl dX8_partOfSixteenths_16 rfl ?_
          refine q_iconst cx (pc' := 18) ki_1 dX8_partOfSixteenths_17 rfl ?_
          refine q_icmp_le cx (pc' := 21) (tgt := 35) dX8_partOfSixteenths_18 (by decide) rfl (fun c18 => ?_) (fun c18 => ?_)
          · replace h := ip c18 h
            refine q_sub cx [0, 1, 2] rfl ?_
            exact hk5_0 _ _ (hz5.2 _ h)
          · replace h := ine c18 h
            refine q_iload_n cx (pc' := 22) 0 rfl dX8_partOfSixteenths_21 rfl ?_
            refine q_iconst cx (pc' := 23) ki_2 dX8_partOfSixteenths_22 rfl ?_
            refine q_idiv cx (pc' := 24) (by decide) dX8_partOfSixteenths_23 rfl ?_
            obtain ⟨v0_24, ev0_24, h⟩ := nm_i h
            refine q_istore_n cx (pc' := 25) rfl ev0_24 (by decide) (L' := [(0, .int v0_24), (1, .int p1), (2, .int w2_5), (3, .int w3_5)]) rfl dX8_partOfSixteenths_24 rfl ?_
            refine q_iload_n cx (pc' := 26) 2 rfl dX8_partOfSixteenths_25 rfl ?_
            refine q_iconst cx (pc' := 27) ki_2 dX8_partOfSixteenths_26 rfl ?_
            refine q_idiv cx (pc' := 28) (by decide) dX8_partOfSixteenths_27 rfl ?_
            obtain ⟨v2_28, ev2_28, h⟩ := nm_i h
            refine q_istore_n cx (pc' := 29) rfl ev2_28 (by decide) (L' := [(2, .int v2_28), (0, .int v0_24), (1, .int p1), (3, .int w3_5)]) rfl dX8_partOfSixteenths_28 rfl ?_
            obtain ⟨v3_29, ev3_29, h⟩ := nm_i h
            refine q_iinc cx (pc' := 32) 3 rfl ki_1 ev3_29 (by decide) (L' := [(3, .int v3_29), (2, .int v2_28), (0, .int v0_24), (1, .int p1)]) rfl dX8_partOfSixteenths_29 rfl ?_
            refine q_goto cx dX8_partOfSixteenths_32 (tgt := 5) (by decide) ?_
            refine q_sub cx [2, 3, 1, 0] rfl ?_
            exact ih _ _ _ (hz5.1 _ h)
  refine q_sub cx [2, 3, 1, 0] rfl ?_
  exact key5 FU _ _ _ hL5

abbrev rm_X8_odds : Room := { frames := 5, cells := 0, slots := 0, locals := 149 }
def lp_X8_odds_31 (ths : Nat) (r10 : Nat) (w4_31 : Int32) (w5_31 : Int32) (Mw_31 : QM) : Option ((Int32 × Int32 × QM) ⊕ (Int32 × QM)) :=
  if 16 ≤ w5_31 then
    some (.inr (w4_31, Mw_31))
  else
    gR Mw_31 ths 8 7 fun r39 =>
    gR Mw_31 ths 8 0 fun r43 =>
    gR Mw_31 r43 5 0 fun r46 =>
    ck Mw_31 r39 2 <|
    bnd (fn_X2_become Mw_31 r39 r46) fun M49 =>
    gR M49 ths 8 7 fun r53 =>
    gR M49 ths 8 0 fun r59 =>
    gR M49 r59 5 7 fun r62 =>
    gI M49 r62 1 2 fun x65 =>
    ck M49 r53 2 <|
    bnd (fn_X2_pour M49 r53 w5_31 x65) fun M68 =>
    gR M68 ths 8 7 fun r73 =>
    gR M68 ths 8 0 fun r77 =>
    gR M68 r77 5 7 fun r80 =>
    gI M68 r80 1 1 fun x83 =>
    ck M68 r10 7 <|
    bnd (fn_X7_crossing M68 r10 r73 x83) fun c86 =>
    if c86 < 0 then
      nm (w5_31 + 1) fun v5_95 =>
      some (.inl (w4_31, v5_95, M68))
    else
      nm (w4_31 + 1) fun v4_92 =>
      nm (w5_31 + 1) fun v5_95 =>
      some (.inl (v4_92, v5_95, M68))
def fn_X8_odds (M : QM) (ths : Nat) (p1 : Int32) (p2 : Int32) : Option (Int64 × QM) :=
  gR M ths 8 0 fun r1 =>
  ck M r1 5 <|
  bnd (fn_X5_walkerAt M r1 p1) fun c5 =>
  cnul c5 (
    some ((-9223372036854775808), M)) fun r10 =>
  if (fn_X8_isBelow p2 2) = 0 then
    some ((-9223372036854775808), M)
  else
    bnd (itr (fun s31 : Int32 × Int32 × QM => lp_X8_odds_31 ths r10 s31.1 s31.2.1 s31.2.2) FU (0, 0, M)) fun r31 =>
    pr2 r31 fun e4_31 Me_31 =>
    bnd (fn_X8_partOfSixteenths e4_31 p2) fun c104 =>
    some (c104, Me_31)
set_option maxRecDepth 100000 in
set_option maxHeartbeats 4000000 in
theorem ct_X8_odds (Γ : GT) (l : Launch) (M : QM) (ths : Nat) (p1 : Int32) (p2 : Int32) (ht0 : mt M ths = 8) (z : Int64) (M' : QM) (h : fn_X8_odds M ths p1 p2 = some (z, M')) : CT Γ l yX8_odds cX8_odds 6 (some .long) rm_X8_odds (.ref ths :: [.int p1, .int p2]) M (some (.long z)) M' := by
  refine ct_intro (own := RX8) (L := [(0, .ref ths), (1, .int p1), (2, .int p2)]) (by decide +kernel) rfl (Nat.le_of_ble_eq_true rfl) rfl ?_
  intro p e s m args below meth c Q hQ cx hnm
  unfold fn_X8_odds at h
  refine q_aload_n cx (pc' := 1) 0 rfl dX8_odds_0 rfl ?_
  obtain ⟨ht1, r1, ex1, h⟩ := gR_i h
  refine q_gR cx (pc' := 4) 8 0 fl_X8_12 rfl ht1 ex1 dX8_odds_1 rfl ?_
  refine q_iload_n cx (pc' := 5) 1 rfl dX8_odds_4 rfl ?_
  obtain ⟨hk5, h⟩ := ck_i h
  obtain ⟨c5, hc5, h⟩ := bnd_i h
  refine q_callV cx (pc' := 8) (S := []) (S1 := [va_rf c5]) (kc' := 0) (ks' := 0) 5 (ct_X5_walkerAt Γ l M r1 p1 hk5 _ hc5) lki_X5_walkerAt lkv_X5_walkerAt lkc_X8_85 hk5 (r := (RX5, TX5, 8)) ⟨rfl, by decide, rfl⟩ rfl rfl (Nat.le_of_ble_eq_true rfl) ⟨(Nat.le_of_ble_eq_true rfl), (Nat.le_of_ble_eq_true rfl)⟩ ⟨(Nat.le_of_ble_eq_true rfl), (Nat.le_of_ble_eq_true rfl)⟩ dX8_odds_5 rfl rfl rfl ?_
  refine q_astore_nO cx (pc' := 9) rfl rfl (by decide) (L' := [(3, va_rf c5), (0, .ref ths), (1, .int p1), (2, .int p2)]) rfl dX8_odds_8 rfl ?_
  refine q_aload_nO cx (pc' := 10) 0 rfl dX8_odds_9 rfl ?_
  rcases c5 with _ | r10
  · replace h := cnul_n h
    refine q_ifnull_null cx dX8_odds_10 (tgt := 21) (by decide) ?_
    refine q_ldc2 cx (pc' := 24) aw_99 dX8_odds_21 rfl ?_
    obtain ⟨rfl, rfl⟩ := o2_i h
    rw [hQ]
    exact q_lret cx dX8_odds_24
  · replace h := cnul_s h
    refine q_ifnull_ref cx (pc' := 13) dX8_odds_10 rfl ?_
    refine q_iload_n cx (pc' := 14) 3 rfl dX8_odds_13 rfl ?_
    refine q_iconst cx (pc' := 15) ki_2 dX8_odds_14 rfl ?_
    refine q_callS cx (pc' := 18) (S := []) (S1 := [.int (fn_X8_isBelow p2 2)]) (kc' := 0) (ks' := 0) (ct_X8_isBelow Γ l M p2 2) lki_X8_isBelow lkv_X8_isBelow lkc_X8_69 rfl rfl (Nat.le_of_ble_eq_true rfl) ⟨(Nat.le_of_ble_eq_true rfl), (Nat.le_of_ble_eq_true rfl)⟩ ⟨(Nat.le_of_ble_eq_true rfl), (Nat.le_of_ble_eq_true rfl)⟩ dX8_odds_15 rfl rfl rfl ?_
    refine q_if_ne cx (pc' := 21) (tgt := 25) dX8_odds_18 (by decide) rfl (fun c18 => ?_) (fun c18 => ?_)
    · replace h := ine c18 h
      refine q_iconst cx (pc' := 26) ki_0 dX8_odds_25 rfl ?_
      refine q_istore cx (pc' := 28) rfl (by decide) (L' := [(4, .int 0), (3, .ref r10), (0, .ref ths), (1, .int p1), (2, .int p2)]) rfl dX8_odds_26 rfl ?_
      refine q_iconst cx (pc' := 29) ki_0 dX8_odds_28 rfl ?_
      refine q_istore cx (pc' := 31) rfl (by decide) (L' := [(5, .int 0), (4, .int 0), (3, .ref r10), (0, .ref ths), (1, .int p1), (2, .int p2)]) rfl dX8_odds_29 rfl ?_
      obtain ⟨r31, hL31, h⟩ := bnd_i h
      have hk31_0 : ∀ (e4_31 : Int32) (Me_31 : QM), (e4_31, Me_31) = r31 → EE p l e rm_X8_odds s m args below meth c Q Γ 6 0 0 101 [(2, .int p2), (4, .int e4_31)] [] Me_31 := by
        intro e4_31 Me_31 hp
        subst hp
        replace h := pr2_i h
        refine q_iload cx (pc' := 103) 1 rfl dX8_odds_101 rfl ?_
        refine q_iload_n cx (pc' := 104) 0 rfl dX8_odds_103 rfl ?_
        obtain ⟨c104, hc104, h⟩ := bnd_i h
        refine q_callS cx (pc' := 107) (S := []) (S1 := [.long c104]) (kc' := 0) (ks' := 0) (ct_X8_partOfSixteenths Γ l Me_31 e4_31 p2 _ hc104) lki_X8_partOfSixteenths lkv_X8_partOfSixteenths lkc_X8_252 rfl rfl (Nat.le_of_ble_eq_true rfl) ⟨(Nat.le_of_ble_eq_true rfl), (Nat.le_of_ble_eq_true rfl)⟩ ⟨(Nat.le_of_ble_eq_true rfl), (Nat.le_of_ble_eq_true rfl)⟩ dX8_odds_104 rfl rfl rfl ?_
        obtain ⟨rfl, rfl⟩ := o2_i h
        rw [hQ]
        exact q_lret cx dX8_odds_107
      have key31 : ∀ (n : Nat) (w4_31 : Int32) (w5_31 : Int32) (Mw_31 : QM), itr (fun s31 : Int32 × Int32 × QM => lp_X8_odds_31 ths r10 s31.1 s31.2.1 s31.2.2) n (w4_31, w5_31, Mw_31) = some r31 → EE p l e rm_X8_odds s m args below meth c Q Γ 6 0 0 31 [(0, .ref ths), (2, .int p2), (3, .ref r10), (4, .int w4_31), (5, .int w5_31)] [] Mw_31 := by
        intro n
        induction n with
        | zero => intro _ _ _ h; exact (itr_0 h).elim
        | succ n ih =>
          intro w4_31 w5_31 Mw_31 h
          obtain ⟨z31, h, hz31⟩ := itr_i h
          replace h : lp_X8_odds_31 ths r10 w4_31 w5_31 Mw_31 = some z31 := h
          unfold lp_X8_odds_31 at h
          refine q_iload cx (pc' := 33) 4 rfl dX8_odds_31 rfl ?_
          refine q_bipush cx (pc' := 35) kb_16 dX8_odds_33 rfl ?_
          refine q_icmp_ge cx (pc' := 38) (tgt := 101) dX8_odds_35 (by decide) rfl (fun c35 => ?_) (fun c35 => ?_)
          · replace h := ip c35 h
            refine q_sub cx [1, 3] rfl ?_
            exact hk31_0 _ _ (hz31.2 _ h)
          · replace h := ine c35 h
            refine q_aload_n cx (pc' := 39) 0 rfl dX8_odds_38 rfl ?_
            obtain ⟨ht39, r39, ex39, h⟩ := gR_i h
            refine q_gR cx (pc' := 42) 8 7 fl_X8_44 rfl ht39 ex39 dX8_odds_39 rfl ?_
            refine q_aload_n cx (pc' := 43) 0 rfl dX8_odds_42 rfl ?_
            obtain ⟨ht43, r43, ex43, h⟩ := gR_i h
            refine q_gR cx (pc' := 46) 8 0 fl_X8_12 rfl ht43 ex43 dX8_odds_43 rfl ?_
            obtain ⟨ht46, r46, ex46, h⟩ := gR_i h
            refine q_gR cx (pc' := 49) 5 0 fl_X8_98 rfl ht46 ex46 dX8_odds_46 rfl ?_
            obtain ⟨hk49, h⟩ := ck_i h
            obtain ⟨M49, hc49, h⟩ := bnd_i h
            refine q_callV cx (pc' := 52) (S := []) (S1 := []) (kc' := 0) (ks' := 0) 2 (ct_X2_become Γ l Mw_31 r39 r46 hk49 _ hc49) lki_X2_become lkv_X2_become lkc_X8_190 hk49 (r := (RX2, TX2, 2)) ⟨rfl, by decide, rfl⟩ rfl rfl (Nat.le_of_ble_eq_true rfl) ⟨(Nat.le_of_ble_eq_true rfl), (Nat.le_of_ble_eq_true rfl)⟩ ⟨(Nat.le_of_ble_eq_true rfl), (Nat.le_of_ble_eq_true rfl)⟩ dX8_odds_49 rfl rfl rfl ?_
            refine q_aload_n cx (pc' := 53) 0 rfl dX8_odds_52 rfl ?_
            obtain ⟨ht53, r53, ex53, h⟩ := gR_i h
            refine q_gR cx (pc' := 56) 8 7 fl_X8_44 rfl ht53 ex53 dX8_odds_53 rfl ?_
            refine q_iload cx (pc' := 58) 4 rfl dX8_odds_56 rfl ?_
            refine q_aload_n cx (pc' := 59) 0 rfl dX8_odds_58 rfl ?_
            obtain ⟨ht59, r59, ex59, h⟩ := gR_i h
            refine q_gR cx (pc' := 62) 8 0 fl_X8_12 rfl ht59 ex59 dX8_odds_59 rfl ?_
            obtain ⟨ht62, r62, ex62, h⟩ := gR_i h
            refine q_gR cx (pc' := 65) 5 7 fl_X8_64 rfl ht62 ex62 dX8_odds_62 rfl ?_
            obtain ⟨ht65, x65, ex65, h⟩ := gI_i h
            refine q_gI cx (pc' := 68) 1 2 fl_X8_132 rfl ht65 ex65 dX8_odds_65 rfl ?_
            obtain ⟨hk68, h⟩ := ck_i h
            obtain ⟨M68, hc68, h⟩ := bnd_i h
            refine q_callV cx (pc' := 71) (S := []) (S1 := []) (kc' := 0) (ks' := 0) 2 (ct_X2_pour Γ l M49 r53 w5_31 x65 hk68 _ hc68) lki_X2_pour lkv_X2_pour lkc_X8_135 hk68 (r := (RX2, TX2, 2)) ⟨rfl, by decide, rfl⟩ rfl rfl (Nat.le_of_ble_eq_true rfl) ⟨(Nat.le_of_ble_eq_true rfl), (Nat.le_of_ble_eq_true rfl)⟩ ⟨(Nat.le_of_ble_eq_true rfl), (Nat.le_of_ble_eq_true rfl)⟩ dX8_odds_68 rfl rfl rfl ?_
            refine q_aload_n cx (pc' := 72) 2 rfl dX8_odds_71 rfl ?_
            refine q_aload_n cx (pc' := 73) 0 rfl dX8_odds_72 rfl ?_
            obtain ⟨ht73, r73, ex73, h⟩ := gR_i h
            refine q_gR cx (pc' := 76) 8 7 fl_X8_44 rfl ht73 ex73 dX8_odds_73 rfl ?_
            refine q_aload_n cx (pc' := 77) 0 rfl dX8_odds_76 rfl ?_
            obtain ⟨ht77, r77, ex77, h⟩ := gR_i h
            refine q_gR cx (pc' := 80) 8 0 fl_X8_12 rfl ht77 ex77 dX8_odds_77 rfl ?_
            obtain ⟨ht80, r80, ex80, h⟩ := gR_i h
            refine q_gR cx (pc' := 83) 5 7 fl_X8_64 rfl ht80 ex80 dX8_odds_80 rfl ?_
            obtain ⟨ht83, x83, ex83, h⟩ := gI_i h
            refine q_gI cx (pc' := 86) 1 1 fl_X8_101 rfl ht83 ex83 dX8_odds_83 rfl ?_
            obtain ⟨hk86, h⟩ := ck_i h
            obtain ⟨c86, hc86, h⟩ := bnd_i h
            refine q_callV cx (pc' := 89) (S := []) (S1 := [.int c86]) (kc' := 0) (ks' := 0) 7 (ct_X7_crossing Γ l M68 r10 r73 x83 hk86 _ hc86) lki_X7_crossing lkv_X7_crossing lkc_X8_104 hk86 (r := (RX7, TX7, 4)) ⟨rfl, by decide, rfl⟩ rfl rfl (Nat.le_of_ble_eq_true rfl) ⟨(Nat.le_of_ble_eq_true rfl), (Nat.le_of_ble_eq_true rfl)⟩ ⟨(Nat.le_of_ble_eq_true rfl), (Nat.le_of_ble_eq_true rfl)⟩ dX8_odds_86 rfl rfl rfl ?_
            refine q_if_lt cx (pc' := 92) (tgt := 95) dX8_odds_89 (by decide) rfl (fun c89 => ?_) (fun c89 => ?_)
            · replace h := ip c89 h
              obtain ⟨v5_95, ev5_95, h⟩ := nm_i h
              refine q_iinc cx (pc' := 98) 4 rfl ki_1 ev5_95 (by decide) (L' := [(5, .int v5_95), (0, .ref ths), (2, .int p2), (3, .ref r10), (4, .int w4_31)]) rfl dX8_odds_95 rfl ?_
              refine q_goto cx dX8_odds_98 (tgt := 31) (by decide) ?_
              refine q_sub cx [1, 2, 3, 4, 0] rfl ?_
              exact ih _ _ _ (hz31.1 _ h)
            · replace h := ine c89 h
              obtain ⟨v4_92, ev4_92, h⟩ := nm_i h
              refine q_iinc cx (pc' := 95) 3 rfl ki_1 ev4_92 (by decide) (L' := [(4, .int v4_92), (0, .ref ths), (2, .int p2), (3, .ref r10), (5, .int w5_31)]) rfl dX8_odds_92 rfl ?_
              obtain ⟨v5_95, ev5_95, h⟩ := nm_i h
              refine q_iinc cx (pc' := 98) 4 rfl ki_1 ev5_95 (by decide) (L' := [(5, .int v5_95), (4, .int v4_92), (0, .ref ths), (2, .int p2), (3, .ref r10)]) rfl dX8_odds_95 rfl ?_
              refine q_goto cx dX8_odds_98 (tgt := 31) (by decide) ?_
              refine q_sub cx [2, 3, 4, 1, 0] rfl ?_
              exact ih _ _ _ (hz31.1 _ h)
      refine q_sub cx [3, 5, 2, 1, 0] rfl ?_
      exact key31 FU _ _ _ hL31
    · replace h := ip c18 h
      refine q_ldc2 cx (pc' := 24) aw_99 dX8_odds_21 rfl ?_
      obtain ⟨rfl, rfl⟩ := o2_i h
      rw [hQ]
      exact q_lret cx dX8_odds_24

abbrev rm_X8_mean : Room := { frames := 5, cells := 0, slots := 0, locals := 148 }
def fn_X8_mean (M : QM) (ths : Nat) (p1 : Int32) (p2 : Int32) : Option (Int64 × QM) :=
  if (fn_X8_isUpTo p1 60) = 0 then
    some ((-9223372036854775808), M)
  else
    if (fn_X8_isBelow p2 2) = 0 then
      some ((-9223372036854775808), M)
    else
      bnd (fn_X8_askBehind M ths p1) fun M23 =>
      gR M23 ths 8 7 fun r27 =>
      ck M23 r27 2 <|
      bnd (fn_X2_together M23 r27) fun c30 =>
      bnd (fn_X8_partOfSixteenths c30 p2) fun c34 =>
      some (c34, M23)
set_option maxRecDepth 100000 in
set_option maxHeartbeats 4000000 in
theorem ct_X8_mean (Γ : GT) (l : Launch) (M : QM) (ths : Nat) (p1 : Int32) (p2 : Int32) (ht0 : mt M ths = 8) (z : Int64) (M' : QM) (h : fn_X8_mean M ths p1 p2 = some (z, M')) : CT Γ l yX8_mean cX8_mean 3 (some .long) rm_X8_mean (.ref ths :: [.int p1, .int p2]) M (some (.long z)) M' := by
  refine ct_intro (own := RX8) (L := [(0, .ref ths), (1, .int p1), (2, .int p2)]) (by decide +kernel) rfl (Nat.le_of_ble_eq_true rfl) rfl ?_
  intro p e s m args below meth c Q hQ cx hnm
  unfold fn_X8_mean at h
  refine q_iload_n cx (pc' := 1) 1 rfl dX8_mean_0 rfl ?_
  refine q_bipush cx (pc' := 3) kb_60 dX8_mean_1 rfl ?_
  refine q_callS cx (pc' := 6) (S := []) (S1 := [.int (fn_X8_isUpTo p1 60)]) (kc' := 0) (ks' := 0) (ct_X8_isUpTo Γ l M p1 60) lki_X8_isUpTo lkv_X8_isUpTo lkc_X8_179 rfl rfl (Nat.le_of_ble_eq_true rfl) ⟨(Nat.le_of_ble_eq_true rfl), (Nat.le_of_ble_eq_true rfl)⟩ ⟨(Nat.le_of_ble_eq_true rfl), (Nat.le_of_ble_eq_true rfl)⟩ dX8_mean_3 rfl rfl rfl ?_
  refine q_if_eq cx (pc' := 9) (tgt := 17) dX8_mean_6 (by decide) rfl (fun c6 => ?_) (fun c6 => ?_)
  · replace h := ip c6 h
    refine q_ldc2 cx (pc' := 20) aw_99 dX8_mean_17 rfl ?_
    obtain ⟨rfl, rfl⟩ := o2_i h
    rw [hQ]
    exact q_lret cx dX8_mean_20
  · replace h := ine c6 h
    refine q_iload_n cx (pc' := 10) 2 rfl dX8_mean_9 rfl ?_
    refine q_iconst cx (pc' := 11) ki_2 dX8_mean_10 rfl ?_
    refine q_callS cx (pc' := 14) (S := []) (S1 := [.int (fn_X8_isBelow p2 2)]) (kc' := 0) (ks' := 0) (ct_X8_isBelow Γ l M p2 2) lki_X8_isBelow lkv_X8_isBelow lkc_X8_69 rfl rfl (Nat.le_of_ble_eq_true rfl) ⟨(Nat.le_of_ble_eq_true rfl), (Nat.le_of_ble_eq_true rfl)⟩ ⟨(Nat.le_of_ble_eq_true rfl), (Nat.le_of_ble_eq_true rfl)⟩ dX8_mean_11 rfl rfl rfl ?_
    refine q_if_ne cx (pc' := 17) (tgt := 21) dX8_mean_14 (by decide) rfl (fun c14 => ?_) (fun c14 => ?_)
    · replace h := ine c14 h
      refine q_aload_n cx (pc' := 22) 0 rfl dX8_mean_21 rfl ?_
      refine q_iload_n cx (pc' := 23) 1 rfl dX8_mean_22 rfl ?_
      obtain ⟨M23, hc23, h⟩ := bnd_i h
      refine q_callV cx (pc' := 26) (S := []) (S1 := []) (kc' := 0) (ks' := 0) 8 (ct_X8_askBehind Γ l M ths p1 ht0 _ hc23) lki_X8_askBehind lkv_X8_askBehind lkc_X8_186 ht0 (r := (RX8, TX8, 10)) ⟨rfl, by decide, rfl⟩ rfl rfl (Nat.le_of_ble_eq_true rfl) ⟨(Nat.le_of_ble_eq_true rfl), (Nat.le_of_ble_eq_true rfl)⟩ ⟨(Nat.le_of_ble_eq_true rfl), (Nat.le_of_ble_eq_true rfl)⟩ dX8_mean_23 rfl rfl rfl ?_
      refine q_aload_n cx (pc' := 27) 0 rfl dX8_mean_26 rfl ?_
      obtain ⟨ht27, r27, ex27, h⟩ := gR_i h
      refine q_gR cx (pc' := 30) 8 7 fl_X8_44 rfl ht27 ex27 dX8_mean_27 rfl ?_
      obtain ⟨hk30, h⟩ := ck_i h
      obtain ⟨c30, hc30, h⟩ := bnd_i h
      refine q_callV cx (pc' := 33) (S := []) (S1 := [.int c30]) (kc' := 0) (ks' := 0) 2 (ct_X2_together Γ l M23 r27 hk30 _ hc30) lki_X2_together lkv_X2_together lkc_X8_172 hk30 (r := (RX2, TX2, 2)) ⟨rfl, by decide, rfl⟩ rfl rfl (Nat.le_of_ble_eq_true rfl) ⟨(Nat.le_of_ble_eq_true rfl), (Nat.le_of_ble_eq_true rfl)⟩ ⟨(Nat.le_of_ble_eq_true rfl), (Nat.le_of_ble_eq_true rfl)⟩ dX8_mean_30 rfl rfl rfl ?_
      refine q_iload_n cx (pc' := 34) 2 rfl dX8_mean_33 rfl ?_
      obtain ⟨c34, hc34, h⟩ := bnd_i h
      refine q_callS cx (pc' := 37) (S := []) (S1 := [.long c34]) (kc' := 0) (ks' := 0) (ct_X8_partOfSixteenths Γ l M23 c30 p2 _ hc34) lki_X8_partOfSixteenths lkv_X8_partOfSixteenths lkc_X8_252 rfl rfl (Nat.le_of_ble_eq_true rfl) ⟨(Nat.le_of_ble_eq_true rfl), (Nat.le_of_ble_eq_true rfl)⟩ ⟨(Nat.le_of_ble_eq_true rfl), (Nat.le_of_ble_eq_true rfl)⟩ dX8_mean_34 rfl rfl rfl ?_
      obtain ⟨rfl, rfl⟩ := o2_i h
      rw [hQ]
      exact q_lret cx dX8_mean_37
    · replace h := ip c14 h
      refine q_ldc2 cx (pc' := 20) aw_99 dX8_mean_17 rfl ?_
      obtain ⟨rfl, rfl⟩ := o2_i h
      rw [hQ]
      exact q_lret cx dX8_mean_20

abbrev rm_X8_afternoon : Room := { frames := 2, cells := 0, slots := 0, locals := 63 }
def jn_X8_afternoon_39 (ths : Nat) (p1 : Int32) (p2 : Int32) (Mj_39 : QM) : Option (Int32 × QM) :=
  gR Mj_39 ths 8 0 fun r40 =>
  gR Mj_39 r40 5 5 fun r43 =>
  ck Mj_39 r43 4 <|
  bnd (fn_X4_append Mj_39 r43 p1 p2 0) fun y49 =>
  pr2 y49 fun c49 M49 =>
  some (c49, M49)
def fn_X8_afternoon (M : QM) (ths : Nat) (p1 : Int32) (p2 : Int32) : Option (Int32 × QM) :=
  if p1 = (-1) then
    gR M ths 8 0 fun r6 =>
    gR M r6 5 5 fun r9 =>
    ck M r9 4 <|
    bnd (fn_X4_empty M r9) fun y12 =>
    pr2 y12 fun c12 M12 =>
    some (c12, M12)
  else
    if (fn_X8_isBelow p1 3) = 0 then
      some ((-1), M)
    else
      if p1 = 0 then
        jn_X8_afternoon_39 ths p1 p2 M
      else
        if (fn_X8_isBelow p2 16) = 0 then
          some ((-1), M)
        else
          jn_X8_afternoon_39 ths p1 p2 M
set_option maxRecDepth 100000 in
set_option maxHeartbeats 4000000 in
theorem ct_X8_afternoon (Γ : GT) (l : Launch) (M : QM) (ths : Nat) (p1 : Int32) (p2 : Int32) (ht0 : mt M ths = 8) (z : Int32) (M' : QM) (h : fn_X8_afternoon M ths p1 p2 = some (z, M')) : CT Γ l yX8_afternoon cX8_afternoon 3 (some .int) rm_X8_afternoon (.ref ths :: [.int p1, .int p2]) M (some (.int z)) M' := by
  refine ct_intro (own := RX8) (L := [(0, .ref ths), (1, .int p1), (2, .int p2)]) (by decide +kernel) rfl (Nat.le_of_ble_eq_true rfl) rfl ?_
  intro p e s m args below meth c Q hQ cx hnm
  unfold fn_X8_afternoon at h
  have hj39 : ∀ (Mj_39 : QM), jn_X8_afternoon_39 ths p1 p2 Mj_39 = some (z, M') → EE p l e rm_X8_afternoon s m args below meth c Q Γ 3 0 0 39 [(0, .ref ths), (1, .int p1), (2, .int p2)] [] Mj_39 := by
    intro Mj_39 h
    unfold jn_X8_afternoon_39 at h
    refine q_aload_n cx (pc' := 40) 0 rfl dX8_afternoon_39 rfl ?_
    obtain ⟨ht40, r40, ex40, h⟩ := gR_i h
    refine q_gR cx (pc' := 43) 8 0 fl_X8_12 rfl ht40 ex40 dX8_afternoon_40 rfl ?_
    obtain ⟨ht43, r43, ex43, h⟩ := gR_i h
    refine q_gR cx (pc' := 46) 5 5 fl_X8_256 rfl ht43 ex43 dX8_afternoon_43 rfl ?_
    refine q_iload_n cx (pc' := 47) 1 rfl dX8_afternoon_46 rfl ?_
    refine q_iload_n cx (pc' := 48) 2 rfl dX8_afternoon_47 rfl ?_
    refine q_iconst cx (pc' := 49) ki_0 dX8_afternoon_48 rfl ?_
    obtain ⟨hk49, h⟩ := ck_i h
    obtain ⟨⟨c49, M49⟩, hc49, h⟩ := bnd_i h
    replace h := pr2_i h
    refine q_callV cx (pc' := 52) (S := []) (S1 := [.int c49]) (kc' := 0) (ks' := 0) 4 (ct_X4_append Γ l Mj_39 r43 p1 p2 0 hk49 _ _ hc49) lki_X4_append lkv_X4_append lkc_X8_230 hk49 (r := (RX4, TX4, 5)) ⟨rfl, by decide, rfl⟩ rfl rfl (Nat.le_of_ble_eq_true rfl) ⟨(Nat.le_of_ble_eq_true rfl), (Nat.le_of_ble_eq_true rfl)⟩ ⟨(Nat.le_of_ble_eq_true rfl), (Nat.le_of_ble_eq_true rfl)⟩ dX8_afternoon_49 rfl rfl rfl ?_
    obtain ⟨rfl, rfl⟩ := o2_i h
    rw [hQ]
    exact q_iret cx dX8_afternoon_52
  refine q_iload_n cx (pc' := 1) 1 rfl dX8_afternoon_0 rfl ?_
  refine q_iconst cx (pc' := 2) ki_m1 dX8_afternoon_1 rfl ?_
  refine q_icmp_ne cx (pc' := 5) (tgt := 16) dX8_afternoon_2 (by decide) rfl (fun c2 => ?_) (fun c2 => ?_)
  · replace h := ine c2 h
    refine q_iload_n cx (pc' := 17) 1 rfl dX8_afternoon_16 rfl ?_
    refine q_iconst cx (pc' := 18) ki_3 dX8_afternoon_17 rfl ?_
    refine q_callS cx (pc' := 21) (S := []) (S1 := [.int (fn_X8_isBelow p1 3)]) (kc' := 0) (ks' := 0) (ct_X8_isBelow Γ l M p1 3) lki_X8_isBelow lkv_X8_isBelow lkc_X8_69 rfl rfl (Nat.le_of_ble_eq_true rfl) ⟨(Nat.le_of_ble_eq_true rfl), (Nat.le_of_ble_eq_true rfl)⟩ ⟨(Nat.le_of_ble_eq_true rfl), (Nat.le_of_ble_eq_true rfl)⟩ dX8_afternoon_18 rfl rfl rfl ?_
    refine q_if_eq cx (pc' := 24) (tgt := 37) dX8_afternoon_21 (by decide) rfl (fun c21 => ?_) (fun c21 => ?_)
    · replace h := ip c21 h
      refine q_iconst cx (pc' := 38) ki_m1 dX8_afternoon_37 rfl ?_
      obtain ⟨rfl, rfl⟩ := o2_i h
      rw [hQ]
      exact q_iret cx dX8_afternoon_38
    · replace h := ine c21 h
      refine q_iload_n cx (pc' := 25) 1 rfl dX8_afternoon_24 rfl ?_
      refine q_if_eq cx (pc' := 28) (tgt := 39) dX8_afternoon_25 (by decide) rfl (fun c25 => ?_) (fun c25 => ?_)
      · replace h := ip c25 h
        refine q_sub cx [0, 1, 2] rfl ?_
        exact hj39 _ h
      · replace h := ine c25 h
        refine q_iload_n cx (pc' := 29) 2 rfl dX8_afternoon_28 rfl ?_
        refine q_bipush cx (pc' := 31) kb_16 dX8_afternoon_29 rfl ?_
        refine q_callS cx (pc' := 34) (S := []) (S1 := [.int (fn_X8_isBelow p2 16)]) (kc' := 0) (ks' := 0) (ct_X8_isBelow Γ l M p2 16) lki_X8_isBelow lkv_X8_isBelow lkc_X8_69 rfl rfl (Nat.le_of_ble_eq_true rfl) ⟨(Nat.le_of_ble_eq_true rfl), (Nat.le_of_ble_eq_true rfl)⟩ ⟨(Nat.le_of_ble_eq_true rfl), (Nat.le_of_ble_eq_true rfl)⟩ dX8_afternoon_31 rfl rfl rfl ?_
        refine q_if_ne cx (pc' := 37) (tgt := 39) dX8_afternoon_34 (by decide) rfl (fun c34 => ?_) (fun c34 => ?_)
        · replace h := ine c34 h
          refine q_sub cx [0, 1, 2] rfl ?_
          exact hj39 _ h
        · replace h := ip c34 h
          refine q_iconst cx (pc' := 38) ki_m1 dX8_afternoon_37 rfl ?_
          obtain ⟨rfl, rfl⟩ := o2_i h
          rw [hQ]
          exact q_iret cx dX8_afternoon_38
  · replace h := ip c2 h
    refine q_aload_n cx (pc' := 6) 0 rfl dX8_afternoon_5 rfl ?_
    obtain ⟨ht6, r6, ex6, h⟩ := gR_i h
    refine q_gR cx (pc' := 9) 8 0 fl_X8_12 rfl ht6 ex6 dX8_afternoon_6 rfl ?_
    obtain ⟨ht9, r9, ex9, h⟩ := gR_i h
    refine q_gR cx (pc' := 12) 5 5 fl_X8_256 rfl ht9 ex9 dX8_afternoon_9 rfl ?_
    obtain ⟨hk12, h⟩ := ck_i h
    obtain ⟨⟨c12, M12⟩, hc12, h⟩ := bnd_i h
    replace h := pr2_i h
    refine q_callV cx (pc' := 15) (S := []) (S1 := [.int c12]) (kc' := 0) (ks' := 0) 4 (ct_X4_empty Γ l M r9 hk12 _ _ hc12) lki_X4_empty lkv_X4_empty lkc_X8_225 hk12 (r := (RX4, TX4, 5)) ⟨rfl, by decide, rfl⟩ rfl rfl (Nat.le_of_ble_eq_true rfl) ⟨(Nat.le_of_ble_eq_true rfl), (Nat.le_of_ble_eq_true rfl)⟩ ⟨(Nat.le_of_ble_eq_true rfl), (Nat.le_of_ble_eq_true rfl)⟩ dX8_afternoon_12 rfl rfl rfl ?_
    obtain ⟨rfl, rfl⟩ := o2_i h
    rw [hQ]
    exact q_iret cx dX8_afternoon_15

abbrev rm_X8_ends : Room := { frames := 6, cells := 0, slots := 0, locals := 172 }
def lp_X8_ends_26 (ths : Nat) (w2_26 : Int32) (Mw_26 : QM) : Option ((Int32 × QM) ⊕ (QM)) :=
  gR Mw_26 ths 8 0 fun r28 =>
  gR Mw_26 r28 5 5 fun r31 =>
  gI Mw_26 r31 4 4 fun x34 =>
  if x34 ≤ w2_26 then
    some (.inr Mw_26)
  else
    gR Mw_26 ths 8 0 fun r41 =>
    gR Mw_26 r41 5 5 fun r44 =>
    gR Mw_26 r44 4 2 fun r47 =>
    aI Mw_26 20 r47 w2_26 fun x51 =>
    gR Mw_26 ths 8 0 fun r54 =>
    gR Mw_26 r54 5 5 fun r57 =>
    gR Mw_26 r57 4 1 fun r60 =>
    aI Mw_26 20 r60 w2_26 fun x64 =>
    if x64 = 0 then
      gR Mw_26 ths 8 7 fun r69 =>
      gR Mw_26 ths 8 0 fun r74 =>
      gR Mw_26 r74 5 7 fun r77 =>
      ck Mw_26 r69 2 <|
      bnd (fn_X2_ripen Mw_26 r69 1 r77) fun M80 =>
      nm (w2_26 + 1) fun v2_143 =>
      some (.inl (v2_143, M80))
    else
      gR Mw_26 ths 8 0 fun r87 =>
      gR Mw_26 r87 5 5 fun r90 =>
      gR Mw_26 r90 4 1 fun r93 =>
      aI Mw_26 20 r93 w2_26 fun x97 =>
      if x97 = 1 then
        gR Mw_26 ths 8 7 fun r103 =>
        gR Mw_26 ths 8 0 fun r108 =>
        gR Mw_26 r108 5 7 fun r111 =>
        gI Mw_26 r111 1 2 fun x114 =>
        ck Mw_26 r103 2 <|
        bnd (fn_X2_pour Mw_26 r103 x51 x114) fun M117 =>
        nm (w2_26 + 1) fun v2_143 =>
        some (.inl (v2_143, M117))
      else
        if ((1 <<< (x51 &&& 31)) &&& 34952) = 0 then
          gR Mw_26 ths 8 7 fun r133 =>
          ck Mw_26 r133 2 <|
          bnd (fn_X2_swap Mw_26 r133 x51 (x51 + 1)) fun M140 =>
          nm (w2_26 + 1) fun v2_143 =>
          some (.inl (v2_143, M140))
        else
          nm (w2_26 + 1) fun v2_143 =>
          some (.inl (v2_143, Mw_26))
def fn_X8_ends (M : QM) (ths : Nat) (p1 : Int32) : Option (Int32 × QM) :=
  if (fn_X8_isBelow p1 2) = 0 then
    some ((-1), M)
  else
    gR M ths 8 7 fun r11 =>
    gR M ths 8 0 fun r15 =>
    gR M r15 5 0 fun r18 =>
    ck M r11 2 <|
    bnd (fn_X2_become M r11 r18) fun M21 =>
    bnd (itr (fun s26 : Int32 × QM => lp_X8_ends_26 ths s26.1 s26.2) FU (0, M21)) fun Me_26 =>
    if p1 = 0 then
      gR Me_26 ths 8 0 fun r154 =>
      gR Me_26 ths 8 7 fun r158 =>
      ck Me_26 r154 5 <|
      bnd (fn_X5_crossers Me_26 r154 r158) fun c161 =>
      some (c161, Me_26)
    else
      gR Me_26 ths 8 7 fun r168 =>
      ck Me_26 r168 2 <|
      bnd (fn_X2_together Me_26 r168) fun c171 =>
      some (c171, Me_26)
set_option maxRecDepth 100000 in
set_option maxHeartbeats 4000000 in
theorem ct_X8_ends (Γ : GT) (l : Launch) (M : QM) (ths : Nat) (p1 : Int32) (ht0 : mt M ths = 8) (z : Int32) (M' : QM) (h : fn_X8_ends M ths p1 = some (z, M')) : CT Γ l yX8_ends cX8_ends 4 (some .int) rm_X8_ends (.ref ths :: [.int p1]) M (some (.int z)) M' := by
  refine ct_intro (own := RX8) (L := [(0, .ref ths), (1, .int p1)]) (by decide +kernel) rfl (Nat.le_of_ble_eq_true rfl) rfl ?_
  intro p e s m args below meth c Q hQ cx hnm
  unfold fn_X8_ends at h
  refine q_iload_n cx (pc' := 1) 1 rfl dX8_ends_0 rfl ?_
  refine q_iconst cx (pc' := 2) ki_2 dX8_ends_1 rfl ?_
  refine q_callS cx (pc' := 5) (S := []) (S1 := [.int (fn_X8_isBelow p1 2)]) (kc' := 0) (ks' := 0) (ct_X8_isBelow Γ l M p1 2) lki_X8_isBelow lkv_X8_isBelow lkc_X8_69 rfl rfl (Nat.le_of_ble_eq_true rfl) ⟨(Nat.le_of_ble_eq_true rfl), (Nat.le_of_ble_eq_true rfl)⟩ ⟨(Nat.le_of_ble_eq_true rfl), (Nat.le_of_ble_eq_true rfl)⟩ dX8_ends_2 rfl rfl rfl ?_
  refine q_if_ne cx (pc' := 8) (tgt := 10) dX8_ends_5 (by decide) rfl (fun c5 => ?_) (fun c5 => ?_)
  · replace h := ine c5 h
    refine q_aload_n cx (pc' := 11) 0 rfl dX8_ends_10 rfl ?_
    obtain ⟨ht11, r11, ex11, h⟩ := gR_i h
    refine q_gR cx (pc' := 14) 8 7 fl_X8_44 rfl ht11 ex11 dX8_ends_11 rfl ?_
    refine q_aload_n cx (pc' := 15) 0 rfl dX8_ends_14 rfl ?_
    obtain ⟨ht15, r15, ex15, h⟩ := gR_i h
    refine q_gR cx (pc' := 18) 8 0 fl_X8_12 rfl ht15 ex15 dX8_ends_15 rfl ?_
    obtain ⟨ht18, r18, ex18, h⟩ := gR_i h
    refine q_gR cx (pc' := 21) 5 0 fl_X8_98 rfl ht18 ex18 dX8_ends_18 rfl ?_
    obtain ⟨hk21, h⟩ := ck_i h
    obtain ⟨M21, hc21, h⟩ := bnd_i h
    refine q_callV cx (pc' := 24) (S := []) (S1 := []) (kc' := 0) (ks' := 0) 2 (ct_X2_become Γ l M r11 r18 hk21 _ hc21) lki_X2_become lkv_X2_become lkc_X8_190 hk21 (r := (RX2, TX2, 2)) ⟨rfl, by decide, rfl⟩ rfl rfl (Nat.le_of_ble_eq_true rfl) ⟨(Nat.le_of_ble_eq_true rfl), (Nat.le_of_ble_eq_true rfl)⟩ ⟨(Nat.le_of_ble_eq_true rfl), (Nat.le_of_ble_eq_true rfl)⟩ dX8_ends_21 rfl rfl rfl ?_
    refine q_iconst cx (pc' := 25) ki_0 dX8_ends_24 rfl ?_
    refine q_istore_n cx (pc' := 26) rfl rfl (by decide) (L' := [(2, .int 0), (0, .ref ths), (1, .int p1)]) rfl dX8_ends_25 rfl ?_
    obtain ⟨r26, hL26, h⟩ := bnd_i h
    have hk26_0 : ∀ (Me_26 : QM), Me_26 = r26 → EE p l e rm_X8_ends s m args below meth c Q Γ 4 0 0 149 [(0, .ref ths), (1, .int p1)] [] Me_26 := by
      intro Me_26 hp
      subst hp
      refine q_iload_n cx (pc' := 150) 1 rfl dX8_ends_149 rfl ?_
      refine q_if_ne cx (pc' := 153) (tgt := 167) dX8_ends_150 (by decide) rfl (fun c150 => ?_) (fun c150 => ?_)
      · replace h := ine c150 h
        refine q_aload_n cx (pc' := 168) 0 rfl dX8_ends_167 rfl ?_
        obtain ⟨ht168, r168, ex168, h⟩ := gR_i h
        refine q_gR cx (pc' := 171) 8 7 fl_X8_44 rfl ht168 ex168 dX8_ends_168 rfl ?_
        obtain ⟨hk171, h⟩ := ck_i h
        obtain ⟨c171, hc171, h⟩ := bnd_i h
        refine q_callV cx (pc' := 174) (S := []) (S1 := [.int c171]) (kc' := 0) (ks' := 0) 2 (ct_X2_together Γ l Me_26 r168 hk171 _ hc171) lki_X2_together lkv_X2_together lkc_X8_172 hk171 (r := (RX2, TX2, 2)) ⟨rfl, by decide, rfl⟩ rfl rfl (Nat.le_of_ble_eq_true rfl) ⟨(Nat.le_of_ble_eq_true rfl), (Nat.le_of_ble_eq_true rfl)⟩ ⟨(Nat.le_of_ble_eq_true rfl), (Nat.le_of_ble_eq_true rfl)⟩ dX8_ends_171 rfl rfl rfl ?_
        obtain ⟨rfl, rfl⟩ := o2_i h
        rw [hQ]
        exact q_iret cx dX8_ends_174
      · replace h := ip c150 h
        refine q_aload_n cx (pc' := 154) 0 rfl dX8_ends_153 rfl ?_
        obtain ⟨ht154, r154, ex154, h⟩ := gR_i h
        refine q_gR cx (pc' := 157) 8 0 fl_X8_12 rfl ht154 ex154 dX8_ends_154 rfl ?_
        refine q_aload_n cx (pc' := 158) 0 rfl dX8_ends_157 rfl ?_
        obtain ⟨ht158, r158, ex158, h⟩ := gR_i h
        refine q_gR cx (pc' := 161) 8 7 fl_X8_44 rfl ht158 ex158 dX8_ends_158 rfl ?_
        obtain ⟨hk161, h⟩ := ck_i h
        obtain ⟨c161, hc161, h⟩ := bnd_i h
        refine q_callV cx (pc' := 164) (S := []) (S1 := [.int c161]) (kc' := 0) (ks' := 0) 5 (ct_X5_crossers Γ l Me_26 r154 r158 hk161 _ hc161) lki_X5_crossers lkv_X5_crossers lkc_X8_168 hk161 (r := (RX5, TX5, 8)) ⟨rfl, by decide, rfl⟩ rfl rfl (Nat.le_of_ble_eq_true rfl) ⟨(Nat.le_of_ble_eq_true rfl), (Nat.le_of_ble_eq_true rfl)⟩ ⟨(Nat.le_of_ble_eq_true rfl), (Nat.le_of_ble_eq_true rfl)⟩ dX8_ends_161 rfl rfl rfl ?_
        refine q_goto cx dX8_ends_164 (tgt := 174) (by decide) ?_
        obtain ⟨rfl, rfl⟩ := o2_i h
        rw [hQ]
        exact q_iret cx dX8_ends_174
    have key26 : ∀ (n : Nat) (w2_26 : Int32) (Mw_26 : QM), itr (fun s26 : Int32 × QM => lp_X8_ends_26 ths s26.1 s26.2) n (w2_26, Mw_26) = some r26 → EE p l e rm_X8_ends s m args below meth c Q Γ 4 0 0 26 [(0, .ref ths), (1, .int p1), (2, .int w2_26)] [] Mw_26 := by
      intro n
      induction n with
      | zero => intro _ _ h; exact (itr_0 h).elim
      | succ n ih =>
        intro w2_26 Mw_26 h
        obtain ⟨z26, h, hz26⟩ := itr_i h
        replace h : lp_X8_ends_26 ths w2_26 Mw_26 = some z26 := h
        unfold lp_X8_ends_26 at h
        refine q_iload_n cx (pc' := 27) 2 rfl dX8_ends_26 rfl ?_
        refine q_aload_n cx (pc' := 28) 0 rfl dX8_ends_27 rfl ?_
        obtain ⟨ht28, r28, ex28, h⟩ := gR_i h
        refine q_gR cx (pc' := 31) 8 0 fl_X8_12 rfl ht28 ex28 dX8_ends_28 rfl ?_
        obtain ⟨ht31, r31, ex31, h⟩ := gR_i h
        refine q_gR cx (pc' := 34) 5 5 fl_X8_256 rfl ht31 ex31 dX8_ends_31 rfl ?_
        obtain ⟨ht34, x34, ex34, h⟩ := gI_i h
        refine q_gI cx (pc' := 37) 4 4 fl_X8_235 rfl ht34 ex34 dX8_ends_34 rfl ?_
        refine q_icmp_ge cx (pc' := 40) (tgt := 149) dX8_ends_37 (by decide) rfl (fun c37 => ?_) (fun c37 => ?_)
        · replace h := ip c37 h
          refine q_sub cx [0, 1] rfl ?_
          exact hk26_0 _ (hz26.2 _ h)
        · replace h := ine c37 h
          refine q_aload_n cx (pc' := 41) 0 rfl dX8_ends_40 rfl ?_
          obtain ⟨ht41, r41, ex41, h⟩ := gR_i h
          refine q_gR cx (pc' := 44) 8 0 fl_X8_12 rfl ht41 ex41 dX8_ends_41 rfl ?_
          obtain ⟨ht44, r44, ex44, h⟩ := gR_i h
          refine q_gR cx (pc' := 47) 5 5 fl_X8_256 rfl ht44 ex44 dX8_ends_44 rfl ?_
          obtain ⟨ht47, r47, ex47, h⟩ := gR_i h
          refine q_gR cx (pc' := 50) 4 2 fl_X8_238 rfl ht47 ex47 dX8_ends_47 rfl ?_
          refine q_iload_n cx (pc' := 51) 2 rfl dX8_ends_50 rfl ?_
          obtain ⟨ht51, hi51, x51, ex51, h⟩ := aI_i h
          refine q_iald cx (pc' := 52) ht51 hi51 ex51 dX8_ends_51 rfl ?_
          refine q_istore_n cx (pc' := 53) rfl rfl (by decide) (L' := [(3, .int x51), (0, .ref ths), (1, .int p1), (2, .int w2_26)]) rfl dX8_ends_52 rfl ?_
          refine q_aload_n cx (pc' := 54) 1 rfl dX8_ends_53 rfl ?_
          obtain ⟨ht54, r54, ex54, h⟩ := gR_i h
          refine q_gR cx (pc' := 57) 8 0 fl_X8_12 rfl ht54 ex54 dX8_ends_54 rfl ?_
          obtain ⟨ht57, r57, ex57, h⟩ := gR_i h
          refine q_gR cx (pc' := 60) 5 5 fl_X8_256 rfl ht57 ex57 dX8_ends_57 rfl ?_
          obtain ⟨ht60, r60, ex60, h⟩ := gR_i h
          refine q_gR cx (pc' := 63) 4 1 fl_X8_259 rfl ht60 ex60 dX8_ends_60 rfl ?_
          refine q_iload_n cx (pc' := 64) 3 rfl dX8_ends_63 rfl ?_
          obtain ⟨ht64, hi64, x64, ex64, h⟩ := aI_i h
          refine q_iald cx (pc' := 65) ht64 hi64 ex64 dX8_ends_64 rfl ?_
          refine q_if_ne cx (pc' := 68) (tgt := 86) dX8_ends_65 (by decide) rfl (fun c65 => ?_) (fun c65 => ?_)
          · replace h := ine c65 h
            refine q_aload_n cx (pc' := 87) 1 rfl dX8_ends_86 rfl ?_
            obtain ⟨ht87, r87, ex87, h⟩ := gR_i h
            refine q_gR cx (pc' := 90) 8 0 fl_X8_12 rfl ht87 ex87 dX8_ends_87 rfl ?_
            obtain ⟨ht90, r90, ex90, h⟩ := gR_i h
            refine q_gR cx (pc' := 93) 5 5 fl_X8_256 rfl ht90 ex90 dX8_ends_90 rfl ?_
            obtain ⟨ht93, r93, ex93, h⟩ := gR_i h
            refine q_gR cx (pc' := 96) 4 1 fl_X8_259 rfl ht93 ex93 dX8_ends_93 rfl ?_
            refine q_iload_n cx (pc' := 97) 3 rfl dX8_ends_96 rfl ?_
            obtain ⟨ht97, hi97, x97, ex97, h⟩ := aI_i h
            refine q_iald cx (pc' := 98) ht97 hi97 ex97 dX8_ends_97 rfl ?_
            refine q_iconst cx (pc' := 99) ki_1 dX8_ends_98 rfl ?_
            refine q_icmp_ne cx (pc' := 102) (tgt := 123) dX8_ends_99 (by decide) rfl (fun c99 => ?_) (fun c99 => ?_)
            · replace h := ine c99 h
              refine q_iconst cx (pc' := 124) ki_1 dX8_ends_123 rfl ?_
              refine q_iload_n cx (pc' := 125) 0 rfl dX8_ends_124 rfl ?_
              refine q_ishl cx (pc' := 126) dX8_ends_125 rfl ?_
              refine q_ldc cx (pc' := 128) aw_94 dX8_ends_126 rfl ?_
              refine q_iand cx (pc' := 129) dX8_ends_128 rfl ?_
              refine q_if_ne cx (pc' := 132) (tgt := 143) dX8_ends_129 (by decide) rfl (fun c129 => ?_) (fun c129 => ?_)
              · replace h := ine c129 h
                obtain ⟨v2_143, ev2_143, h⟩ := nm_i h
                refine q_iinc cx (pc' := 146) 3 rfl ki_1 ev2_143 (by decide) (L' := [(2, .int v2_143), (3, .int x51), (0, .ref ths), (1, .int p1)]) rfl dX8_ends_143 rfl ?_
                refine q_goto cx dX8_ends_146 (tgt := 26) (by decide) ?_
                refine q_sub cx [2, 3, 0] rfl ?_
                exact ih _ _ (hz26.1 _ h)
              · replace h := ip c129 h
                refine q_aload_n cx (pc' := 133) 1 rfl dX8_ends_132 rfl ?_
                obtain ⟨ht133, r133, ex133, h⟩ := gR_i h
                refine q_gR cx (pc' := 136) 8 7 fl_X8_44 rfl ht133 ex133 dX8_ends_133 rfl ?_
                refine q_iload_n cx (pc' := 137) 0 rfl dX8_ends_136 rfl ?_
                refine q_iload_n cx (pc' := 138) 0 rfl dX8_ends_137 rfl ?_
                refine q_iconst cx (pc' := 139) ki_1 dX8_ends_138 rfl ?_
                refine q_iadd cx (pc' := 140) dX8_ends_139 rfl ?_
                obtain ⟨hk140, h⟩ := ck_i h
                obtain ⟨M140, hc140, h⟩ := bnd_i h
                refine q_callV cx (pc' := 143) (S := []) (S1 := []) (kc' := 0) (ks' := 0) 2 (ct_X2_swap Γ l Mw_26 r133 x51 (x51 + 1) hk140 _ hc140) lki_X2_swap lkv_X2_swap lkc_X8_142 hk140 (r := (RX2, TX2, 2)) ⟨rfl, by decide, rfl⟩ rfl rfl (Nat.le_of_ble_eq_true rfl) ⟨(Nat.le_of_ble_eq_true rfl), (Nat.le_of_ble_eq_true rfl)⟩ ⟨(Nat.le_of_ble_eq_true rfl), (Nat.le_of_ble_eq_true rfl)⟩ dX8_ends_140 rfl rfl rfl ?_
                obtain ⟨v2_143, ev2_143, h⟩ := nm_i h
                refine q_iinc cx (pc' := 146) 3 rfl ki_1 ev2_143 (by decide) (L' := [(2, .int v2_143), (3, .int x51), (0, .ref ths), (1, .int p1)]) rfl dX8_ends_143 rfl ?_
                refine q_goto cx dX8_ends_146 (tgt := 26) (by decide) ?_
                refine q_sub cx [2, 3, 0] rfl ?_
                exact ih _ _ (hz26.1 _ h)
            · replace h := ip c99 h
              refine q_aload_n cx (pc' := 103) 1 rfl dX8_ends_102 rfl ?_
              obtain ⟨ht103, r103, ex103, h⟩ := gR_i h
              refine q_gR cx (pc' := 106) 8 7 fl_X8_44 rfl ht103 ex103 dX8_ends_103 rfl ?_
              refine q_iload_n cx (pc' := 107) 0 rfl dX8_ends_106 rfl ?_
              refine q_aload_n cx (pc' := 108) 1 rfl dX8_ends_107 rfl ?_
              obtain ⟨ht108, r108, ex108, h⟩ := gR_i h
              refine q_gR cx (pc' := 111) 8 0 fl_X8_12 rfl ht108 ex108 dX8_ends_108 rfl ?_
              obtain ⟨ht111, r111, ex111, h⟩ := gR_i h
              refine q_gR cx (pc' := 114) 5 7 fl_X8_64 rfl ht111 ex111 dX8_ends_111 rfl ?_
              obtain ⟨ht114, x114, ex114, h⟩ := gI_i h
              refine q_gI cx (pc' := 117) 1 2 fl_X8_132 rfl ht114 ex114 dX8_ends_114 rfl ?_
              obtain ⟨hk117, h⟩ := ck_i h
              obtain ⟨M117, hc117, h⟩ := bnd_i h
              refine q_callV cx (pc' := 120) (S := []) (S1 := []) (kc' := 0) (ks' := 0) 2 (ct_X2_pour Γ l Mw_26 r103 x51 x114 hk117 _ hc117) lki_X2_pour lkv_X2_pour lkc_X8_135 hk117 (r := (RX2, TX2, 2)) ⟨rfl, by decide, rfl⟩ rfl rfl (Nat.le_of_ble_eq_true rfl) ⟨(Nat.le_of_ble_eq_true rfl), (Nat.le_of_ble_eq_true rfl)⟩ ⟨(Nat.le_of_ble_eq_true rfl), (Nat.le_of_ble_eq_true rfl)⟩ dX8_ends_117 rfl rfl rfl ?_
              refine q_goto cx dX8_ends_120 (tgt := 143) (by decide) ?_
              obtain ⟨v2_143, ev2_143, h⟩ := nm_i h
              refine q_iinc cx (pc' := 146) 3 rfl ki_1 ev2_143 (by decide) (L' := [(2, .int v2_143), (3, .int x51), (0, .ref ths), (1, .int p1)]) rfl dX8_ends_143 rfl ?_
              refine q_goto cx dX8_ends_146 (tgt := 26) (by decide) ?_
              refine q_sub cx [2, 3, 0] rfl ?_
              exact ih _ _ (hz26.1 _ h)
          · replace h := ip c65 h
            refine q_aload_n cx (pc' := 69) 1 rfl dX8_ends_68 rfl ?_
            obtain ⟨ht69, r69, ex69, h⟩ := gR_i h
            refine q_gR cx (pc' := 72) 8 7 fl_X8_44 rfl ht69 ex69 dX8_ends_69 rfl ?_
            refine q_iconst cx (pc' := 73) ki_1 dX8_ends_72 rfl ?_
            refine q_aload_n cx (pc' := 74) 1 rfl dX8_ends_73 rfl ?_
            obtain ⟨ht74, r74, ex74, h⟩ := gR_i h
            refine q_gR cx (pc' := 77) 8 0 fl_X8_12 rfl ht74 ex74 dX8_ends_74 rfl ?_
            obtain ⟨ht77, r77, ex77, h⟩ := gR_i h
            refine q_gR cx (pc' := 80) 5 7 fl_X8_64 rfl ht77 ex77 dX8_ends_77 rfl ?_
            obtain ⟨hk80, h⟩ := ck_i h
            obtain ⟨M80, hc80, h⟩ := bnd_i h
            refine q_callV cx (pc' := 83) (S := []) (S1 := []) (kc' := 0) (ks' := 0) 2 (ct_X2_ripen Γ l Mw_26 r69 1 r77 hk80 _ hc80) lki_X2_ripen lkv_X2_ripen lkc_X8_182 hk80 (r := (RX2, TX2, 2)) ⟨rfl, by decide, rfl⟩ rfl rfl (Nat.le_of_ble_eq_true rfl) ⟨(Nat.le_of_ble_eq_true rfl), (Nat.le_of_ble_eq_true rfl)⟩ ⟨(Nat.le_of_ble_eq_true rfl), (Nat.le_of_ble_eq_true rfl)⟩ dX8_ends_80 rfl rfl rfl ?_
            refine q_goto cx dX8_ends_83 (tgt := 143) (by decide) ?_
            obtain ⟨v2_143, ev2_143, h⟩ := nm_i h
            refine q_iinc cx (pc' := 146) 3 rfl ki_1 ev2_143 (by decide) (L' := [(2, .int v2_143), (3, .int x51), (0, .ref ths), (1, .int p1)]) rfl dX8_ends_143 rfl ?_
            refine q_goto cx dX8_ends_146 (tgt := 26) (by decide) ?_
            refine q_sub cx [2, 3, 0] rfl ?_
            exact ih _ _ (hz26.1 _ h)
    refine q_sub cx [1, 2, 0] rfl ?_
    exact key26 FU _ _ hL26
  · replace h := ip c5 h
    refine q_iconst cx (pc' := 9) ki_m1 dX8_ends_8 rfl ?_
    obtain ⟨rfl, rfl⟩ := o2_i h
    rw [hQ]
    exact q_iret cx dX8_ends_9

abbrev rm_X8_book : Room := { frames := 2, cells := 0, slots := 0, locals := 63 }
def fn_X8_book (M : QM) (ths : Nat) (p1 : Int32) (p2 : Int32) : Option (Int32 × QM) :=
  if p1 = (-1) then
    gR M ths 8 0 fun r6 =>
    gR M r6 5 6 fun r9 =>
    ck M r9 4 <|
    bnd (fn_X4_empty M r9) fun y12 =>
    pr2 y12 fun c12 M12 =>
    some (c12, M12)
  else
    if (fn_X8_isBelow p1 16) = 0 then
      some ((-1), M)
    else
      if (fn_X8_isBelow p2 100) = 0 then
        some ((-2), M)
      else
        gR M ths 8 0 fun r40 =>
        gR M r40 5 6 fun r43 =>
        ck M r43 4 <|
        bnd (fn_X4_append M r43 p1 p2 0) fun y49 =>
        pr2 y49 fun c49 M49 =>
        some (c49, M49)
set_option maxRecDepth 100000 in
set_option maxHeartbeats 4000000 in
theorem ct_X8_book (Γ : GT) (l : Launch) (M : QM) (ths : Nat) (p1 : Int32) (p2 : Int32) (ht0 : mt M ths = 8) (z : Int32) (M' : QM) (h : fn_X8_book M ths p1 p2 = some (z, M')) : CT Γ l yX8_book cX8_book 3 (some .int) rm_X8_book (.ref ths :: [.int p1, .int p2]) M (some (.int z)) M' := by
  refine ct_intro (own := RX8) (L := [(0, .ref ths), (1, .int p1), (2, .int p2)]) (by decide +kernel) rfl (Nat.le_of_ble_eq_true rfl) rfl ?_
  intro p e s m args below meth c Q hQ cx hnm
  unfold fn_X8_book at h
  refine q_iload_n cx (pc' := 1) 1 rfl dX8_book_0 rfl ?_
  refine q_iconst cx (pc' := 2) ki_m1 dX8_book_1 rfl ?_
  refine q_icmp_ne cx (pc' := 5) (tgt := 16) dX8_book_2 (by decide) rfl (fun c2 => ?_) (fun c2 => ?_)
  · replace h := ine c2 h
    refine q_iload_n cx (pc' := 17) 1 rfl dX8_book_16 rfl ?_
    refine q_bipush cx (pc' := 19) kb_16 dX8_book_17 rfl ?_
    refine q_callS cx (pc' := 22) (S := []) (S1 := [.int (fn_X8_isBelow p1 16)]) (kc' := 0) (ks' := 0) (ct_X8_isBelow Γ l M p1 16) lki_X8_isBelow lkv_X8_isBelow lkc_X8_69 rfl rfl (Nat.le_of_ble_eq_true rfl) ⟨(Nat.le_of_ble_eq_true rfl), (Nat.le_of_ble_eq_true rfl)⟩ ⟨(Nat.le_of_ble_eq_true rfl), (Nat.le_of_ble_eq_true rfl)⟩ dX8_book_19 rfl rfl rfl ?_
    refine q_if_ne cx (pc' := 25) (tgt := 27) dX8_book_22 (by decide) rfl (fun c22 => ?_) (fun c22 => ?_)
    · replace h := ine c22 h
      refine q_iload_n cx (pc' := 28) 2 rfl dX8_book_27 rfl ?_
      refine q_bipush cx (pc' := 30) kb_100 dX8_book_28 rfl ?_
      refine q_callS cx (pc' := 33) (S := []) (S1 := [.int (fn_X8_isBelow p2 100)]) (kc' := 0) (ks' := 0) (ct_X8_isBelow Γ l M p2 100) lki_X8_isBelow lkv_X8_isBelow lkc_X8_69 rfl rfl (Nat.le_of_ble_eq_true rfl) ⟨(Nat.le_of_ble_eq_true rfl), (Nat.le_of_ble_eq_true rfl)⟩ ⟨(Nat.le_of_ble_eq_true rfl), (Nat.le_of_ble_eq_true rfl)⟩ dX8_book_30 rfl rfl rfl ?_
      refine q_if_ne cx (pc' := 36) (tgt := 39) dX8_book_33 (by decide) rfl (fun c33 => ?_) (fun c33 => ?_)
      · replace h := ine c33 h
        refine q_aload_n cx (pc' := 40) 0 rfl dX8_book_39 rfl ?_
        obtain ⟨ht40, r40, ex40, h⟩ := gR_i h
        refine q_gR cx (pc' := 43) 8 0 fl_X8_12 rfl ht40 ex40 dX8_book_40 rfl ?_
        obtain ⟨ht43, r43, ex43, h⟩ := gR_i h
        refine q_gR cx (pc' := 46) 5 6 fl_X8_262 rfl ht43 ex43 dX8_book_43 rfl ?_
        refine q_iload_n cx (pc' := 47) 1 rfl dX8_book_46 rfl ?_
        refine q_iload_n cx (pc' := 48) 2 rfl dX8_book_47 rfl ?_
        refine q_iconst cx (pc' := 49) ki_0 dX8_book_48 rfl ?_
        obtain ⟨hk49, h⟩ := ck_i h
        obtain ⟨⟨c49, M49⟩, hc49, h⟩ := bnd_i h
        replace h := pr2_i h
        refine q_callV cx (pc' := 52) (S := []) (S1 := [.int c49]) (kc' := 0) (ks' := 0) 4 (ct_X4_append Γ l M r43 p1 p2 0 hk49 _ _ hc49) lki_X4_append lkv_X4_append lkc_X8_230 hk49 (r := (RX4, TX4, 5)) ⟨rfl, by decide, rfl⟩ rfl rfl (Nat.le_of_ble_eq_true rfl) ⟨(Nat.le_of_ble_eq_true rfl), (Nat.le_of_ble_eq_true rfl)⟩ ⟨(Nat.le_of_ble_eq_true rfl), (Nat.le_of_ble_eq_true rfl)⟩ dX8_book_49 rfl rfl rfl ?_
        obtain ⟨rfl, rfl⟩ := o2_i h
        rw [hQ]
        exact q_iret cx dX8_book_52
      · replace h := ip c33 h
        refine q_bipush cx (pc' := 38) kb_m2 dX8_book_36 rfl ?_
        obtain ⟨rfl, rfl⟩ := o2_i h
        rw [hQ]
        exact q_iret cx dX8_book_38
    · replace h := ip c22 h
      refine q_iconst cx (pc' := 26) ki_m1 dX8_book_25 rfl ?_
      obtain ⟨rfl, rfl⟩ := o2_i h
      rw [hQ]
      exact q_iret cx dX8_book_26
  · replace h := ip c2 h
    refine q_aload_n cx (pc' := 6) 0 rfl dX8_book_5 rfl ?_
    obtain ⟨ht6, r6, ex6, h⟩ := gR_i h
    refine q_gR cx (pc' := 9) 8 0 fl_X8_12 rfl ht6 ex6 dX8_book_6 rfl ?_
    obtain ⟨ht9, r9, ex9, h⟩ := gR_i h
    refine q_gR cx (pc' := 12) 5 6 fl_X8_262 rfl ht9 ex9 dX8_book_9 rfl ?_
    obtain ⟨hk12, h⟩ := ck_i h
    obtain ⟨⟨c12, M12⟩, hc12, h⟩ := bnd_i h
    replace h := pr2_i h
    refine q_callV cx (pc' := 15) (S := []) (S1 := [.int c12]) (kc' := 0) (ks' := 0) 4 (ct_X4_empty Γ l M r9 hk12 _ _ hc12) lki_X4_empty lkv_X4_empty lkc_X8_225 hk12 (r := (RX4, TX4, 5)) ⟨rfl, by decide, rfl⟩ rfl rfl (Nat.le_of_ble_eq_true rfl) ⟨(Nat.le_of_ble_eq_true rfl), (Nat.le_of_ble_eq_true rfl)⟩ ⟨(Nat.le_of_ble_eq_true rfl), (Nat.le_of_ble_eq_true rfl)⟩ dX8_book_12 rfl rfl rfl ?_
    obtain ⟨rfl, rfl⟩ := o2_i h
    rw [hQ]
    exact q_iret cx dX8_book_15

abbrev rm_X8_looked : Room := { frames := 1, cells := 0, slots := 0, locals := 40 }
def lp_X8_looked_2 (M : QM) (ths : Nat) (w1_2 : Int32) : Option ((Int32) ⊕ (Int32)) :=
  gR M ths 8 0 fun r4 =>
  gR M r4 5 6 fun r7 =>
  gI M r7 4 4 fun x10 =>
  if x10 ≤ w1_2 then
    some (.inr (-5))
  else
    gR M ths 8 0 fun r17 =>
    gR M r17 5 0 fun r20 =>
    gR M r20 2 0 fun r23 =>
    gR M ths 8 0 fun r27 =>
    gR M r27 5 6 fun r30 =>
    gR M r30 4 1 fun r33 =>
    aI M 20 r33 w1_2 fun x37 =>
    aI M 20 r23 x37 fun x38 =>
    gR M ths 8 0 fun r40 =>
    gR M r40 5 6 fun r43 =>
    gR M r43 4 2 fun r46 =>
    aI M 20 r46 w1_2 fun x50 =>
    if x38 = x50 then
      nm (w1_2 + 1) fun v1_56 =>
      some (.inl v1_56)
    else
      some (.inr w1_2)
def fn_X8_looked (M : QM) (ths : Nat) : Option Int32 :=
  bnd (itr (fun s2 : Int32 => lp_X8_looked_2 M ths s2) FU 0) fun re_2 =>
  some re_2
set_option maxRecDepth 100000 in
set_option maxHeartbeats 4000000 in
theorem ct_X8_looked (Γ : GT) (l : Launch) (M : QM) (ths : Nat) (ht0 : mt M ths = 8) (z : Int32) (h : fn_X8_looked M ths = some z) : CT Γ l yX8_looked cX8_looked 2 (some .int) rm_X8_looked (.ref ths :: []) M (some (.int z)) M := by
  refine ct_intro (own := RX8) (L := [(0, .ref ths)]) (by decide +kernel) rfl (Nat.le_of_ble_eq_true rfl) rfl ?_
  intro p e s m args below meth c Q hQ cx hnm
  unfold fn_X8_looked at h
  refine q_iconst cx (pc' := 1) ki_0 dX8_looked_0 rfl ?_
  refine q_istore_n cx (pc' := 2) rfl rfl (by decide) (L' := [(1, .int 0), (0, .ref ths)]) rfl dX8_looked_1 rfl ?_
  obtain ⟨r2, hL2, h⟩ := bnd_i h
  have hk2_r : ∀ (re_2 : Int32), re_2 = r2 → some re_2 = some z := by
    intro re_2 hp
    subst hp
    exact h
  have key2 : ∀ (n : Nat) (w1_2 : Int32), itr (fun s2 : Int32 => lp_X8_looked_2 M ths s2) n w1_2 = some r2 → EE p l e rm_X8_looked s m args below meth c Q Γ 2 0 0 2 [(0, .ref ths), (1, .int w1_2)] [] M := by
    intro n
    induction n with
    | zero => intro _ h; exact (itr_0 h).elim
    | succ n ih =>
      intro w1_2 h
      obtain ⟨z2, h, hz2⟩ := itr_i h
      replace h : lp_X8_looked_2 M ths w1_2 = some z2 := h
      unfold lp_X8_looked_2 at h
      refine q_iload_n cx (pc' := 3) 1 rfl dX8_looked_2 rfl ?_
      refine q_aload_n cx (pc' := 4) 0 rfl dX8_looked_3 rfl ?_
      obtain ⟨ht4, r4, ex4, h⟩ := gR_i h
      refine q_gR cx (pc' := 7) 8 0 fl_X8_12 rfl ht4 ex4 dX8_looked_4 rfl ?_
      obtain ⟨ht7, r7, ex7, h⟩ := gR_i h
      refine q_gR cx (pc' := 10) 5 6 fl_X8_262 rfl ht7 ex7 dX8_looked_7 rfl ?_
      obtain ⟨ht10, x10, ex10, h⟩ := gI_i h
      refine q_gI cx (pc' := 13) 4 4 fl_X8_235 rfl ht10 ex10 dX8_looked_10 rfl ?_
      refine q_icmp_ge cx (pc' := 16) (tgt := 62) dX8_looked_13 (by decide) rfl (fun c13 => ?_) (fun c13 => ?_)
      · replace h := ip c13 h
        refine q_bipush cx (pc' := 64) kb_m5 dX8_looked_62 rfl ?_
        replace h := hk2_r _ (hz2.2 _ h)
        obtain rfl := o1_i h
        rw [hQ]
        exact q_iret cx dX8_looked_64
      · replace h := ine c13 h
        refine q_aload_n cx (pc' := 17) 0 rfl dX8_looked_16 rfl ?_
        obtain ⟨ht17, r17, ex17, h⟩ := gR_i h
        refine q_gR cx (pc' := 20) 8 0 fl_X8_12 rfl ht17 ex17 dX8_looked_17 rfl ?_
        obtain ⟨ht20, r20, ex20, h⟩ := gR_i h
        refine q_gR cx (pc' := 23) 5 0 fl_X8_98 rfl ht20 ex20 dX8_looked_20 rfl ?_
        obtain ⟨ht23, r23, ex23, h⟩ := gR_i h
        refine q_gR cx (pc' := 26) 2 0 fl_X8_115 rfl ht23 ex23 dX8_looked_23 rfl ?_
        refine q_aload_n cx (pc' := 27) 0 rfl dX8_looked_26 rfl ?_
        obtain ⟨ht27, r27, ex27, h⟩ := gR_i h
        refine q_gR cx (pc' := 30) 8 0 fl_X8_12 rfl ht27 ex27 dX8_looked_27 rfl ?_
        obtain ⟨ht30, r30, ex30, h⟩ := gR_i h
        refine q_gR cx (pc' := 33) 5 6 fl_X8_262 rfl ht30 ex30 dX8_looked_30 rfl ?_
        obtain ⟨ht33, r33, ex33, h⟩ := gR_i h
        refine q_gR cx (pc' := 36) 4 1 fl_X8_259 rfl ht33 ex33 dX8_looked_33 rfl ?_
        refine q_iload_n cx (pc' := 37) 1 rfl dX8_looked_36 rfl ?_
        obtain ⟨ht37, hi37, x37, ex37, h⟩ := aI_i h
        refine q_iald cx (pc' := 38) ht37 hi37 ex37 dX8_looked_37 rfl ?_
        obtain ⟨ht38, hi38, x38, ex38, h⟩ := aI_i h
        refine q_iald cx (pc' := 39) ht38 hi38 ex38 dX8_looked_38 rfl ?_
        refine q_aload_n cx (pc' := 40) 0 rfl dX8_looked_39 rfl ?_
        obtain ⟨ht40, r40, ex40, h⟩ := gR_i h
        refine q_gR cx (pc' := 43) 8 0 fl_X8_12 rfl ht40 ex40 dX8_looked_40 rfl ?_
        obtain ⟨ht43, r43, ex43, h⟩ := gR_i h
        refine q_gR cx (pc' := 46) 5 6 fl_X8_262 rfl ht43 ex43 dX8_looked_43 rfl ?_
        obtain ⟨ht46, r46, ex46, h⟩ := gR_i h
        refine q_gR cx (pc' := 49) 4 2 fl_X8_238 rfl ht46 ex46 dX8_looked_46 rfl ?_
        refine q_iload_n cx (pc' := 50) 1 rfl dX8_looked_49 rfl ?_
        obtain ⟨ht50, hi50, x50, ex50, h⟩ := aI_i h
        refine q_iald cx (pc' := 51) ht50 hi50 ex50 dX8_looked_50 rfl ?_
        refine q_icmp_eq cx (pc' := 54) (tgt := 56) dX8_looked_51 (by decide) rfl (fun c51 => ?_) (fun c51 => ?_)
        · replace h := ip c51 h
          obtain ⟨v1_56, ev1_56, h⟩ := nm_i h
          refine q_iinc cx (pc' := 59) 1 rfl ki_1 ev1_56 (by decide) (L' := [(1, .int v1_56), (0, .ref ths)]) rfl dX8_looked_56 rfl ?_
          refine q_goto cx dX8_looked_59 (tgt := 2) (by decide) ?_
          refine q_sub cx [1, 0] rfl ?_
          exact ih _ (hz2.1 _ h)
        · replace h := ine c51 h
          refine q_iload_n cx (pc' := 55) 1 rfl dX8_looked_54 rfl ?_
          replace h := hk2_r _ (hz2.2 _ h)
          obtain rfl := o1_i h
          rw [hQ]
          exact q_iret cx dX8_looked_55
  refine q_sub cx [1, 0] rfl ?_
  exact key2 FU _ hL2

abbrev rm_X8_judge : Room := { frames := 2, cells := 0, slots := 0, locals := 80 }
def lp_X8_judge_68 (M : QM) (ths : Nat) (p2 : Int32) (r16 : Nat) (v4_63 : Int32) (w5_68 : Int32) : Option ((Int32) ⊕ ((Unit) ⊕ (Int32))) :=
  if v4_63 ≤ w5_68 then
    some (.inr (.inl ()))
  else
    gR M r16 6 2 fun r76 =>
    aJ M r76 (p2 + w5_68) fun x83 =>
    gR M ths 8 0 fun r85 =>
    gR M r85 5 0 fun r88 =>
    gR M r88 2 0 fun r91 =>
    aI M 20 r91 w5_68 fun x96 =>
    if (lg_cmp x83 x96.toInt64) = 0 then
      nm (w5_68 + 1) fun v5_105 =>
      some (.inl v5_105)
    else
      some (.inr (.inr w5_68))
def fn_X8_judge (M : QM) (ths : Nat) (p1 : Int32) (p2 : Int32) : Option Int32 :=
  if (fn_X8_isBelow p1 6) = 0 then
    some (-1)
  else
    gR M ths 8 6 fun r12 =>
    aR M 25 r12 p1 fun r16 =>
    ck M r16 6 <|
    bnd (fn_X6_isNothing M r16) fun c19 =>
    if c19 = 0 then
      gI M r16 6 0 fun x29 =>
      if x29 = 0 then
        gI M r16 6 1 fun x40 =>
        if (fn_X8_isBelow p2 x40) = 0 then
          some 100
        else
          gI M r16 6 1 fun x55 =>
          nm (imm_min 16 (x55 - p2)) fun v4_63 =>
          bnd (itr (fun s68 : Int32 => lp_X8_judge_68 M ths p2 r16 v4_63 s68) FU 0) fun r68 =>
          sm r68 (fun q68_0 =>
            if 16 ≤ v4_63 then
              some (-5)
            else
              some (100 + v4_63)) fun t68_0 =>
          nm t68_0 fun re_68 =>
          some re_68
      else
        some (-12)
    else
      some 100
set_option maxRecDepth 100000 in
set_option maxHeartbeats 4000000 in
theorem ct_X8_judge (Γ : GT) (l : Launch) (M : QM) (ths : Nat) (p1 : Int32) (p2 : Int32) (ht0 : mt M ths = 8) (z : Int32) (h : fn_X8_judge M ths p1 p2 = some z) : CT Γ l yX8_judge cX8_judge 6 (some .int) rm_X8_judge (.ref ths :: [.int p1, .int p2]) M (some (.int z)) M := by
  refine ct_intro (own := RX8) (L := [(0, .ref ths), (1, .int p1), (2, .int p2)]) (by decide +kernel) rfl (Nat.le_of_ble_eq_true rfl) rfl ?_
  intro p e s m args below meth c Q hQ cx hnm
  unfold fn_X8_judge at h
  refine q_iload_n cx (pc' := 1) 1 rfl dX8_judge_0 rfl ?_
  refine q_bipush cx (pc' := 3) kb_6 dX8_judge_1 rfl ?_
  refine q_callS cx (pc' := 6) (S := []) (S1 := [.int (fn_X8_isBelow p1 6)]) (kc' := 0) (ks' := 0) (ct_X8_isBelow Γ l M p1 6) lki_X8_isBelow lkv_X8_isBelow lkc_X8_69 rfl rfl (Nat.le_of_ble_eq_true rfl) ⟨(Nat.le_of_ble_eq_true rfl), (Nat.le_of_ble_eq_true rfl)⟩ ⟨(Nat.le_of_ble_eq_true rfl), (Nat.le_of_ble_eq_true rfl)⟩ dX8_judge_3 rfl rfl rfl ?_
  refine q_if_ne cx (pc' := 9) (tgt := 11) dX8_judge_6 (by decide) rfl (fun c6 => ?_) (fun c6 => ?_)
  · replace h := ine c6 h
    refine q_aload_n cx (pc' := 12) 0 rfl dX8_judge_11 rfl ?_
    obtain ⟨ht12, r12, ex12, h⟩ := gR_i h
    refine q_gR cx (pc' := 15) 8 6 fl_X8_37 rfl ht12 ex12 dX8_judge_12 rfl ?_
    refine q_iload_n cx (pc' := 16) 1 rfl dX8_judge_15 rfl ?_
    obtain ⟨ht16, hi16, r16, ex16, h⟩ := aR_i h
    refine q_aald5 cx (pc' := 17) ht16 hi16 ex16 dX8_judge_16 rfl ?_
    refine q_astore_n cx (pc' := 18) rfl rfl (by decide) (L' := [(3, .ref r16), (0, .ref ths), (1, .int p1), (2, .int p2)]) rfl dX8_judge_17 rfl ?_
    refine q_aload_n cx (pc' := 19) 0 rfl dX8_judge_18 rfl ?_
    obtain ⟨hk19, h⟩ := ck_i h
    obtain ⟨c19, hc19, h⟩ := bnd_i h
    refine q_callV cx (pc' := 22) (S := []) (S1 := [.int c19]) (kc' := 0) (ks' := 0) 6 (ct_X6_isNothing Γ l M r16 hk19 _ hc19) lki_X6_isNothing lkv_X6_isNothing lkc_X8_265 hk19 (r := (RX6, TX6, 3)) ⟨rfl, by decide, rfl⟩ rfl rfl (Nat.le_of_ble_eq_true rfl) ⟨(Nat.le_of_ble_eq_true rfl), (Nat.le_of_ble_eq_true rfl)⟩ ⟨(Nat.le_of_ble_eq_true rfl), (Nat.le_of_ble_eq_true rfl)⟩ dX8_judge_19 rfl rfl rfl ?_
    refine q_if_eq cx (pc' := 25) (tgt := 28) dX8_judge_22 (by decide) rfl (fun c22 => ?_) (fun c22 => ?_)
    · replace h := ip c22 h
      refine q_aload_n cx (pc' := 29) 0 rfl dX8_judge_28 rfl ?_
      obtain ⟨ht29, x29, ex29, h⟩ := gI_i h
      refine q_gI cx (pc' := 32) 6 0 fl_X8_268 rfl ht29 ex29 dX8_judge_29 rfl ?_
      refine q_if_eq cx (pc' := 35) (tgt := 38) dX8_judge_32 (by decide) rfl (fun c32 => ?_) (fun c32 => ?_)
      · replace h := ip c32 h
        refine q_iload_n cx (pc' := 39) 3 rfl dX8_judge_38 rfl ?_
        refine q_aload_n cx (pc' := 40) 0 rfl dX8_judge_39 rfl ?_
        obtain ⟨ht40, x40, ex40, h⟩ := gI_i h
        refine q_gI cx (pc' := 43) 6 1 fl_X8_271 rfl ht40 ex40 dX8_judge_40 rfl ?_
        refine q_callS cx (pc' := 46) (S := []) (S1 := [.int (fn_X8_isBelow p2 x40)]) (kc' := 0) (ks' := 0) (ct_X8_isBelow Γ l M p2 x40) lki_X8_isBelow lkv_X8_isBelow lkc_X8_69 rfl rfl (Nat.le_of_ble_eq_true rfl) ⟨(Nat.le_of_ble_eq_true rfl), (Nat.le_of_ble_eq_true rfl)⟩ ⟨(Nat.le_of_ble_eq_true rfl), (Nat.le_of_ble_eq_true rfl)⟩ dX8_judge_43 rfl rfl rfl ?_
        refine q_if_ne cx (pc' := 49) (tgt := 52) dX8_judge_46 (by decide) rfl (fun c46 => ?_) (fun c46 => ?_)
        · replace h := ine c46 h
          refine q_bipush cx (pc' := 54) kb_16 dX8_judge_52 rfl ?_
          refine q_aload_n cx (pc' := 55) 0 rfl dX8_judge_54 rfl ?_
          obtain ⟨ht55, x55, ex55, h⟩ := gI_i h
          refine q_gI cx (pc' := 58) 6 1 fl_X8_271 rfl ht55 ex55 dX8_judge_55 rfl ?_
          refine q_iload_n cx (pc' := 59) 3 rfl dX8_judge_58 rfl ?_
          refine q_isub cx (pc' := 60) dX8_judge_59 rfl ?_
          refine q_mmin cx (pc' := 63) aw_100 ⟨aw_84, aw_71, aw_85⟩ ⟨(Nat.le_of_ble_eq_true rfl), (Nat.le_of_ble_eq_true rfl), (Nat.le_of_ble_eq_true rfl), (Nat.le_of_ble_eq_true rfl)⟩ (Nat.le_of_ble_eq_true rfl) dX8_judge_60 rfl ?_
          obtain ⟨v4_63, ev4_63, h⟩ := nm_i h
          refine q_istore cx (pc' := 65) ev4_63 (by decide) (L' := [(4, .int v4_63), (3, .ref r16), (0, .ref ths), (1, .int p1), (2, .int p2)]) rfl dX8_judge_63 rfl ?_
          refine q_iconst cx (pc' := 66) ki_0 dX8_judge_65 rfl ?_
          refine q_istore cx (pc' := 68) rfl (by decide) (L' := [(5, .int 0), (4, .int v4_63), (3, .ref r16), (0, .ref ths), (1, .int p1), (2, .int p2)]) rfl dX8_judge_66 rfl ?_
          obtain ⟨r68, hL68, h⟩ := bnd_i h
          have hk68_0 : ∀ (_ : Unit), (.inl ()) = r68 → EE p l e rm_X8_judge s m args below meth c Q Γ 6 0 0 111 [(4, .int v4_63)] [] M := by
            intro _ hp
            subst hp
            replace h := sm_l h
            refine q_iload cx (pc' := 113) 0 rfl dX8_judge_111 rfl ?_
            refine q_bipush cx (pc' := 115) kb_16 dX8_judge_113 rfl ?_
            refine q_icmp_ge cx (pc' := 118) (tgt := 126) dX8_judge_115 (by decide) rfl (fun c115 => ?_) (fun c115 => ?_)
            · replace h := ip c115 h
              refine q_bipush cx (pc' := 128) kb_m5 dX8_judge_126 rfl ?_
              obtain rfl := o1_i h
              rw [hQ]
              exact q_iret cx dX8_judge_128
            · replace h := ine c115 h
              refine q_bipush cx (pc' := 120) kb_100 dX8_judge_118 rfl ?_
              refine q_iload cx (pc' := 122) 0 rfl dX8_judge_120 rfl ?_
              refine q_iadd cx (pc' := 123) dX8_judge_122 rfl ?_
              refine q_goto cx dX8_judge_123 (tgt := 128) (by decide) ?_
              obtain rfl := o1_i h
              rw [hQ]
              exact q_iret cx dX8_judge_128
          have hk68_r : ∀ (re_68 : Int32), (.inr re_68) = r68 → some re_68 = some z := by
            intro re_68 hp
            subst hp
            replace h := sm_r h
            replace h := nm_t h
            exact h
          have key68 : ∀ (n : Nat) (w5_68 : Int32), itr (fun s68 : Int32 => lp_X8_judge_68 M ths p2 r16 v4_63 s68) n w5_68 = some r68 → EE p l e rm_X8_judge s m args below meth c Q Γ 6 0 0 68 [(0, .ref ths), (2, .int p2), (3, .ref r16), (4, .int v4_63), (5, .int w5_68)] [] M := by
            intro n
            induction n with
            | zero => intro _ h; exact (itr_0 h).elim
            | succ n ih =>
              intro w5_68 h
              obtain ⟨z68, h, hz68⟩ := itr_i h
              replace h : lp_X8_judge_68 M ths p2 r16 v4_63 w5_68 = some z68 := h
              unfold lp_X8_judge_68 at h
              refine q_iload cx (pc' := 70) 4 rfl dX8_judge_68 rfl ?_
              refine q_iload cx (pc' := 72) 3 rfl dX8_judge_70 rfl ?_
              refine q_icmp_ge cx (pc' := 75) (tgt := 111) dX8_judge_72 (by decide) rfl (fun c72 => ?_) (fun c72 => ?_)
              · replace h := ip c72 h
                refine q_sub cx [3] rfl ?_
                exact hk68_0 () (hz68.2 _ h)
              · replace h := ine c72 h
                refine q_aload_n cx (pc' := 76) 2 rfl dX8_judge_75 rfl ?_
                obtain ⟨ht76, r76, ex76, h⟩ := gR_i h
                refine q_gR cx (pc' := 79) 6 2 fl_X8_277 rfl ht76 ex76 dX8_judge_76 rfl ?_
                refine q_iload_n cx (pc' := 80) 1 rfl dX8_judge_79 rfl ?_
                refine q_iload cx (pc' := 82) 4 rfl dX8_judge_80 rfl ?_
                refine q_iadd cx (pc' := 83) dX8_judge_82 rfl ?_
                obtain ⟨ht83, hi83, x83, ex83, h⟩ := aJ_i h
                refine q_lald cx (pc' := 84) ht83 hi83 ex83 dX8_judge_83 rfl ?_
                refine q_aload_n cx (pc' := 85) 0 rfl dX8_judge_84 rfl ?_
                obtain ⟨ht85, r85, ex85, h⟩ := gR_i h
                refine q_gR cx (pc' := 88) 8 0 fl_X8_12 rfl ht85 ex85 dX8_judge_85 rfl ?_
                obtain ⟨ht88, r88, ex88, h⟩ := gR_i h
                refine q_gR cx (pc' := 91) 5 0 fl_X8_98 rfl ht88 ex88 dX8_judge_88 rfl ?_
                obtain ⟨ht91, r91, ex91, h⟩ := gR_i h
                refine q_gR cx (pc' := 94) 2 0 fl_X8_115 rfl ht91 ex91 dX8_judge_91 rfl ?_
                refine q_iload cx (pc' := 96) 4 rfl dX8_judge_94 rfl ?_
                obtain ⟨ht96, hi96, x96, ex96, h⟩ := aI_i h
                refine q_iald cx (pc' := 97) ht96 hi96 ex96 dX8_judge_96 rfl ?_
                refine q_i2l cx (pc' := 98) dX8_judge_97 rfl ?_
                refine q_lcmp cx (pc' := 99) dX8_judge_98 rfl ?_
                refine q_if_eq cx (pc' := 102) (tgt := 105) dX8_judge_99 (by decide) rfl (fun c99 => ?_) (fun c99 => ?_)
                · replace h := ip c99 h
                  obtain ⟨v5_105, ev5_105, h⟩ := nm_i h
                  refine q_iinc cx (pc' := 108) 4 rfl ki_1 ev5_105 (by decide) (L' := [(5, .int v5_105), (0, .ref ths), (2, .int p2), (3, .ref r16), (4, .int v4_63)]) rfl dX8_judge_105 rfl ?_
                  refine q_goto cx dX8_judge_108 (tgt := 68) (by decide) ?_
                  refine q_sub cx [1, 2, 3, 4, 0] rfl ?_
                  exact ih _ (hz68.1 _ h)
                · replace h := ine c99 h
                  refine q_iload cx (pc' := 104) 4 rfl dX8_judge_102 rfl ?_
                  replace h := hk68_r _ (hz68.2 _ h)
                  obtain rfl := o1_i h
                  rw [hQ]
                  exact q_iret cx dX8_judge_104
          refine q_sub cx [3, 5, 2, 1, 0] rfl ?_
          exact key68 FU _ hL68
        · replace h := ip c46 h
          refine q_bipush cx (pc' := 51) kb_100 dX8_judge_49 rfl ?_
          obtain rfl := o1_i h
          rw [hQ]
          exact q_iret cx dX8_judge_51
      · replace h := ine c32 h
        refine q_bipush cx (pc' := 37) kb_m12 dX8_judge_35 rfl ?_
        obtain rfl := o1_i h
        rw [hQ]
        exact q_iret cx dX8_judge_37
    · replace h := ine c22 h
      refine q_bipush cx (pc' := 27) kb_100 dX8_judge_25 rfl ?_
      obtain rfl := o1_i h
      rw [hQ]
      exact q_iret cx dX8_judge_27
  · replace h := ip c6 h
    refine q_iconst cx (pc' := 10) ki_m1 dX8_judge_9 rfl ?_
    obtain rfl := o1_i h
    rw [hQ]
    exact q_iret cx dX8_judge_10

abbrev rm_X8_image : Room := { frames := 4, cells := 0, slots := 0, locals := 123 }
def fn_X8_image (M : QM) (ths : Nat) : Option (Int32 × QM) :=
  gR M ths 8 1 fun r1 =>
  gR M ths 8 0 fun r5 =>
  ck M r1 5 <|
  bnd (fn_X5_copy M r1 r5) fun M8 =>
  pI M8 ths 8 2 1 fun M13 =>
  gR M13 ths 8 1 fun r17 =>
  gI M13 r17 5 2 fun x20 =>
  some (x20, M13)
set_option maxRecDepth 100000 in
set_option maxHeartbeats 4000000 in
theorem ct_X8_image (Γ : GT) (l : Launch) (M : QM) (ths : Nat) (ht0 : mt M ths = 8) (z : Int32) (M' : QM) (h : fn_X8_image M ths = some (z, M')) : CT Γ l yX8_image cX8_image 1 (some .int) rm_X8_image (.ref ths :: []) M (some (.int z)) M' := by
  refine ct_intro (own := RX8) (L := [(0, .ref ths)]) (by decide +kernel) rfl (Nat.le_of_ble_eq_true rfl) rfl ?_
  intro p e s m args below meth c Q hQ cx hnm
  unfold fn_X8_image at h
  refine q_aload_n cx (pc' := 1) 0 rfl dX8_image_0 rfl ?_
  obtain ⟨ht1, r1, ex1, h⟩ := gR_i h
  refine q_gR cx (pc' := 4) 8 1 fl_X8_18 rfl ht1 ex1 dX8_image_1 rfl ?_
  refine q_aload_n cx (pc' := 5) 0 rfl dX8_image_4 rfl ?_
  obtain ⟨ht5, r5, ex5, h⟩ := gR_i h
  refine q_gR cx (pc' := 8) 8 0 fl_X8_12 rfl ht5 ex5 dX8_image_5 rfl ?_
  obtain ⟨hk8, h⟩ := ck_i h
  obtain ⟨M8, hc8, h⟩ := bnd_i h
  refine q_callV cx (pc' := 11) (S := []) (S1 := []) (kc' := 0) (ks' := 0) 5 (ct_X5_copy Γ l M r1 r5 hk8 _ hc8) lki_X5_copy lkv_X5_copy lkc_X8_281 hk8 (r := (RX5, TX5, 8)) ⟨rfl, by decide, rfl⟩ rfl rfl (Nat.le_of_ble_eq_true rfl) ⟨(Nat.le_of_ble_eq_true rfl), (Nat.le_of_ble_eq_true rfl)⟩ ⟨(Nat.le_of_ble_eq_true rfl), (Nat.le_of_ble_eq_true rfl)⟩ dX8_image_8 rfl rfl rfl ?_
  refine q_aload_n cx (pc' := 12) 0 rfl dX8_image_11 rfl ?_
  refine q_iconst cx (pc' := 13) ki_1 dX8_image_12 rfl ?_
  obtain ⟨ht13, M13, eM13, h⟩ := pI_i h
  refine q_pI cx (pc' := 16) 8 2 fl_X8_284 rfl ht13 (ty := .boolean) ⟨(RX8, TX8, 10), rfl, by decide +kernel, Or.inl rfl⟩ (by decide) (by decide) eM13 dX8_image_13 rfl ?_
  refine q_aload_n cx (pc' := 17) 0 rfl dX8_image_16 rfl ?_
  obtain ⟨ht17, r17, ex17, h⟩ := gR_i h
  refine q_gR cx (pc' := 20) 8 1 fl_X8_18 rfl ht17 ex17 dX8_image_17 rfl ?_
  obtain ⟨ht20, x20, ex20, h⟩ := gI_i h
  refine q_gI cx (pc' := 23) 5 2 fl_X8_73 rfl ht20 ex20 dX8_image_20 rfl ?_
  obtain ⟨rfl, rfl⟩ := o2_i h
  rw [hQ]
  exact q_iret cx dX8_image_23

abbrev rm_X8_undo : Room := { frames := 4, cells := 0, slots := 0, locals := 123 }
def fn_X8_undo (M : QM) (ths : Nat) : Option (Int32 × QM) :=
  gI M ths 8 2 fun x1 =>
  if x1 = 0 then
    some ((-3), M)
  else
    gR M ths 8 0 fun r11 =>
    gR M ths 8 1 fun r15 =>
    ck M r11 5 <|
    bnd (fn_X5_copy M r11 r15) fun M18 =>
    gR M18 ths 8 0 fun r22 =>
    gI M18 r22 5 2 fun x25 =>
    some (x25, M18)
set_option maxRecDepth 100000 in
set_option maxHeartbeats 4000000 in
theorem ct_X8_undo (Γ : GT) (l : Launch) (M : QM) (ths : Nat) (ht0 : mt M ths = 8) (z : Int32) (M' : QM) (h : fn_X8_undo M ths = some (z, M')) : CT Γ l yX8_undo cX8_undo 1 (some .int) rm_X8_undo (.ref ths :: []) M (some (.int z)) M' := by
  refine ct_intro (own := RX8) (L := [(0, .ref ths)]) (by decide +kernel) rfl (Nat.le_of_ble_eq_true rfl) rfl ?_
  intro p e s m args below meth c Q hQ cx hnm
  unfold fn_X8_undo at h
  refine q_aload_n cx (pc' := 1) 0 rfl dX8_undo_0 rfl ?_
  obtain ⟨ht1, x1, ex1, h⟩ := gI_i h
  refine q_gI cx (pc' := 4) 8 2 fl_X8_284 rfl ht1 ex1 dX8_undo_1 rfl ?_
  refine q_if_ne cx (pc' := 7) (tgt := 10) dX8_undo_4 (by decide) rfl (fun c4 => ?_) (fun c4 => ?_)
  · replace h := ine c4 h
    refine q_aload_n cx (pc' := 11) 0 rfl dX8_undo_10 rfl ?_
    obtain ⟨ht11, r11, ex11, h⟩ := gR_i h
    refine q_gR cx (pc' := 14) 8 0 fl_X8_12 rfl ht11 ex11 dX8_undo_11 rfl ?_
    refine q_aload_n cx (pc' := 15) 0 rfl dX8_undo_14 rfl ?_
    obtain ⟨ht15, r15, ex15, h⟩ := gR_i h
    refine q_gR cx (pc' := 18) 8 1 fl_X8_18 rfl ht15 ex15 dX8_undo_15 rfl ?_
    obtain ⟨hk18, h⟩ := ck_i h
    obtain ⟨M18, hc18, h⟩ := bnd_i h
    refine q_callV cx (pc' := 21) (S := []) (S1 := []) (kc' := 0) (ks' := 0) 5 (ct_X5_copy Γ l M r11 r15 hk18 _ hc18) lki_X5_copy lkv_X5_copy lkc_X8_281 hk18 (r := (RX5, TX5, 8)) ⟨rfl, by decide, rfl⟩ rfl rfl (Nat.le_of_ble_eq_true rfl) ⟨(Nat.le_of_ble_eq_true rfl), (Nat.le_of_ble_eq_true rfl)⟩ ⟨(Nat.le_of_ble_eq_true rfl), (Nat.le_of_ble_eq_true rfl)⟩ dX8_undo_18 rfl rfl rfl ?_
    refine q_aload_n cx (pc' := 22) 0 rfl dX8_undo_21 rfl ?_
    obtain ⟨ht22, r22, ex22, h⟩ := gR_i h
    refine q_gR cx (pc' := 25) 8 0 fl_X8_12 rfl ht22 ex22 dX8_undo_22 rfl ?_
    obtain ⟨ht25, x25, ex25, h⟩ := gI_i h
    refine q_gI cx (pc' := 28) 5 2 fl_X8_73 rfl ht25 ex25 dX8_undo_25 rfl ?_
    obtain ⟨rfl, rfl⟩ := o2_i h
    rw [hQ]
    exact q_iret cx dX8_undo_28
  · replace h := ip c4 h
    refine q_bipush cx (pc' := 9) kb_m3 dX8_undo_7 rfl ?_
    obtain ⟨rfl, rfl⟩ := o2_i h
    rw [hQ]
    exact q_iret cx dX8_undo_9

abbrev rm_X8_act : Room := { frames := 67, cells := 0, slots := 0, locals := 2647 }
def fn_X8_act (M : QM) (ths : Nat) (p1 : Int32) (p2 : Int32) (p3 : Int32) : Option (Int32 × QM) :=
  gR M ths 8 5 fun r1 =>
  pI M r1 0 1 0 fun M5 =>
  gR M5 ths 8 0 fun r9 =>
  ck M5 r9 5 <|
  bnd (fn_X5_walkerAt M5 r9 p1) fun c13 =>
  cnul c13 (
    some (0, M5)) fun r20 =>
  if (fn_X8_isBelow p2 3) = 0 then
    some (0, M5)
  else
    gR M5 ths 8 5 fun r34 =>
    pI M5 r34 0 2 p1 fun M38 =>
    gR M38 ths 8 5 fun r42 =>
    gI M38 r20 7 0 fun x47 =>
    pI M38 r42 0 3 x47 fun M50 =>
    gR M50 ths 8 5 fun r54 =>
    gI M50 r20 7 1 fun x59 =>
    pI M50 r54 0 4 x59 fun M62 =>
    gR M62 ths 8 5 fun r66 =>
    gI M62 r20 7 0 fun x71 =>
    ck M62 r66 0 <|
    bnd (fn_rd 64 0 M62 r66 x71 p2 p3 0) fun y77 =>
    pr2 y77 fun c77 M77 =>
    some (c77, M77)
set_option maxRecDepth 100000 in
set_option maxHeartbeats 4000000 in
theorem ct_X8_act (Γ : GT) (l : Launch) (M : QM) (ths : Nat) (p1 : Int32) (p2 : Int32) (p3 : Int32) (ht0 : mt M ths = 8) (z : Int32) (M' : QM) (h : fn_X8_act M ths p1 p2 p3 = some (z, M')) : CT Γ l yX8_act cX8_act 5 (some .int) rm_X8_act (.ref ths :: [.int p1, .int p2, .int p3]) M (some (.int z)) M' := by
  refine ct_intro (own := RX8) (L := [(0, .ref ths), (1, .int p1), (2, .int p2), (3, .int p3)]) (by decide +kernel) rfl (Nat.le_of_ble_eq_true rfl) rfl ?_
  intro p e s m args below meth c Q hQ cx hnm
  unfold fn_X8_act at h
  refine q_aload_n cx (pc' := 1) 0 rfl dX8_act_0 rfl ?_
  obtain ⟨ht1, r1, ex1, h⟩ := gR_i h
  refine q_gR cx (pc' := 4) 8 5 fl_X8_31 rfl ht1 ex1 dX8_act_1 rfl ?_
  refine q_iconst cx (pc' := 5) ki_0 dX8_act_4 rfl ?_
  obtain ⟨ht5, M5, eM5, h⟩ := pI_i h
  refine q_pI cx (pc' := 8) 0 1 fl_X8_288 rfl ht5 (ty := .int) ⟨(RX0, TX0, 5), rfl, by decide +kernel, Or.inl rfl⟩ rfl rfl eM5 dX8_act_5 rfl ?_
  refine q_aload_n cx (pc' := 9) 0 rfl dX8_act_8 rfl ?_
  obtain ⟨ht9, r9, ex9, h⟩ := gR_i h
  refine q_gR cx (pc' := 12) 8 0 fl_X8_12 rfl ht9 ex9 dX8_act_9 rfl ?_
  refine q_iload_n cx (pc' := 13) 1 rfl dX8_act_12 rfl ?_
  obtain ⟨hk13, h⟩ := ck_i h
  obtain ⟨c13, hc13, h⟩ := bnd_i h
  refine q_callV cx (pc' := 16) (S := []) (S1 := [va_rf c13]) (kc' := 0) (ks' := 0) 5 (ct_X5_walkerAt Γ l M5 r9 p1 hk13 _ hc13) lki_X5_walkerAt lkv_X5_walkerAt lkc_X8_85 hk13 (r := (RX5, TX5, 8)) ⟨rfl, by decide, rfl⟩ rfl rfl (Nat.le_of_ble_eq_true rfl) ⟨(Nat.le_of_ble_eq_true rfl), (Nat.le_of_ble_eq_true rfl)⟩ ⟨(Nat.le_of_ble_eq_true rfl), (Nat.le_of_ble_eq_true rfl)⟩ dX8_act_13 rfl rfl rfl ?_
  refine q_astoreO cx (pc' := 18) rfl (by decide) (L' := [(4, va_rf c13), (0, .ref ths), (1, .int p1), (2, .int p2), (3, .int p3)]) rfl dX8_act_16 rfl ?_
  refine q_aloadO cx (pc' := 20) 0 rfl dX8_act_18 rfl ?_
  rcases c13 with _ | r20
  · replace h := cnul_n h
    refine q_ifnull_null cx dX8_act_20 (tgt := 31) (by decide) ?_
    refine q_iconst cx (pc' := 32) ki_0 dX8_act_31 rfl ?_
    obtain ⟨rfl, rfl⟩ := o2_i h
    rw [hQ]
    exact q_iret cx dX8_act_32
  · replace h := cnul_s h
    refine q_ifnull_ref cx (pc' := 23) dX8_act_20 rfl ?_
    refine q_iload_n cx (pc' := 24) 3 rfl dX8_act_23 rfl ?_
    refine q_iconst cx (pc' := 25) ki_3 dX8_act_24 rfl ?_
    refine q_callS cx (pc' := 28) (S := []) (S1 := [.int (fn_X8_isBelow p2 3)]) (kc' := 0) (ks' := 0) (ct_X8_isBelow Γ l M5 p2 3) lki_X8_isBelow lkv_X8_isBelow lkc_X8_69 rfl rfl (Nat.le_of_ble_eq_true rfl) ⟨(Nat.le_of_ble_eq_true rfl), (Nat.le_of_ble_eq_true rfl)⟩ ⟨(Nat.le_of_ble_eq_true rfl), (Nat.le_of_ble_eq_true rfl)⟩ dX8_act_25 rfl rfl rfl ?_
    refine q_if_ne cx (pc' := 31) (tgt := 33) dX8_act_28 (by decide) rfl (fun c28 => ?_) (fun c28 => ?_)
    · replace h := ine c28 h
      refine q_aload_n cx (pc' := 34) 1 rfl dX8_act_33 rfl ?_
      obtain ⟨ht34, r34, ex34, h⟩ := gR_i h
      refine q_gR cx (pc' := 37) 8 5 fl_X8_31 rfl ht34 ex34 dX8_act_34 rfl ?_
      refine q_iload_n cx (pc' := 38) 2 rfl dX8_act_37 rfl ?_
      obtain ⟨ht38, M38, eM38, h⟩ := pI_i h
      refine q_pI cx (pc' := 41) 0 2 fl_X8_291 rfl ht38 (ty := .int) ⟨(RX0, TX0, 5), rfl, by decide +kernel, Or.inl rfl⟩ rfl rfl eM38 dX8_act_38 rfl ?_
      refine q_aload_n cx (pc' := 42) 1 rfl dX8_act_41 rfl ?_
      obtain ⟨ht42, r42, ex42, h⟩ := gR_i h
      refine q_gR cx (pc' := 45) 8 5 fl_X8_31 rfl ht42 ex42 dX8_act_42 rfl ?_
      refine q_aload cx (pc' := 47) 0 rfl dX8_act_45 rfl ?_
      obtain ⟨ht47, x47, ex47, h⟩ := gI_i h
      refine q_gI cx (pc' := 50) 7 0 fl_X8_89 rfl ht47 ex47 dX8_act_47 rfl ?_
      obtain ⟨ht50, M50, eM50, h⟩ := pI_i h
      refine q_pI cx (pc' := 53) 0 3 fl_X8_294 rfl ht50 (ty := .int) ⟨(RX0, TX0, 5), rfl, by decide +kernel, Or.inl rfl⟩ rfl rfl eM50 dX8_act_50 rfl ?_
      refine q_aload_n cx (pc' := 54) 1 rfl dX8_act_53 rfl ?_
      obtain ⟨ht54, r54, ex54, h⟩ := gR_i h
      refine q_gR cx (pc' := 57) 8 5 fl_X8_31 rfl ht54 ex54 dX8_act_54 rfl ?_
      refine q_aload cx (pc' := 59) 0 rfl dX8_act_57 rfl ?_
      obtain ⟨ht59, x59, ex59, h⟩ := gI_i h
      refine q_gI cx (pc' := 62) 7 1 fl_X8_92 rfl ht59 ex59 dX8_act_59 rfl ?_
      obtain ⟨ht62, M62, eM62, h⟩ := pI_i h
      refine q_pI cx (pc' := 65) 0 4 fl_X8_295 rfl ht62 (ty := .int) ⟨(RX0, TX0, 5), rfl, by decide +kernel, Or.inl rfl⟩ rfl rfl eM62 dX8_act_62 rfl ?_
      refine q_aload_n cx (pc' := 66) 1 rfl dX8_act_65 rfl ?_
      obtain ⟨ht66, r66, ex66, h⟩ := gR_i h
      refine q_gR cx (pc' := 69) 8 5 fl_X8_31 rfl ht66 ex66 dX8_act_66 rfl ?_
      refine q_aload cx (pc' := 71) 0 rfl dX8_act_69 rfl ?_
      obtain ⟨ht71, x71, ex71, h⟩ := gI_i h
      refine q_gI cx (pc' := 74) 7 0 fl_X8_89 rfl ht71 ex71 dX8_act_71 rfl ?_
      refine q_iload_n cx (pc' := 75) 3 rfl dX8_act_74 rfl ?_
      refine q_iload_n cx (pc' := 76) 4 rfl dX8_act_75 rfl ?_
      refine q_iconst cx (pc' := 77) ki_0 dX8_act_76 rfl ?_
      obtain ⟨hk77, h⟩ := ck_i h
      obtain ⟨⟨c77, M77⟩, hc77, h⟩ := bnd_i h
      replace h := pr2_i h
      refine q_callV cx (pc' := 80) (S := []) (S1 := [.int c77]) (kc' := 0) (ks' := 0) 0 (ct_rd_0 Γ l 64 _ _ _ _ _ _ _ _ hk77 hc77) lki_X0_run lkv_X0_run lkc_X8_296 hk77 (r := (RX0, TX0, 5)) ⟨rfl, by decide, rfl⟩ rfl rfl (Nat.le_of_ble_eq_true rfl) ⟨(Nat.le_of_ble_eq_true rfl), (Nat.le_of_ble_eq_true rfl)⟩ ⟨(Nat.le_of_ble_eq_true rfl), (Nat.le_of_ble_eq_true rfl)⟩ dX8_act_77 rfl rfl rfl ?_
      obtain ⟨rfl, rfl⟩ := o2_i h
      rw [hQ]
      exact q_iret cx dX8_act_80
    · replace h := ip c28 h
      refine q_iconst cx (pc' := 32) ki_0 dX8_act_31 rfl ?_
      obtain ⟨rfl, rfl⟩ := o2_i h
      rw [hQ]
      exact q_iret cx dX8_act_32

abbrev rm_X8_trace : Room := { frames := 2, cells := 0, slots := 0, locals := 80 }
def fn_X8_trace (M : QM) (ths : Nat) (p1 : Int32) : Option Int32 :=
  gR M ths 8 5 fun r2 =>
  gI M r2 0 1 fun x5 =>
  if (fn_X8_isBelow p1 (imm_min x5 20)) = 0 then
    some (-1)
  else
    gR M ths 8 5 fun r20 =>
    gR M r20 0 0 fun r23 =>
    aI M 20 r23 p1 fun x27 =>
    some x27
set_option maxRecDepth 100000 in
set_option maxHeartbeats 4000000 in
theorem ct_X8_trace (Γ : GT) (l : Launch) (M : QM) (ths : Nat) (p1 : Int32) (ht0 : mt M ths = 8) (z : Int32) (h : fn_X8_trace M ths p1 = some z) : CT Γ l yX8_trace cX8_trace 2 (some .int) rm_X8_trace (.ref ths :: [.int p1]) M (some (.int z)) M := by
  refine ct_intro (own := RX8) (L := [(0, .ref ths), (1, .int p1)]) (by decide +kernel) rfl (Nat.le_of_ble_eq_true rfl) rfl ?_
  intro p e s m args below meth c Q hQ cx hnm
  unfold fn_X8_trace at h
  refine q_iload_n cx (pc' := 1) 1 rfl dX8_trace_0 rfl ?_
  refine q_aload_n cx (pc' := 2) 0 rfl dX8_trace_1 rfl ?_
  obtain ⟨ht2, r2, ex2, h⟩ := gR_i h
  refine q_gR cx (pc' := 5) 8 5 fl_X8_31 rfl ht2 ex2 dX8_trace_2 rfl ?_
  obtain ⟨ht5, x5, ex5, h⟩ := gI_i h
  refine q_gI cx (pc' := 8) 0 1 fl_X8_288 rfl ht5 ex5 dX8_trace_5 rfl ?_
  refine q_bipush cx (pc' := 10) kb_20 dX8_trace_8 rfl ?_
  refine q_mmin cx (pc' := 13) aw_100 ⟨aw_84, aw_71, aw_85⟩ ⟨(Nat.le_of_ble_eq_true rfl), (Nat.le_of_ble_eq_true rfl), (Nat.le_of_ble_eq_true rfl), (Nat.le_of_ble_eq_true rfl)⟩ (Nat.le_of_ble_eq_true rfl) dX8_trace_10 rfl ?_
  refine q_callS cx (pc' := 16) (S := []) (S1 := [.int (fn_X8_isBelow p1 (imm_min x5 20))]) (kc' := 0) (ks' := 0) (ct_X8_isBelow Γ l M p1 (imm_min x5 20)) lki_X8_isBelow lkv_X8_isBelow lkc_X8_69 rfl rfl (Nat.le_of_ble_eq_true rfl) ⟨(Nat.le_of_ble_eq_true rfl), (Nat.le_of_ble_eq_true rfl)⟩ ⟨(Nat.le_of_ble_eq_true rfl), (Nat.le_of_ble_eq_true rfl)⟩ dX8_trace_13 rfl rfl rfl ?_
  refine q_if_eq cx (pc' := 19) (tgt := 31) dX8_trace_16 (by decide) rfl (fun c16 => ?_) (fun c16 => ?_)
  · replace h := ip c16 h
    refine q_iconst cx (pc' := 32) ki_m1 dX8_trace_31 rfl ?_
    obtain rfl := o1_i h
    rw [hQ]
    exact q_iret cx dX8_trace_32
  · replace h := ine c16 h
    refine q_aload_n cx (pc' := 20) 0 rfl dX8_trace_19 rfl ?_
    obtain ⟨ht20, r20, ex20, h⟩ := gR_i h
    refine q_gR cx (pc' := 23) 8 5 fl_X8_31 rfl ht20 ex20 dX8_trace_20 rfl ?_
    obtain ⟨ht23, r23, ex23, h⟩ := gR_i h
    refine q_gR cx (pc' := 26) 0 0 fl_X8_300 rfl ht23 ex23 dX8_trace_23 rfl ?_
    refine q_iload_n cx (pc' := 27) 1 rfl dX8_trace_26 rfl ?_
    obtain ⟨ht27, hi27, x27, ex27, h⟩ := aI_i h
    refine q_iald cx (pc' := 28) ht27 hi27 ex27 dX8_trace_27 rfl ?_
    refine q_goto cx dX8_trace_28 (tgt := 32) (by decide) ?_
    obtain rfl := o1_i h
    rw [hQ]
    exact q_iret cx dX8_trace_32

abbrev rm_X8_taken : Room := { frames := 3, cells := 0, slots := 0, locals := 82 }
def lp_X8_taken_37 (p2 : Int32) (w4_37 : Int32) (w5_37 : Int32) : Option ((Int32 × Int32) ⊕ ((Unit) ⊕ (Int32))) :=
  if 7 ≤ w5_37 then
    some (.inr (.inr (-12)))
  else
    if w4_37 < 0 then
      some (.inr (.inr (-12)))
    else
      if w4_37 = p2 then
        some (.inr (.inl ()))
      else
        sA tKA 7 w4_37 fun x65 =>
        nm (w5_37 + 1) fun v5_68 =>
        some (.inl (x65, v5_68))
def fn_X8_taken (M : QM) (ths : Nat) (p1 : Int32) (p2 : Int32) : Option Int32 :=
  if (fn_X8_isBelow p2 7) = 0 then
    some (-2)
  else
    gR M ths 8 0 fun r13 =>
    ck M r13 5 <|
    bnd (fn_X5_walkerAt M r13 p1) fun c17 =>
    cnul c17 (
      some (-11)) fun r22 =>
    gI M r22 7 0 fun x29 =>
    bnd (itr (fun s37 : Int32 × Int32 => lp_X8_taken_37 p2 s37.1 s37.2) FU (x29, 0)) fun r37 =>
    sm r37 (fun q37_0 =>
      gI M r22 7 0 fun x56 =>
      some x56) fun t37_0 =>
    nm t37_0 fun re_37 =>
    some re_37
set_option maxRecDepth 100000 in
set_option maxHeartbeats 4000000 in
theorem ct_X8_taken (Γ : GT) (l : Launch) (M : QM) (ths : Nat) (p1 : Int32) (p2 : Int32) (ht0 : mt M ths = 8) (z : Int32) (h : fn_X8_taken M ths p1 p2 = some z) : CT Γ l yX8_taken cX8_taken 6 (some .int) rm_X8_taken (.ref ths :: [.int p1, .int p2]) M (some (.int z)) M := by
  refine ct_intro (own := RX8) (L := [(0, .ref ths), (1, .int p1), (2, .int p2)]) (by decide +kernel) rfl (Nat.le_of_ble_eq_true rfl) rfl ?_
  intro p e s m args below meth c Q hQ cx hnm
  unfold fn_X8_taken at h
  refine q_iload_n cx (pc' := 1) 2 rfl dX8_taken_0 rfl ?_
  refine q_bipush cx (pc' := 3) kb_7 dX8_taken_1 rfl ?_
  refine q_callS cx (pc' := 6) (S := []) (S1 := [.int (fn_X8_isBelow p2 7)]) (kc' := 0) (ks' := 0) (ct_X8_isBelow Γ l M p2 7) lki_X8_isBelow lkv_X8_isBelow lkc_X8_69 rfl rfl (Nat.le_of_ble_eq_true rfl) ⟨(Nat.le_of_ble_eq_true rfl), (Nat.le_of_ble_eq_true rfl)⟩ ⟨(Nat.le_of_ble_eq_true rfl), (Nat.le_of_ble_eq_true rfl)⟩ dX8_taken_3 rfl rfl rfl ?_
  refine q_if_ne cx (pc' := 9) (tgt := 12) dX8_taken_6 (by decide) rfl (fun c6 => ?_) (fun c6 => ?_)
  · replace h := ine c6 h
    refine q_aload_n cx (pc' := 13) 0 rfl dX8_taken_12 rfl ?_
    obtain ⟨ht13, r13, ex13, h⟩ := gR_i h
    refine q_gR cx (pc' := 16) 8 0 fl_X8_12 rfl ht13 ex13 dX8_taken_13 rfl ?_
    refine q_iload_n cx (pc' := 17) 1 rfl dX8_taken_16 rfl ?_
    obtain ⟨hk17, h⟩ := ck_i h
    obtain ⟨c17, hc17, h⟩ := bnd_i h
    refine q_callV cx (pc' := 20) (S := []) (S1 := [va_rf c17]) (kc' := 0) (ks' := 0) 5 (ct_X5_walkerAt Γ l M r13 p1 hk17 _ hc17) lki_X5_walkerAt lkv_X5_walkerAt lkc_X8_85 hk17 (r := (RX5, TX5, 8)) ⟨rfl, by decide, rfl⟩ rfl rfl (Nat.le_of_ble_eq_true rfl) ⟨(Nat.le_of_ble_eq_true rfl), (Nat.le_of_ble_eq_true rfl)⟩ ⟨(Nat.le_of_ble_eq_true rfl), (Nat.le_of_ble_eq_true rfl)⟩ dX8_taken_17 rfl rfl rfl ?_
    refine q_astore_nO cx (pc' := 21) rfl rfl (by decide) (L' := [(3, va_rf c17), (0, .ref ths), (1, .int p1), (2, .int p2)]) rfl dX8_taken_20 rfl ?_
    refine q_aload_nO cx (pc' := 22) 0 rfl dX8_taken_21 rfl ?_
    rcases c17 with _ | r22
    · replace h := cnul_n h
      refine q_ifnonnull_null cx (pc' := 25) dX8_taken_22 rfl ?_
      refine q_bipush cx (pc' := 27) kb_m11 dX8_taken_25 rfl ?_
      obtain rfl := o1_i h
      rw [hQ]
      exact q_iret cx dX8_taken_27
    · replace h := cnul_s h
      refine q_ifnonnull_ref cx dX8_taken_22 (tgt := 28) (by decide) ?_
      refine q_aload_n cx (pc' := 29) 0 rfl dX8_taken_28 rfl ?_
      obtain ⟨ht29, x29, ex29, h⟩ := gI_i h
      refine q_gI cx (pc' := 32) 7 0 fl_X8_89 rfl ht29 ex29 dX8_taken_29 rfl ?_
      refine q_istore cx (pc' := 34) rfl (by decide) (L' := [(4, .int x29), (3, .ref r22), (0, .ref ths), (1, .int p1), (2, .int p2)]) rfl dX8_taken_32 rfl ?_
      refine q_iconst cx (pc' := 35) ki_0 dX8_taken_34 rfl ?_
      refine q_istore cx (pc' := 37) rfl (by decide) (L' := [(5, .int 0), (4, .int x29), (3, .ref r22), (0, .ref ths), (1, .int p1), (2, .int p2)]) rfl dX8_taken_35 rfl ?_
      obtain ⟨r37, hL37, h⟩ := bnd_i h
      have hk37_0 : ∀ (_ : Unit), (.inl ()) = r37 → EE p l e rm_X8_taken s m args below meth c Q Γ 6 0 0 55 [(3, .ref r22)] [] M := by
        intro _ hp
        subst hp
        replace h := sm_l h
        refine q_aload_n cx (pc' := 56) 0 rfl dX8_taken_55 rfl ?_
        obtain ⟨ht56, x56, ex56, h⟩ := gI_i h
        refine q_gI cx (pc' := 59) 7 0 fl_X8_89 rfl ht56 ex56 dX8_taken_56 rfl ?_
        obtain rfl := o1_i h
        rw [hQ]
        exact q_iret cx dX8_taken_59
      have hk37_r : ∀ (re_37 : Int32), (.inr re_37) = r37 → some re_37 = some z := by
        intro re_37 hp
        subst hp
        replace h := sm_r h
        replace h := nm_t h
        exact h
      have key37 : ∀ (n : Nat) (w4_37 : Int32) (w5_37 : Int32), itr (fun s37 : Int32 × Int32 => lp_X8_taken_37 p2 s37.1 s37.2) n (w4_37, w5_37) = some r37 → EE p l e rm_X8_taken s m args below meth c Q Γ 6 0 0 37 [(2, .int p2), (3, .ref r22), (4, .int w4_37), (5, .int w5_37)] [] M := by
        intro n
        induction n with
        | zero => intro _ _ h; exact (itr_0 h).elim
        | succ n ih =>
          intro w4_37 w5_37 h
          obtain ⟨z37, h, hz37⟩ := itr_i h
          replace h : lp_X8_taken_37 p2 w4_37 w5_37 = some z37 := h
          unfold lp_X8_taken_37 at h
          refine q_iload cx (pc' := 39) 3 rfl dX8_taken_37 rfl ?_
          refine q_bipush cx (pc' := 41) kb_7 dX8_taken_39 rfl ?_
          refine q_icmp_ge cx (pc' := 44) (tgt := 74) dX8_taken_41 (by decide) rfl (fun c41 => ?_) (fun c41 => ?_)
          · replace h := ip c41 h
            refine q_bipush cx (pc' := 76) kb_m12 dX8_taken_74 rfl ?_
            replace h := hk37_r _ (hz37.2 _ h)
            obtain rfl := o1_i h
            rw [hQ]
            exact q_iret cx dX8_taken_76
          · replace h := ine c41 h
            refine q_iload cx (pc' := 46) 2 rfl dX8_taken_44 rfl ?_
            refine q_if_lt cx (pc' := 49) (tgt := 74) dX8_taken_46 (by decide) rfl (fun c46 => ?_) (fun c46 => ?_)
            · replace h := ip c46 h
              refine q_bipush cx (pc' := 76) kb_m12 dX8_taken_74 rfl ?_
              replace h := hk37_r _ (hz37.2 _ h)
              obtain rfl := o1_i h
              rw [hQ]
              exact q_iret cx dX8_taken_76
            · replace h := ine c46 h
              refine q_iload cx (pc' := 51) 2 rfl dX8_taken_49 rfl ?_
              refine q_iload_n cx (pc' := 52) 0 rfl dX8_taken_51 rfl ?_
              refine q_icmp_ne cx (pc' := 55) (tgt := 60) dX8_taken_52 (by decide) rfl (fun c52 => ?_) (fun c52 => ?_)
              · replace h := ine c52 h
                refine q_getsKA cx (pc' := 63) (Or.inl aw_104) dX8_taken_60 rfl ?_
                refine q_iload cx (pc' := 65) 2 rfl dX8_taken_63 rfl ?_
                obtain ⟨hi65, x65, ex65, h⟩ := sA_i h
                refine q_ildKA cx (pc' := 66) hi65 ex65 dX8_taken_65 rfl ?_
                refine q_istore cx (pc' := 68) rfl (by decide) (L' := [(4, .int x65), (2, .int p2), (3, .ref r22), (5, .int w5_37)]) rfl dX8_taken_66 rfl ?_
                obtain ⟨v5_68, ev5_68, h⟩ := nm_i h
                refine q_iinc cx (pc' := 71) 3 rfl ki_1 ev5_68 (by decide) (L' := [(5, .int v5_68), (4, .int x65), (2, .int p2), (3, .ref r22)]) rfl dX8_taken_68 rfl ?_
                refine q_goto cx dX8_taken_71 (tgt := 37) (by decide) ?_
                refine q_sub cx [2, 3, 1, 0] rfl ?_
                exact ih _ _ (hz37.1 _ h)
              · replace h := ip c52 h
                refine q_sub cx [1] rfl ?_
                exact hk37_0 () (hz37.2 _ h)
      refine q_sub cx [5, 2, 1, 0] rfl ?_
      exact key37 FU _ _ hL37
  · replace h := ip c6 h
    refine q_bipush cx (pc' := 11) kb_m2 dX8_taken_9 rfl ?_
    obtain rfl := o1_i h
    rw [hQ]
    exact q_iret cx dX8_taken_11

abbrev rm_X8_count : Room := { frames := 1, cells := 0, slots := 0, locals := 40 }
def fn_X8_count (M : QM) (ths : Nat) (p1 : Int32) : Option Int32 :=
  if p1 = 0 then
    gR M ths 8 0 fun r45 =>
    gI M r45 5 2 fun x48 =>
    some x48
  else if p1 = 1 then
    gI M ths 8 3 fun x53 =>
    some x53
  else if p1 = 2 then
    gR M ths 8 0 fun r58 =>
    gR M r58 5 4 fun r61 =>
    gI M r61 4 4 fun x64 =>
    some x64
  else if p1 = 3 then
    gR M ths 8 0 fun r69 =>
    gR M r69 5 5 fun r72 =>
    gI M r72 4 4 fun x75 =>
    some x75
  else if p1 = 4 then
    gR M ths 8 0 fun r80 =>
    gR M r80 5 6 fun r83 =>
    gI M r83 4 4 fun x86 =>
    some x86
  else if p1 = 5 then
    gR M ths 8 4 fun r91 =>
    gI M r91 3 1 fun x94 =>
    some x94
  else if p1 = 6 then
    gR M ths 8 5 fun r99 =>
    gI M r99 0 1 fun x102 =>
    some x102
  else 
    some (-2)
set_option maxRecDepth 100000 in
set_option maxHeartbeats 4000000 in
theorem ct_X8_count (Γ : GT) (l : Launch) (M : QM) (ths : Nat) (p1 : Int32) (ht0 : mt M ths = 8) (z : Int32) (h : fn_X8_count M ths p1 = some z) : CT Γ l yX8_count cX8_count 2 (some .int) rm_X8_count (.ref ths :: [.int p1]) M (some (.int z)) M := by
  refine ct_intro (own := RX8) (L := [(0, .ref ths), (1, .int p1)]) (by decide +kernel) rfl (Nat.le_of_ble_eq_true rfl) rfl ?_
  intro p e s m args below meth c Q hQ cx hnm
  unfold fn_X8_count at h
  refine q_iload_n cx (pc' := 1) 1 rfl dX8_count_0 rfl ?_
  rcases Decidable.em (p1 = 0) with c1_0 | c1_0
  · replace h := ip c1_0 h
    refine q_tabIn cx (off := 43) (tgt := 44) c1_0 dX8_count_1 (by decide) (by decide) ?_
    refine q_aload_n cx (pc' := 45) 0 rfl dX8_count_44 rfl ?_
    obtain ⟨ht45, r45, ex45, h⟩ := gR_i h
    refine q_gR cx (pc' := 48) 8 0 fl_X8_12 rfl ht45 ex45 dX8_count_45 rfl ?_
    obtain ⟨ht48, x48, ex48, h⟩ := gI_i h
    refine q_gI cx (pc' := 51) 5 2 fl_X8_73 rfl ht48 ex48 dX8_count_48 rfl ?_
    obtain rfl := o1_i h
    rw [hQ]
    exact q_iret cx dX8_count_51
  replace h := ine c1_0 h
  rcases Decidable.em (p1 = 1) with c1_1 | c1_1
  · replace h := ip c1_1 h
    refine q_tabIn cx (off := 51) (tgt := 52) c1_1 dX8_count_1 (by decide) (by decide) ?_
    refine q_aload_n cx (pc' := 53) 0 rfl dX8_count_52 rfl ?_
    obtain ⟨ht53, x53, ex53, h⟩ := gI_i h
    refine q_gI cx (pc' := 56) 8 3 fl_X8_152 rfl ht53 ex53 dX8_count_53 rfl ?_
    obtain rfl := o1_i h
    rw [hQ]
    exact q_iret cx dX8_count_56
  replace h := ine c1_1 h
  rcases Decidable.em (p1 = 2) with c1_2 | c1_2
  · replace h := ip c1_2 h
    refine q_tabIn cx (off := 56) (tgt := 57) c1_2 dX8_count_1 (by decide) (by decide) ?_
    refine q_aload_n cx (pc' := 58) 0 rfl dX8_count_57 rfl ?_
    obtain ⟨ht58, r58, ex58, h⟩ := gR_i h
    refine q_gR cx (pc' := 61) 8 0 fl_X8_12 rfl ht58 ex58 dX8_count_58 rfl ?_
    obtain ⟨ht61, r61, ex61, h⟩ := gR_i h
    refine q_gR cx (pc' := 64) 5 4 fl_X8_221 rfl ht61 ex61 dX8_count_61 rfl ?_
    obtain ⟨ht64, x64, ex64, h⟩ := gI_i h
    refine q_gI cx (pc' := 67) 4 4 fl_X8_235 rfl ht64 ex64 dX8_count_64 rfl ?_
    obtain rfl := o1_i h
    rw [hQ]
    exact q_iret cx dX8_count_67
  replace h := ine c1_2 h
  rcases Decidable.em (p1 = 3) with c1_3 | c1_3
  · replace h := ip c1_3 h
    refine q_tabIn cx (off := 67) (tgt := 68) c1_3 dX8_count_1 (by decide) (by decide) ?_
    refine q_aload_n cx (pc' := 69) 0 rfl dX8_count_68 rfl ?_
    obtain ⟨ht69, r69, ex69, h⟩ := gR_i h
    refine q_gR cx (pc' := 72) 8 0 fl_X8_12 rfl ht69 ex69 dX8_count_69 rfl ?_
    obtain ⟨ht72, r72, ex72, h⟩ := gR_i h
    refine q_gR cx (pc' := 75) 5 5 fl_X8_256 rfl ht72 ex72 dX8_count_72 rfl ?_
    obtain ⟨ht75, x75, ex75, h⟩ := gI_i h
    refine q_gI cx (pc' := 78) 4 4 fl_X8_235 rfl ht75 ex75 dX8_count_75 rfl ?_
    obtain rfl := o1_i h
    rw [hQ]
    exact q_iret cx dX8_count_78
  replace h := ine c1_3 h
  rcases Decidable.em (p1 = 4) with c1_4 | c1_4
  · replace h := ip c1_4 h
    refine q_tabIn cx (off := 78) (tgt := 79) c1_4 dX8_count_1 (by decide) (by decide) ?_
    refine q_aload_n cx (pc' := 80) 0 rfl dX8_count_79 rfl ?_
    obtain ⟨ht80, r80, ex80, h⟩ := gR_i h
    refine q_gR cx (pc' := 83) 8 0 fl_X8_12 rfl ht80 ex80 dX8_count_80 rfl ?_
    obtain ⟨ht83, r83, ex83, h⟩ := gR_i h
    refine q_gR cx (pc' := 86) 5 6 fl_X8_262 rfl ht83 ex83 dX8_count_83 rfl ?_
    obtain ⟨ht86, x86, ex86, h⟩ := gI_i h
    refine q_gI cx (pc' := 89) 4 4 fl_X8_235 rfl ht86 ex86 dX8_count_86 rfl ?_
    obtain rfl := o1_i h
    rw [hQ]
    exact q_iret cx dX8_count_89
  replace h := ine c1_4 h
  rcases Decidable.em (p1 = 5) with c1_5 | c1_5
  · replace h := ip c1_5 h
    refine q_tabIn cx (off := 89) (tgt := 90) c1_5 dX8_count_1 (by decide) (by decide) ?_
    refine q_aload_n cx (pc' := 91) 0 rfl dX8_count_90 rfl ?_
    obtain ⟨ht91, r91, ex91, h⟩ := gR_i h
    refine q_gR cx (pc' := 94) 8 4 fl_X8_24 rfl ht91 ex91 dX8_count_91 rfl ?_
    obtain ⟨ht94, x94, ex94, h⟩ := gI_i h
    refine q_gI cx (pc' := 97) 3 1 fl_X8_149 rfl ht94 ex94 dX8_count_94 rfl ?_
    obtain rfl := o1_i h
    rw [hQ]
    exact q_iret cx dX8_count_97
  replace h := ine c1_5 h
  rcases Decidable.em (p1 = 6) with c1_6 | c1_6
  · replace h := ip c1_6 h
    refine q_tabIn cx (off := 97) (tgt := 98) c1_6 dX8_count_1 (by decide) (by decide) ?_
    refine q_aload_n cx (pc' := 99) 0 rfl dX8_count_98 rfl ?_
    obtain ⟨ht99, r99, ex99, h⟩ := gR_i h
    refine q_gR cx (pc' := 102) 8 5 fl_X8_31 rfl ht99 ex99 dX8_count_99 rfl ?_
    obtain ⟨ht102, x102, ex102, h⟩ := gI_i h
    refine q_gI cx (pc' := 105) 0 1 fl_X8_288 rfl ht102 ex102 dX8_count_102 rfl ?_
    obtain rfl := o1_i h
    rw [hQ]
    exact q_iret cx dX8_count_105
  replace h := ine c1_6 h
  have nt1_0 := lv_neT c1_0 (a := 0) rfl
  have nt1_1 := lv_neT c1_1 (a := 1) rfl
  have nt1_2 := lv_neT c1_2 (a := 2) rfl
  have nt1_3 := lv_neT c1_3 (a := 3) rfl
  have nt1_4 := lv_neT c1_4 (a := 4) rfl
  have nt1_5 := lv_neT c1_5 (a := 5) rfl
  have nt1_6 := lv_neT c1_6 (a := 6) rfl
  refine q_tabOut cx (tgt := 106) dX8_count_1 (by omega) (by decide) ?_
  refine q_bipush cx (pc' := 108) kb_m2 dX8_count_106 rfl ?_
  obtain rfl := o1_i h
  rw [hQ]
  exact q_iret cx dX8_count_108

abbrev rm_X8_tape : Room := { frames := 2, cells := 0, slots := 0, locals := 63 }
def fn_X8_tape (M : QM) (ths : Nat) (p1 : Int32) (p2 : Int32) (p3 : Int32) : Option (Int32 × QM) :=
  if (fn_X8_isBelow p1 6) = 0 then
    some ((-1), M)
  else
    if p2 = (-1) then
      gR M ths 8 6 fun r17 =>
      aR M 25 r17 p1 fun r21 =>
      ck M r21 6 <|
      bnd (fn_X6_become M r21 p2 0) fun M24 =>
      some (1, M24)
    else
      if (fn_X8_isBelow p2 5) = 0 then
        some ((-2), M)
      else
        if p3 ≤ 60 then
          if 0 ≤ p3 then
            gR M ths 8 6 fun r54 =>
            aR M 25 r54 p1 fun r58 =>
            ck M r58 6 <|
            bnd (fn_X6_become M r58 p2 p3) fun M61 =>
            some (1, M61)
          else
            some ((-14), M)
        else
          some ((-2), M)
set_option maxRecDepth 100000 in
set_option maxHeartbeats 4000000 in
theorem ct_X8_tape (Γ : GT) (l : Launch) (M : QM) (ths : Nat) (p1 : Int32) (p2 : Int32) (p3 : Int32) (ht0 : mt M ths = 8) (z : Int32) (M' : QM) (h : fn_X8_tape M ths p1 p2 p3 = some (z, M')) : CT Γ l yX8_tape cX8_tape 4 (some .int) rm_X8_tape (.ref ths :: [.int p1, .int p2, .int p3]) M (some (.int z)) M' := by
  refine ct_intro (own := RX8) (L := [(0, .ref ths), (1, .int p1), (2, .int p2), (3, .int p3)]) (by decide +kernel) rfl (Nat.le_of_ble_eq_true rfl) rfl ?_
  intro p e s m args below meth c Q hQ cx hnm
  unfold fn_X8_tape at h
  refine q_iload_n cx (pc' := 1) 1 rfl dX8_tape_0 rfl ?_
  refine q_bipush cx (pc' := 3) kb_6 dX8_tape_1 rfl ?_
  refine q_callS cx (pc' := 6) (S := []) (S1 := [.int (fn_X8_isBelow p1 6)]) (kc' := 0) (ks' := 0) (ct_X8_isBelow Γ l M p1 6) lki_X8_isBelow lkv_X8_isBelow lkc_X8_69 rfl rfl (Nat.le_of_ble_eq_true rfl) ⟨(Nat.le_of_ble_eq_true rfl), (Nat.le_of_ble_eq_true rfl)⟩ ⟨(Nat.le_of_ble_eq_true rfl), (Nat.le_of_ble_eq_true rfl)⟩ dX8_tape_3 rfl rfl rfl ?_
  refine q_if_ne cx (pc' := 9) (tgt := 11) dX8_tape_6 (by decide) rfl (fun c6 => ?_) (fun c6 => ?_)
  · replace h := ine c6 h
    refine q_iload_n cx (pc' := 12) 2 rfl dX8_tape_11 rfl ?_
    refine q_iconst cx (pc' := 13) ki_m1 dX8_tape_12 rfl ?_
    refine q_icmp_ne cx (pc' := 16) (tgt := 29) dX8_tape_13 (by decide) rfl (fun c13 => ?_) (fun c13 => ?_)
    · replace h := ine c13 h
      refine q_iload_n cx (pc' := 30) 2 rfl dX8_tape_29 rfl ?_
      refine q_iconst cx (pc' := 31) ki_5 dX8_tape_30 rfl ?_
      refine q_callS cx (pc' := 34) (S := []) (S1 := [.int (fn_X8_isBelow p2 5)]) (kc' := 0) (ks' := 0) (ct_X8_isBelow Γ l M p2 5) lki_X8_isBelow lkv_X8_isBelow lkc_X8_69 rfl rfl (Nat.le_of_ble_eq_true rfl) ⟨(Nat.le_of_ble_eq_true rfl), (Nat.le_of_ble_eq_true rfl)⟩ ⟨(Nat.le_of_ble_eq_true rfl), (Nat.le_of_ble_eq_true rfl)⟩ dX8_tape_31 rfl rfl rfl ?_
      refine q_if_eq cx (pc' := 37) (tgt := 43) dX8_tape_34 (by decide) rfl (fun c34 => ?_) (fun c34 => ?_)
      · replace h := ip c34 h
        refine q_bipush cx (pc' := 45) kb_m2 dX8_tape_43 rfl ?_
        obtain ⟨rfl, rfl⟩ := o2_i h
        rw [hQ]
        exact q_iret cx dX8_tape_45
      · replace h := ine c34 h
        refine q_iload_n cx (pc' := 38) 3 rfl dX8_tape_37 rfl ?_
        refine q_bipush cx (pc' := 40) kb_60 dX8_tape_38 rfl ?_
        refine q_icmp_le cx (pc' := 43) (tgt := 46) dX8_tape_40 (by decide) rfl (fun c40 => ?_) (fun c40 => ?_)
        · replace h := ip c40 h
          refine q_iload_n cx (pc' := 47) 3 rfl dX8_tape_46 rfl ?_
          refine q_if_ge cx (pc' := 50) (tgt := 53) dX8_tape_47 (by decide) rfl (fun c47 => ?_) (fun c47 => ?_)
          · replace h := ip c47 h
            refine q_aload_n cx (pc' := 54) 0 rfl dX8_tape_53 rfl ?_
            obtain ⟨ht54, r54, ex54, h⟩ := gR_i h
            refine q_gR cx (pc' := 57) 8 6 fl_X8_37 rfl ht54 ex54 dX8_tape_54 rfl ?_
            refine q_iload_n cx (pc' := 58) 1 rfl dX8_tape_57 rfl ?_
            obtain ⟨ht58, hi58, r58, ex58, h⟩ := aR_i h
            refine q_aald5 cx (pc' := 59) ht58 hi58 ex58 dX8_tape_58 rfl ?_
            refine q_iload_n cx (pc' := 60) 2 rfl dX8_tape_59 rfl ?_
            refine q_iload_n cx (pc' := 61) 3 rfl dX8_tape_60 rfl ?_
            obtain ⟨hk61, h⟩ := ck_i h
            obtain ⟨M61, hc61, h⟩ := bnd_i h
            refine q_callV cx (pc' := 64) (S := []) (S1 := []) (kc' := 0) (ks' := 0) 6 (ct_X6_become Γ l M r58 p2 p3 hk61 _ hc61) lki_X6_become lkv_X6_become lkc_X8_306 hk61 (r := (RX6, TX6, 3)) ⟨rfl, by decide, rfl⟩ rfl rfl (Nat.le_of_ble_eq_true rfl) ⟨(Nat.le_of_ble_eq_true rfl), (Nat.le_of_ble_eq_true rfl)⟩ ⟨(Nat.le_of_ble_eq_true rfl), (Nat.le_of_ble_eq_true rfl)⟩ dX8_tape_61 rfl rfl rfl ?_
            refine q_iconst cx (pc' := 65) ki_1 dX8_tape_64 rfl ?_
            obtain ⟨rfl, rfl⟩ := o2_i h
            rw [hQ]
            exact q_iret cx dX8_tape_65
          · replace h := ine c47 h
            refine q_bipush cx (pc' := 52) kb_m14 dX8_tape_50 rfl ?_
            obtain ⟨rfl, rfl⟩ := o2_i h
            rw [hQ]
            exact q_iret cx dX8_tape_52
        · replace h := ine c40 h
          refine q_bipush cx (pc' := 45) kb_m2 dX8_tape_43 rfl ?_
          obtain ⟨rfl, rfl⟩ := o2_i h
          rw [hQ]
          exact q_iret cx dX8_tape_45
    · replace h := ip c13 h
      refine q_aload_n cx (pc' := 17) 0 rfl dX8_tape_16 rfl ?_
      obtain ⟨ht17, r17, ex17, h⟩ := gR_i h
      refine q_gR cx (pc' := 20) 8 6 fl_X8_37 rfl ht17 ex17 dX8_tape_17 rfl ?_
      refine q_iload_n cx (pc' := 21) 1 rfl dX8_tape_20 rfl ?_
      obtain ⟨ht21, hi21, r21, ex21, h⟩ := aR_i h
      refine q_aald5 cx (pc' := 22) ht21 hi21 ex21 dX8_tape_21 rfl ?_
      refine q_iload_n cx (pc' := 23) 2 rfl dX8_tape_22 rfl ?_
      refine q_iconst cx (pc' := 24) ki_0 dX8_tape_23 rfl ?_
      obtain ⟨hk24, h⟩ := ck_i h
      obtain ⟨M24, hc24, h⟩ := bnd_i h
      refine q_callV cx (pc' := 27) (S := []) (S1 := []) (kc' := 0) (ks' := 0) 6 (ct_X6_become Γ l M r21 p2 0 hk24 _ hc24) lki_X6_become lkv_X6_become lkc_X8_306 hk24 (r := (RX6, TX6, 3)) ⟨rfl, by decide, rfl⟩ rfl rfl (Nat.le_of_ble_eq_true rfl) ⟨(Nat.le_of_ble_eq_true rfl), (Nat.le_of_ble_eq_true rfl)⟩ ⟨(Nat.le_of_ble_eq_true rfl), (Nat.le_of_ble_eq_true rfl)⟩ dX8_tape_24 rfl rfl rfl ?_
      refine q_iconst cx (pc' := 28) ki_1 dX8_tape_27 rfl ?_
      obtain ⟨rfl, rfl⟩ := o2_i h
      rw [hQ]
      exact q_iret cx dX8_tape_28
  · replace h := ip c6 h
    refine q_iconst cx (pc' := 10) ki_m1 dX8_tape_9 rfl ?_
    obtain ⟨rfl, rfl⟩ := o2_i h
    rw [hQ]
    exact q_iret cx dX8_tape_10

abbrev rm_X8_item : Room := { frames := 2, cells := 0, slots := 0, locals := 62 }
def fn_X8_item (M : QM) (ths : Nat) (p1 : Int32) (p2 : Int32) (p3 : Int64) : Option (Int32 × QM) :=
  if (fn_X8_isBelow p1 6) = 0 then
    some ((-1), M)
  else
    gR M ths 8 6 fun r12 =>
    aR M 25 r12 p1 fun r16 =>
    ck M r16 6 <|
    bnd (fn_X6_isNothing M r16) fun c21 =>
    if c21 = 0 then
      gI M r16 6 1 fun x33 =>
      if (fn_X8_isBelow p2 x33) = 0 then
        some ((-13), M)
      else
        gR M r16 6 2 fun r47 =>
        ck M r16 6 <|
        bnd (fn_X6_fitted M r16 p3) fun c54 =>
        wJ M r47 p2 c54 fun M57 =>
        some (1, M57)
    else
      some ((-11), M)
set_option maxRecDepth 100000 in
set_option maxHeartbeats 4000000 in
theorem ct_X8_item (Γ : GT) (l : Launch) (M : QM) (ths : Nat) (p1 : Int32) (p2 : Int32) (p3 : Int64) (ht0 : mt M ths = 8) (z : Int32) (M' : QM) (h : fn_X8_item M ths p1 p2 p3 = some (z, M')) : CT Γ l yX8_item cX8_item 6 (some .int) rm_X8_item (.ref ths :: [.int p1, .int p2, .long p3]) M (some (.int z)) M' := by
  refine ct_intro (own := RX8) (L := [(0, .ref ths), (1, .int p1), (2, .int p2), (3, .long p3)]) (by decide +kernel) rfl (Nat.le_of_ble_eq_true rfl) rfl ?_
  intro p e s m args below meth c Q hQ cx hnm
  unfold fn_X8_item at h
  refine q_iload_n cx (pc' := 1) 1 rfl dX8_item_0 rfl ?_
  refine q_bipush cx (pc' := 3) kb_6 dX8_item_1 rfl ?_
  refine q_callS cx (pc' := 6) (S := []) (S1 := [.int (fn_X8_isBelow p1 6)]) (kc' := 0) (ks' := 0) (ct_X8_isBelow Γ l M p1 6) lki_X8_isBelow lkv_X8_isBelow lkc_X8_69 rfl rfl (Nat.le_of_ble_eq_true rfl) ⟨(Nat.le_of_ble_eq_true rfl), (Nat.le_of_ble_eq_true rfl)⟩ ⟨(Nat.le_of_ble_eq_true rfl), (Nat.le_of_ble_eq_true rfl)⟩ dX8_item_3 rfl rfl rfl ?_
  refine q_if_ne cx (pc' := 9) (tgt := 11) dX8_item_6 (by decide) rfl (fun c6 => ?_) (fun c6 => ?_)
  · replace h := ine c6 h
    refine q_aload_n cx (pc' := 12) 0 rfl dX8_item_11 rfl ?_
    obtain ⟨ht12, r12, ex12, h⟩ := gR_i h
    refine q_gR cx (pc' := 15) 8 6 fl_X8_37 rfl ht12 ex12 dX8_item_12 rfl ?_
    refine q_iload_n cx (pc' := 16) 1 rfl dX8_item_15 rfl ?_
    obtain ⟨ht16, hi16, r16, ex16, h⟩ := aR_i h
    refine q_aald5 cx (pc' := 17) ht16 hi16 ex16 dX8_item_16 rfl ?_
    refine q_astore cx (pc' := 19) rfl (by decide) (L' := [(5, .ref r16), (0, .ref ths), (1, .int p1), (2, .int p2), (3, .long p3)]) rfl dX8_item_17 rfl ?_
    refine q_aload cx (pc' := 21) 0 rfl dX8_item_19 rfl ?_
    obtain ⟨hk21, h⟩ := ck_i h
    obtain ⟨c21, hc21, h⟩ := bnd_i h
    refine q_callV cx (pc' := 24) (S := []) (S1 := [.int c21]) (kc' := 0) (ks' := 0) 6 (ct_X6_isNothing Γ l M r16 hk21 _ hc21) lki_X6_isNothing lkv_X6_isNothing lkc_X8_265 hk21 (r := (RX6, TX6, 3)) ⟨rfl, by decide, rfl⟩ rfl rfl (Nat.le_of_ble_eq_true rfl) ⟨(Nat.le_of_ble_eq_true rfl), (Nat.le_of_ble_eq_true rfl)⟩ ⟨(Nat.le_of_ble_eq_true rfl), (Nat.le_of_ble_eq_true rfl)⟩ dX8_item_21 rfl rfl rfl ?_
    refine q_if_eq cx (pc' := 27) (tgt := 30) dX8_item_24 (by decide) rfl (fun c24 => ?_) (fun c24 => ?_)
    · replace h := ip c24 h
      refine q_iload_n cx (pc' := 31) 3 rfl dX8_item_30 rfl ?_
      refine q_aload cx (pc' := 33) 0 rfl dX8_item_31 rfl ?_
      obtain ⟨ht33, x33, ex33, h⟩ := gI_i h
      refine q_gI cx (pc' := 36) 6 1 fl_X8_271 rfl ht33 ex33 dX8_item_33 rfl ?_
      refine q_callS cx (pc' := 39) (S := []) (S1 := [.int (fn_X8_isBelow p2 x33)]) (kc' := 0) (ks' := 0) (ct_X8_isBelow Γ l M p2 x33) lki_X8_isBelow lkv_X8_isBelow lkc_X8_69 rfl rfl (Nat.le_of_ble_eq_true rfl) ⟨(Nat.le_of_ble_eq_true rfl), (Nat.le_of_ble_eq_true rfl)⟩ ⟨(Nat.le_of_ble_eq_true rfl), (Nat.le_of_ble_eq_true rfl)⟩ dX8_item_36 rfl rfl rfl ?_
      refine q_if_ne cx (pc' := 42) (tgt := 45) dX8_item_39 (by decide) rfl (fun c39 => ?_) (fun c39 => ?_)
      · replace h := ine c39 h
        refine q_aload cx (pc' := 47) 0 rfl dX8_item_45 rfl ?_
        obtain ⟨ht47, r47, ex47, h⟩ := gR_i h
        refine q_gR cx (pc' := 50) 6 2 fl_X8_277 rfl ht47 ex47 dX8_item_47 rfl ?_
        refine q_iload_n cx (pc' := 51) 3 rfl dX8_item_50 rfl ?_
        refine q_aload cx (pc' := 53) 0 rfl dX8_item_51 rfl ?_
        refine q_lload_n cx (pc' := 54) 4 rfl dX8_item_53 rfl ?_
        obtain ⟨hk54, h⟩ := ck_i h
        obtain ⟨c54, hc54, h⟩ := bnd_i h
        refine q_callV cx (pc' := 57) (S := [.int p2, .ref r47]) (S1 := [.long c54, .int p2, .ref r47]) (kc' := 0) (ks' := 0) 6 (ct_X6_fitted Γ l M r16 p3 hk54 _ hc54) lki_X6_fitted lkv_X6_fitted lkc_X8_308 hk54 (r := (RX6, TX6, 3)) ⟨rfl, by decide, rfl⟩ rfl rfl (Nat.le_of_ble_eq_true rfl) ⟨(Nat.le_of_ble_eq_true rfl), (Nat.le_of_ble_eq_true rfl)⟩ ⟨(Nat.le_of_ble_eq_true rfl), (Nat.le_of_ble_eq_true rfl)⟩ dX8_item_54 rfl rfl rfl ?_
        obtain ⟨ht57, hi57, M57, eM57, h⟩ := wJ_i h
        refine q_last cx (pc' := 58) ht57 hi57 eM57 dX8_item_57 rfl ?_
        refine q_iconst cx (pc' := 59) ki_1 dX8_item_58 rfl ?_
        obtain ⟨rfl, rfl⟩ := o2_i h
        rw [hQ]
        exact q_iret cx dX8_item_59
      · replace h := ip c39 h
        refine q_bipush cx (pc' := 44) kb_m13 dX8_item_42 rfl ?_
        obtain ⟨rfl, rfl⟩ := o2_i h
        rw [hQ]
        exact q_iret cx dX8_item_44
    · replace h := ine c24 h
      refine q_bipush cx (pc' := 29) kb_m11 dX8_item_27 rfl ?_
      obtain ⟨rfl, rfl⟩ := o2_i h
      rw [hQ]
      exact q_iret cx dX8_item_29
  · replace h := ip c6 h
    refine q_iconst cx (pc' := 10) ki_m1 dX8_item_9 rfl ?_
    obtain ⟨rfl, rfl⟩ := o2_i h
    rw [hQ]
    exact q_iret cx dX8_item_10

abbrev rm_X8_read : Room := { frames := 2, cells := 0, slots := 0, locals := 61 }
def fn_X8_read (M : QM) (ths : Nat) (p1 : Int32) (p2 : Int32) : Option Int64 :=
  if (fn_X8_isBelow p1 6) = 0 then
    some (-9223372036854775808)
  else
    gR M ths 8 6 fun r11 =>
    aR M 25 r11 p1 fun r15 =>
    gI M r15 6 1 fun x16 =>
    if (fn_X8_isBelow p2 x16) = 0 then
      some (-9223372036854775808)
    else
      gR M ths 8 6 fun r30 =>
      aR M 25 r30 p1 fun r34 =>
      gR M r34 6 2 fun r35 =>
      aJ M r35 p2 fun x39 =>
      some x39
set_option maxRecDepth 100000 in
set_option maxHeartbeats 4000000 in
theorem ct_X8_read (Γ : GT) (l : Launch) (M : QM) (ths : Nat) (p1 : Int32) (p2 : Int32) (ht0 : mt M ths = 8) (z : Int64) (h : fn_X8_read M ths p1 p2 = some z) : CT Γ l yX8_read cX8_read 3 (some .long) rm_X8_read (.ref ths :: [.int p1, .int p2]) M (some (.long z)) M := by
  refine ct_intro (own := RX8) (L := [(0, .ref ths), (1, .int p1), (2, .int p2)]) (by decide +kernel) rfl (Nat.le_of_ble_eq_true rfl) rfl ?_
  intro p e s m args below meth c Q hQ cx hnm
  unfold fn_X8_read at h
  refine q_iload_n cx (pc' := 1) 1 rfl dX8_read_0 rfl ?_
  refine q_bipush cx (pc' := 3) kb_6 dX8_read_1 rfl ?_
  refine q_callS cx (pc' := 6) (S := []) (S1 := [.int (fn_X8_isBelow p1 6)]) (kc' := 0) (ks' := 0) (ct_X8_isBelow Γ l M p1 6) lki_X8_isBelow lkv_X8_isBelow lkc_X8_69 rfl rfl (Nat.le_of_ble_eq_true rfl) ⟨(Nat.le_of_ble_eq_true rfl), (Nat.le_of_ble_eq_true rfl)⟩ ⟨(Nat.le_of_ble_eq_true rfl), (Nat.le_of_ble_eq_true rfl)⟩ dX8_read_3 rfl rfl rfl ?_
  refine q_if_eq cx (pc' := 9) (tgt := 25) dX8_read_6 (by decide) rfl (fun c6 => ?_) (fun c6 => ?_)
  · replace h := ip c6 h
    refine q_ldc2 cx (pc' := 28) aw_99 dX8_read_25 rfl ?_
    obtain rfl := o1_i h
    rw [hQ]
    exact q_lret cx dX8_read_28
  · replace h := ine c6 h
    refine q_iload_n cx (pc' := 10) 2 rfl dX8_read_9 rfl ?_
    refine q_aload_n cx (pc' := 11) 0 rfl dX8_read_10 rfl ?_
    obtain ⟨ht11, r11, ex11, h⟩ := gR_i h
    refine q_gR cx (pc' := 14) 8 6 fl_X8_37 rfl ht11 ex11 dX8_read_11 rfl ?_
    refine q_iload_n cx (pc' := 15) 1 rfl dX8_read_14 rfl ?_
    obtain ⟨ht15, hi15, r15, ex15, h⟩ := aR_i h
    refine q_aald5 cx (pc' := 16) ht15 hi15 ex15 dX8_read_15 rfl ?_
    obtain ⟨ht16, x16, ex16, h⟩ := gI_i h
    refine q_gI cx (pc' := 19) 6 1 fl_X8_271 rfl ht16 ex16 dX8_read_16 rfl ?_
    refine q_callS cx (pc' := 22) (S := []) (S1 := [.int (fn_X8_isBelow p2 x16)]) (kc' := 0) (ks' := 0) (ct_X8_isBelow Γ l M p2 x16) lki_X8_isBelow lkv_X8_isBelow lkc_X8_69 rfl rfl (Nat.le_of_ble_eq_true rfl) ⟨(Nat.le_of_ble_eq_true rfl), (Nat.le_of_ble_eq_true rfl)⟩ ⟨(Nat.le_of_ble_eq_true rfl), (Nat.le_of_ble_eq_true rfl)⟩ dX8_read_19 rfl rfl rfl ?_
    refine q_if_ne cx (pc' := 25) (tgt := 29) dX8_read_22 (by decide) rfl (fun c22 => ?_) (fun c22 => ?_)
    · replace h := ine c22 h
      refine q_aload_n cx (pc' := 30) 0 rfl dX8_read_29 rfl ?_
      obtain ⟨ht30, r30, ex30, h⟩ := gR_i h
      refine q_gR cx (pc' := 33) 8 6 fl_X8_37 rfl ht30 ex30 dX8_read_30 rfl ?_
      refine q_iload_n cx (pc' := 34) 1 rfl dX8_read_33 rfl ?_
      obtain ⟨ht34, hi34, r34, ex34, h⟩ := aR_i h
      refine q_aald5 cx (pc' := 35) ht34 hi34 ex34 dX8_read_34 rfl ?_
      obtain ⟨ht35, r35, ex35, h⟩ := gR_i h
      refine q_gR cx (pc' := 38) 6 2 fl_X8_277 rfl ht35 ex35 dX8_read_35 rfl ?_
      refine q_iload_n cx (pc' := 39) 2 rfl dX8_read_38 rfl ?_
      obtain ⟨ht39, hi39, x39, ex39, h⟩ := aJ_i h
      refine q_lald cx (pc' := 40) ht39 hi39 ex39 dX8_read_39 rfl ?_
      obtain rfl := o1_i h
      rw [hQ]
      exact q_lret cx dX8_read_40
    · replace h := ip c22 h
      refine q_ldc2 cx (pc' := 28) aw_99 dX8_read_25 rfl ?_
      obtain rfl := o1_i h
      rw [hQ]
      exact q_lret cx dX8_read_28

abbrev rm_X8_shift : Room := { frames := 2, cells := 0, slots := 0, locals := 80 }
def fn_X8_shift (M : QM) (ths : Nat) (p1 : Int32) (p2 : Int32) (p3 : Int32) (p4 : Int32) (p5 : Int32) : Option (Int32 × QM) :=
  if (fn_X8_isBelow p1 6) = 0 then
    some ((-1), M)
  else
    if (fn_X8_isBelow p3 6) = 0 then
      some ((-1), M)
    else
      gR M ths 8 6 fun r21 =>
      aR M 25 r21 p1 fun r25 =>
      gR M ths 8 6 fun r29 =>
      aR M 25 r29 p3 fun r33 =>
      ck M r25 6 <|
      bnd (fn_X6_isNothing M r25) fun c38 =>
      if c38 = 0 then
        ck M r33 6 <|
        bnd (fn_X6_isNothing M r33) fun c46 =>
        if c46 = 0 then
          gI M r25 6 0 fun x57 =>
          gI M r33 6 0 fun x62 =>
          if x57 = x62 then
            if p5 < 0 then
              some ((-13), M)
            else
              if p2 < 0 then
                some ((-13), M)
              else
                if p4 < 0 then
                  some ((-13), M)
                else
                  gI M r25 6 1 fun x89 =>
                  if x89 < p5 then
                    some ((-13), M)
                  else
                    gI M r25 6 1 fun x98 =>
                    if (x98 - p5) < p2 then
                      some ((-13), M)
                    else
                      gI M r33 6 1 fun x111 =>
                      if x111 < p5 then
                        some ((-13), M)
                      else
                        gI M r33 6 1 fun x121 =>
                        if p4 ≤ (x121 - p5) then
                          gR M r25 6 2 fun r135 =>
                          gR M r33 6 2 fun r141 =>
                          cpJ M r135 r141 p2 p4 p5 fun M148 =>
                          some (p5, M148)
                        else
                          some ((-13), M)
          else
            some ((-12), M)
        else
          some ((-11), M)
      else
        some ((-11), M)
set_option maxRecDepth 100000 in
set_option maxHeartbeats 4000000 in
theorem ct_X8_shift (Γ : GT) (l : Launch) (M : QM) (ths : Nat) (p1 : Int32) (p2 : Int32) (p3 : Int32) (p4 : Int32) (p5 : Int32) (ht0 : mt M ths = 8) (z : Int32) (M' : QM) (h : fn_X8_shift M ths p1 p2 p3 p4 p5 = some (z, M')) : CT Γ l yX8_shift cX8_shift 8 (some .int) rm_X8_shift (.ref ths :: [.int p1, .int p2, .int p3, .int p4, .int p5]) M (some (.int z)) M' := by
  refine ct_intro (own := RX8) (L := [(0, .ref ths), (1, .int p1), (2, .int p2), (3, .int p3), (4, .int p4), (5, .int p5)]) (by decide +kernel) rfl (Nat.le_of_ble_eq_true rfl) rfl ?_
  intro p e s m args below meth c Q hQ cx hnm
  unfold fn_X8_shift at h
  refine q_iload_n cx (pc' := 1) 1 rfl dX8_shift_0 rfl ?_
  refine q_bipush cx (pc' := 3) kb_6 dX8_shift_1 rfl ?_
  refine q_callS cx (pc' := 6) (S := []) (S1 := [.int (fn_X8_isBelow p1 6)]) (kc' := 0) (ks' := 0) (ct_X8_isBelow Γ l M p1 6) lki_X8_isBelow lkv_X8_isBelow lkc_X8_69 rfl rfl (Nat.le_of_ble_eq_true rfl) ⟨(Nat.le_of_ble_eq_true rfl), (Nat.le_of_ble_eq_true rfl)⟩ ⟨(Nat.le_of_ble_eq_true rfl), (Nat.le_of_ble_eq_true rfl)⟩ dX8_shift_3 rfl rfl rfl ?_
  refine q_if_eq cx (pc' := 9) (tgt := 18) dX8_shift_6 (by decide) rfl (fun c6 => ?_) (fun c6 => ?_)
  · replace h := ip c6 h
    refine q_iconst cx (pc' := 19) ki_m1 dX8_shift_18 rfl ?_
    obtain ⟨rfl, rfl⟩ := o2_i h
    rw [hQ]
    exact q_iret cx dX8_shift_19
  · replace h := ine c6 h
    refine q_iload_n cx (pc' := 10) 3 rfl dX8_shift_9 rfl ?_
    refine q_bipush cx (pc' := 12) kb_6 dX8_shift_10 rfl ?_
    refine q_callS cx (pc' := 15) (S := []) (S1 := [.int (fn_X8_isBelow p3 6)]) (kc' := 0) (ks' := 0) (ct_X8_isBelow Γ l M p3 6) lki_X8_isBelow lkv_X8_isBelow lkc_X8_69 rfl rfl (Nat.le_of_ble_eq_true rfl) ⟨(Nat.le_of_ble_eq_true rfl), (Nat.le_of_ble_eq_true rfl)⟩ ⟨(Nat.le_of_ble_eq_true rfl), (Nat.le_of_ble_eq_true rfl)⟩ dX8_shift_12 rfl rfl rfl ?_
    refine q_if_ne cx (pc' := 18) (tgt := 20) dX8_shift_15 (by decide) rfl (fun c15 => ?_) (fun c15 => ?_)
    · replace h := ine c15 h
      refine q_aload_n cx (pc' := 21) 0 rfl dX8_shift_20 rfl ?_
      obtain ⟨ht21, r21, ex21, h⟩ := gR_i h
      refine q_gR cx (pc' := 24) 8 6 fl_X8_37 rfl ht21 ex21 dX8_shift_21 rfl ?_
      refine q_iload_n cx (pc' := 25) 1 rfl dX8_shift_24 rfl ?_
      obtain ⟨ht25, hi25, r25, ex25, h⟩ := aR_i h
      refine q_aald5 cx (pc' := 26) ht25 hi25 ex25 dX8_shift_25 rfl ?_
      refine q_astore cx (pc' := 28) rfl (by decide) (L' := [(6, .ref r25), (0, .ref ths), (1, .int p1), (2, .int p2), (3, .int p3), (4, .int p4), (5, .int p5)]) rfl dX8_shift_26 rfl ?_
      refine q_aload_n cx (pc' := 29) 1 rfl dX8_shift_28 rfl ?_
      obtain ⟨ht29, r29, ex29, h⟩ := gR_i h
      refine q_gR cx (pc' := 32) 8 6 fl_X8_37 rfl ht29 ex29 dX8_shift_29 rfl ?_
      refine q_iload_n cx (pc' := 33) 4 rfl dX8_shift_32 rfl ?_
      obtain ⟨ht33, hi33, r33, ex33, h⟩ := aR_i h
      refine q_aald5 cx (pc' := 34) ht33 hi33 ex33 dX8_shift_33 rfl ?_
      refine q_astore cx (pc' := 36) rfl (by decide) (L' := [(7, .ref r33), (6, .ref r25), (0, .ref ths), (1, .int p1), (2, .int p2), (3, .int p3), (4, .int p4), (5, .int p5)]) rfl dX8_shift_34 rfl ?_
      refine q_aload cx (pc' := 38) 1 rfl dX8_shift_36 rfl ?_
      obtain ⟨hk38, h⟩ := ck_i h
      obtain ⟨c38, hc38, h⟩ := bnd_i h
      refine q_callV cx (pc' := 41) (S := []) (S1 := [.int c38]) (kc' := 0) (ks' := 0) 6 (ct_X6_isNothing Γ l M r25 hk38 _ hc38) lki_X6_isNothing lkv_X6_isNothing lkc_X8_265 hk38 (r := (RX6, TX6, 3)) ⟨rfl, by decide, rfl⟩ rfl rfl (Nat.le_of_ble_eq_true rfl) ⟨(Nat.le_of_ble_eq_true rfl), (Nat.le_of_ble_eq_true rfl)⟩ ⟨(Nat.le_of_ble_eq_true rfl), (Nat.le_of_ble_eq_true rfl)⟩ dX8_shift_38 rfl rfl rfl ?_
      refine q_if_ne cx (pc' := 44) (tgt := 52) dX8_shift_41 (by decide) rfl (fun c41 => ?_) (fun c41 => ?_)
      · replace h := ine c41 h
        refine q_bipush cx (pc' := 54) kb_m11 dX8_shift_52 rfl ?_
        obtain ⟨rfl, rfl⟩ := o2_i h
        rw [hQ]
        exact q_iret cx dX8_shift_54
      · replace h := ip c41 h
        refine q_aload cx (pc' := 46) 0 rfl dX8_shift_44 rfl ?_
        obtain ⟨hk46, h⟩ := ck_i h
        obtain ⟨c46, hc46, h⟩ := bnd_i h
        refine q_callV cx (pc' := 49) (S := []) (S1 := [.int c46]) (kc' := 0) (ks' := 0) 6 (ct_X6_isNothing Γ l M r33 hk46 _ hc46) lki_X6_isNothing lkv_X6_isNothing lkc_X8_265 hk46 (r := (RX6, TX6, 3)) ⟨rfl, by decide, rfl⟩ rfl rfl (Nat.le_of_ble_eq_true rfl) ⟨(Nat.le_of_ble_eq_true rfl), (Nat.le_of_ble_eq_true rfl)⟩ ⟨(Nat.le_of_ble_eq_true rfl), (Nat.le_of_ble_eq_true rfl)⟩ dX8_shift_46 rfl rfl rfl ?_
        refine q_if_eq cx (pc' := 52) (tgt := 55) dX8_shift_49 (by decide) rfl (fun c49 => ?_) (fun c49 => ?_)
        · replace h := ip c49 h
          refine q_aload cx (pc' := 57) 1 rfl dX8_shift_55 rfl ?_
          obtain ⟨ht57, x57, ex57, h⟩ := gI_i h
          refine q_gI cx (pc' := 60) 6 0 fl_X8_268 rfl ht57 ex57 dX8_shift_57 rfl ?_
          refine q_aload cx (pc' := 62) 0 rfl dX8_shift_60 rfl ?_
          obtain ⟨ht62, x62, ex62, h⟩ := gI_i h
          refine q_gI cx (pc' := 65) 6 0 fl_X8_268 rfl ht62 ex62 dX8_shift_62 rfl ?_
          refine q_icmp_eq cx (pc' := 68) (tgt := 71) dX8_shift_65 (by decide) rfl (fun c65 => ?_) (fun c65 => ?_)
          · replace h := ip c65 h
            refine q_iload cx (pc' := 73) 7 rfl dX8_shift_71 rfl ?_
            refine q_if_lt cx (pc' := 76) (tgt := 130) dX8_shift_73 (by decide) rfl (fun c73 => ?_) (fun c73 => ?_)
            · replace h := ip c73 h
              refine q_bipush cx (pc' := 132) kb_m13 dX8_shift_130 rfl ?_
              obtain ⟨rfl, rfl⟩ := o2_i h
              rw [hQ]
              exact q_iret cx dX8_shift_132
            · replace h := ine c73 h
              refine q_iload_n cx (pc' := 77) 4 rfl dX8_shift_76 rfl ?_
              refine q_if_lt cx (pc' := 80) (tgt := 130) dX8_shift_77 (by decide) rfl (fun c77 => ?_) (fun c77 => ?_)
              · replace h := ip c77 h
                refine q_bipush cx (pc' := 132) kb_m13 dX8_shift_130 rfl ?_
                obtain ⟨rfl, rfl⟩ := o2_i h
                rw [hQ]
                exact q_iret cx dX8_shift_132
              · replace h := ine c77 h
                refine q_iload cx (pc' := 82) 6 rfl dX8_shift_80 rfl ?_
                refine q_if_lt cx (pc' := 85) (tgt := 130) dX8_shift_82 (by decide) rfl (fun c82 => ?_) (fun c82 => ?_)
                · replace h := ip c82 h
                  refine q_bipush cx (pc' := 132) kb_m13 dX8_shift_130 rfl ?_
                  obtain ⟨rfl, rfl⟩ := o2_i h
                  rw [hQ]
                  exact q_iret cx dX8_shift_132
                · replace h := ine c82 h
                  refine q_iload cx (pc' := 87) 7 rfl dX8_shift_85 rfl ?_
                  refine q_aload cx (pc' := 89) 1 rfl dX8_shift_87 rfl ?_
                  obtain ⟨ht89, x89, ex89, h⟩ := gI_i h
                  refine q_gI cx (pc' := 92) 6 1 fl_X8_271 rfl ht89 ex89 dX8_shift_89 rfl ?_
                  refine q_icmp_gt cx (pc' := 95) (tgt := 130) dX8_shift_92 (by decide) rfl (fun c92 => ?_) (fun c92 => ?_)
                  · replace h := ip c92 h
                    refine q_bipush cx (pc' := 132) kb_m13 dX8_shift_130 rfl ?_
                    obtain ⟨rfl, rfl⟩ := o2_i h
                    rw [hQ]
                    exact q_iret cx dX8_shift_132
                  · replace h := ine c92 h
                    refine q_iload_n cx (pc' := 96) 4 rfl dX8_shift_95 rfl ?_
                    refine q_aload cx (pc' := 98) 1 rfl dX8_shift_96 rfl ?_
                    obtain ⟨ht98, x98, ex98, h⟩ := gI_i h
                    refine q_gI cx (pc' := 101) 6 1 fl_X8_271 rfl ht98 ex98 dX8_shift_98 rfl ?_
                    refine q_iload cx (pc' := 103) 7 rfl dX8_shift_101 rfl ?_
                    refine q_isub cx (pc' := 104) dX8_shift_103 rfl ?_
                    refine q_icmp_gt cx (pc' := 107) (tgt := 130) dX8_shift_104 (by decide) rfl (fun c104 => ?_) (fun c104 => ?_)
                    · replace h := ip c104 h
                      refine q_bipush cx (pc' := 132) kb_m13 dX8_shift_130 rfl ?_
                      obtain ⟨rfl, rfl⟩ := o2_i h
                      rw [hQ]
                      exact q_iret cx dX8_shift_132
                    · replace h := ine c104 h
                      refine q_iload cx (pc' := 109) 7 rfl dX8_shift_107 rfl ?_
                      refine q_aload cx (pc' := 111) 0 rfl dX8_shift_109 rfl ?_
                      obtain ⟨ht111, x111, ex111, h⟩ := gI_i h
                      refine q_gI cx (pc' := 114) 6 1 fl_X8_271 rfl ht111 ex111 dX8_shift_111 rfl ?_
                      refine q_icmp_gt cx (pc' := 117) (tgt := 130) dX8_shift_114 (by decide) rfl (fun c114 => ?_) (fun c114 => ?_)
                      · replace h := ip c114 h
                        refine q_bipush cx (pc' := 132) kb_m13 dX8_shift_130 rfl ?_
                        obtain ⟨rfl, rfl⟩ := o2_i h
                        rw [hQ]
                        exact q_iret cx dX8_shift_132
                      · replace h := ine c114 h
                        refine q_iload cx (pc' := 119) 6 rfl dX8_shift_117 rfl ?_
                        refine q_aload cx (pc' := 121) 0 rfl dX8_shift_119 rfl ?_
                        obtain ⟨ht121, x121, ex121, h⟩ := gI_i h
                        refine q_gI cx (pc' := 124) 6 1 fl_X8_271 rfl ht121 ex121 dX8_shift_121 rfl ?_
                        refine q_iload cx (pc' := 126) 7 rfl dX8_shift_124 rfl ?_
                        refine q_isub cx (pc' := 127) dX8_shift_126 rfl ?_
                        refine q_icmp_le cx (pc' := 130) (tgt := 133) dX8_shift_127 (by decide) rfl (fun c127 => ?_) (fun c127 => ?_)
                        · replace h := ip c127 h
                          refine q_aload cx (pc' := 135) 1 rfl dX8_shift_133 rfl ?_
                          obtain ⟨ht135, r135, ex135, h⟩ := gR_i h
                          refine q_gR cx (pc' := 138) 6 2 fl_X8_277 rfl ht135 ex135 dX8_shift_135 rfl ?_
                          refine q_iload_n cx (pc' := 139) 4 rfl dX8_shift_138 rfl ?_
                          refine q_aload cx (pc' := 141) 0 rfl dX8_shift_139 rfl ?_
                          obtain ⟨ht141, r141, ex141, h⟩ := gR_i h
                          refine q_gR cx (pc' := 144) 6 2 fl_X8_277 rfl ht141 ex141 dX8_shift_141 rfl ?_
                          refine q_iload cx (pc' := 146) 6 rfl dX8_shift_144 rfl ?_
                          refine q_iload cx (pc' := 148) 7 rfl dX8_shift_146 rfl ?_
                          obtain ⟨ha148, hb148, hq148, M148, eM148, h⟩ := cpJ_i h
                          refine q_cpyJ cx (pc' := 151) aw_105 ⟨aw_88, aw_89, aw_90⟩ ha148 hb148 hq148 eM148 ⟨(Nat.le_of_ble_eq_true rfl), Nat.le_of_ble_eq_true rfl⟩ (Nat.le_of_ble_eq_true rfl) dX8_shift_148 rfl ?_
                          refine q_iload cx (pc' := 153) 7 rfl dX8_shift_151 rfl ?_
                          obtain ⟨rfl, rfl⟩ := o2_i h
                          rw [hQ]
                          exact q_iret cx dX8_shift_153
                        · replace h := ine c127 h
                          refine q_bipush cx (pc' := 132) kb_m13 dX8_shift_130 rfl ?_
                          obtain ⟨rfl, rfl⟩ := o2_i h
                          rw [hQ]
                          exact q_iret cx dX8_shift_132
          · replace h := ine c65 h
            refine q_bipush cx (pc' := 70) kb_m12 dX8_shift_68 rfl ?_
            obtain ⟨rfl, rfl⟩ := o2_i h
            rw [hQ]
            exact q_iret cx dX8_shift_70
        · replace h := ine c49 h
          refine q_bipush cx (pc' := 54) kb_m11 dX8_shift_52 rfl ?_
          obtain ⟨rfl, rfl⟩ := o2_i h
          rw [hQ]
          exact q_iret cx dX8_shift_54
    · replace h := ip c15 h
      refine q_iconst cx (pc' := 19) ki_m1 dX8_shift_18 rfl ?_
      obtain ⟨rfl, rfl⟩ := o2_i h
      rw [hQ]
      exact q_iret cx dX8_shift_19
