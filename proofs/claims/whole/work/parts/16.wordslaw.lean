theorem ki_6 : Int32.ofInt 6 = 6 := by decide
theorem aw_155 : Cond.classLink RL 7 RX8 ∈ AW := AW_in (List.mem_of_getElem? (i := 128) (by decide +kernel)) rfl
theorem aw_156 : Cond.instantiable RX8 10 ∈ AW := AW_in (List.mem_of_getElem? (i := 129) (by decide +kernel)) rfl
theorem aw_157 : Cond.initialized RX8 ∈ AW := AW_in (List.mem_of_getElem? (i := 110) (by decide +kernel)) rfl
theorem lki_X8_init : LKI yX8_init cX8_init 2 none 0 := ⟨AW_in (List.mem_of_getElem? (i := 132) (by decide +kernel)) rfl, AW_in (List.mem_of_getElem? (i := 110) (by decide +kernel)) rfl, ⟨by decide +kernel, by decide +kernel⟩, by decide +kernel⟩
theorem lkv_X8_init : Cond.instanceMethod yX8_init ∈ AW ∧ yX8_init.name = "<init>" := ⟨AW_in (List.mem_of_getElem? (i := 131) (by decide +kernel)) rfl, rfl⟩
theorem lkc_L_9 : LKC RL 9 yX8_init := Or.inl (AW_in (List.mem_of_getElem? (i := 130) (by decide +kernel)) rfl)
theorem aw_158 : Cond.classLink RL 10 RX9 ∈ AW := AW_in (List.mem_of_getElem? (i := 910) (by decide +kernel)) rfl
theorem aw_159 : Cond.instantiable RX9 70 ∈ AW := AW_in (List.mem_of_getElem? (i := 911) (by decide +kernel)) rfl
theorem aw_160 : Cond.initialized RX9 ∈ AW := AW_in (List.mem_of_getElem? (i := 119) (by decide +kernel)) rfl
theorem lki_X9_init : LKI yX9_init cX9_init 1 none 0 := ⟨AW_in (List.mem_of_getElem? (i := 914) (by decide +kernel)) rfl, AW_in (List.mem_of_getElem? (i := 119) (by decide +kernel)) rfl, ⟨by decide +kernel, by decide +kernel⟩, by decide +kernel⟩
theorem lkv_X9_init : Cond.instanceMethod yX9_init ∈ AW ∧ yX9_init.name = "<init>" := ⟨AW_in (List.mem_of_getElem? (i := 913) (by decide +kernel)) rfl, rfl⟩
theorem lkc_L_12 : LKC RL 12 yX9_init := Or.inl (AW_in (List.mem_of_getElem? (i := 912) (by decide +kernel)) rfl)
theorem lki_X8_walker : LKI yX8_walker cX8_walker 4 (some .int) 3 := ⟨AW_in (List.mem_of_getElem? (i := 387) (by decide +kernel)) rfl, AW_in (List.mem_of_getElem? (i := 110) (by decide +kernel)) rfl, ⟨by decide +kernel, by decide +kernel⟩, by decide +kernel⟩
theorem lkv_X8_walker : LKV yX8_walker := ⟨AW_in (List.mem_of_getElem? (i := 385) (by decide +kernel)) rfl, AW_in (List.mem_of_getElem? (i := 386) (by decide +kernel)) rfl⟩
theorem lkc_L_13 : LKC RL 13 yX8_walker := Or.inl (AW_in (List.mem_of_getElem? (i := 384) (by decide +kernel)) rfl)
theorem lki_X9_walker : LKI yX9_walker cX9_walker 5 (some .int) 3 := ⟨AW_in (List.mem_of_getElem? (i := 1130) (by decide +kernel)) rfl, AW_in (List.mem_of_getElem? (i := 119) (by decide +kernel)) rfl, ⟨by decide +kernel, by decide +kernel⟩, by decide +kernel⟩
theorem lkv_X9_walker : LKV yX9_walker := ⟨AW_in (List.mem_of_getElem? (i := 1128) (by decide +kernel)) rfl, AW_in (List.mem_of_getElem? (i := 1129) (by decide +kernel)) rfl⟩
theorem lkc_L_17 : LKC RL 17 yX9_walker := Or.inl (AW_in (List.mem_of_getElem? (i := 1127) (by decide +kernel)) rfl)
theorem lki_X8_of : LKI yX8_of cX8_of 4 (some .int) 2 := ⟨AW_in (List.mem_of_getElem? (i := 398) (by decide +kernel)) rfl, AW_in (List.mem_of_getElem? (i := 110) (by decide +kernel)) rfl, ⟨by decide +kernel, by decide +kernel⟩, by decide +kernel⟩
theorem lkv_X8_of : LKV yX8_of := ⟨AW_in (List.mem_of_getElem? (i := 396) (by decide +kernel)) rfl, AW_in (List.mem_of_getElem? (i := 397) (by decide +kernel)) rfl⟩
theorem lkc_L_18 : LKC RL 18 yX8_of := Or.inl (AW_in (List.mem_of_getElem? (i := 395) (by decide +kernel)) rfl)
theorem lki_X9_of : LKI yX9_of cX9_of 3 (some .int) 2 := ⟨AW_in (List.mem_of_getElem? (i := 1246) (by decide +kernel)) rfl, AW_in (List.mem_of_getElem? (i := 119) (by decide +kernel)) rfl, ⟨by decide +kernel, by decide +kernel⟩, by decide +kernel⟩
theorem lkv_X9_of : LKV yX9_of := ⟨AW_in (List.mem_of_getElem? (i := 1244) (by decide +kernel)) rfl, AW_in (List.mem_of_getElem? (i := 1245) (by decide +kernel)) rfl⟩
theorem lkc_L_22 : LKC RL 22 yX9_of := Or.inl (AW_in (List.mem_of_getElem? (i := 1243) (by decide +kernel)) rfl)
theorem lki_X8_at : LKI yX8_at cX8_at 4 (some .int) 2 := ⟨AW_in (List.mem_of_getElem? (i := 440) (by decide +kernel)) rfl, AW_in (List.mem_of_getElem? (i := 110) (by decide +kernel)) rfl, ⟨by decide +kernel, by decide +kernel⟩, by decide +kernel⟩
theorem lkv_X8_at : LKV yX8_at := ⟨AW_in (List.mem_of_getElem? (i := 438) (by decide +kernel)) rfl, AW_in (List.mem_of_getElem? (i := 439) (by decide +kernel)) rfl⟩
theorem lkc_L_23 : LKC RL 23 yX8_at := Or.inl (AW_in (List.mem_of_getElem? (i := 437) (by decide +kernel)) rfl)
theorem lki_X9_at : LKI yX9_at cX9_at 5 (some .int) 2 := ⟨AW_in (List.mem_of_getElem? (i := 1298) (by decide +kernel)) rfl, AW_in (List.mem_of_getElem? (i := 119) (by decide +kernel)) rfl, ⟨by decide +kernel, by decide +kernel⟩, by decide +kernel⟩
theorem lkv_X9_at : LKV yX9_at := ⟨AW_in (List.mem_of_getElem? (i := 1296) (by decide +kernel)) rfl, AW_in (List.mem_of_getElem? (i := 1297) (by decide +kernel)) rfl⟩
theorem lkc_L_26 : LKC RL 26 yX9_at := Or.inl (AW_in (List.mem_of_getElem? (i := 1295) (by decide +kernel)) rfl)
theorem lki_X8_set : LKI yX8_set cX8_set 4 (some .int) 2 := ⟨AW_in (List.mem_of_getElem? (i := 453) (by decide +kernel)) rfl, AW_in (List.mem_of_getElem? (i := 110) (by decide +kernel)) rfl, ⟨by decide +kernel, by decide +kernel⟩, by decide +kernel⟩
theorem lkv_X8_set : LKV yX8_set := ⟨AW_in (List.mem_of_getElem? (i := 451) (by decide +kernel)) rfl, AW_in (List.mem_of_getElem? (i := 452) (by decide +kernel)) rfl⟩
theorem lkc_L_27 : LKC RL 27 yX8_set := Or.inl (AW_in (List.mem_of_getElem? (i := 450) (by decide +kernel)) rfl)
theorem lki_X9_set : LKI yX9_set cX9_set 4 (some .int) 2 := ⟨AW_in (List.mem_of_getElem? (i := 1142) (by decide +kernel)) rfl, AW_in (List.mem_of_getElem? (i := 119) (by decide +kernel)) rfl, ⟨by decide +kernel, by decide +kernel⟩, by decide +kernel⟩
theorem lkv_X9_set : LKV yX9_set := ⟨AW_in (List.mem_of_getElem? (i := 1140) (by decide +kernel)) rfl, AW_in (List.mem_of_getElem? (i := 1141) (by decide +kernel)) rfl⟩
theorem lkc_L_30 : LKC RL 30 yX9_set := Or.inl (AW_in (List.mem_of_getElem? (i := 1139) (by decide +kernel)) rfl)
theorem lki_X8_weigh : LKI yX8_weigh cX8_weigh 5 (some .int) 2 := ⟨AW_in (List.mem_of_getElem? (i := 457) (by decide +kernel)) rfl, AW_in (List.mem_of_getElem? (i := 110) (by decide +kernel)) rfl, ⟨by decide +kernel, by decide +kernel⟩, by decide +kernel⟩
theorem lkv_X8_weigh : LKV yX8_weigh := ⟨AW_in (List.mem_of_getElem? (i := 455) (by decide +kernel)) rfl, AW_in (List.mem_of_getElem? (i := 456) (by decide +kernel)) rfl⟩
theorem lkc_L_31 : LKC RL 31 yX8_weigh := Or.inl (AW_in (List.mem_of_getElem? (i := 454) (by decide +kernel)) rfl)
theorem lki_X9_weigh : LKI yX9_weigh cX9_weigh 4 (some .int) 2 := ⟨AW_in (List.mem_of_getElem? (i := 1150) (by decide +kernel)) rfl, AW_in (List.mem_of_getElem? (i := 119) (by decide +kernel)) rfl, ⟨by decide +kernel, by decide +kernel⟩, by decide +kernel⟩
theorem lkv_X9_weigh : LKV yX9_weigh := ⟨AW_in (List.mem_of_getElem? (i := 1148) (by decide +kernel)) rfl, AW_in (List.mem_of_getElem? (i := 1149) (by decide +kernel)) rfl⟩
theorem lkc_L_34 : LKC RL 34 yX9_weigh := Or.inl (AW_in (List.mem_of_getElem? (i := 1147) (by decide +kernel)) rfl)
theorem lki_X8_line : LKI yX8_line cX8_line 6 (some .int) 3 := ⟨AW_in (List.mem_of_getElem? (i := 461) (by decide +kernel)) rfl, AW_in (List.mem_of_getElem? (i := 110) (by decide +kernel)) rfl, ⟨by decide +kernel, by decide +kernel⟩, by decide +kernel⟩
theorem lkv_X8_line : LKV yX8_line := ⟨AW_in (List.mem_of_getElem? (i := 459) (by decide +kernel)) rfl, AW_in (List.mem_of_getElem? (i := 460) (by decide +kernel)) rfl⟩
theorem lkc_L_35 : LKC RL 35 yX8_line := Or.inl (AW_in (List.mem_of_getElem? (i := 458) (by decide +kernel)) rfl)
theorem lki_X9_line : LKI yX9_line cX9_line 5 (some .int) 3 := ⟨AW_in (List.mem_of_getElem? (i := 1158) (by decide +kernel)) rfl, AW_in (List.mem_of_getElem? (i := 119) (by decide +kernel)) rfl, ⟨by decide +kernel, by decide +kernel⟩, by decide +kernel⟩
theorem lkv_X9_line : LKV yX9_line := ⟨AW_in (List.mem_of_getElem? (i := 1156) (by decide +kernel)) rfl, AW_in (List.mem_of_getElem? (i := 1157) (by decide +kernel)) rfl⟩
theorem lkc_L_38 : LKC RL 38 yX9_line := Or.inl (AW_in (List.mem_of_getElem? (i := 1155) (by decide +kernel)) rfl)
theorem lki_X8_milk : LKI yX8_milk cX8_milk 2 (some .int) 1 := ⟨AW_in (List.mem_of_getElem? (i := 465) (by decide +kernel)) rfl, AW_in (List.mem_of_getElem? (i := 110) (by decide +kernel)) rfl, ⟨by decide +kernel, by decide +kernel⟩, by decide +kernel⟩
theorem lkv_X8_milk : LKV yX8_milk := ⟨AW_in (List.mem_of_getElem? (i := 463) (by decide +kernel)) rfl, AW_in (List.mem_of_getElem? (i := 464) (by decide +kernel)) rfl⟩
theorem lkc_L_39 : LKC RL 39 yX8_milk := Or.inl (AW_in (List.mem_of_getElem? (i := 462) (by decide +kernel)) rfl)
theorem lki_X9_milk : LKI yX9_milk cX9_milk 2 (some .int) 1 := ⟨AW_in (List.mem_of_getElem? (i := 1314) (by decide +kernel)) rfl, AW_in (List.mem_of_getElem? (i := 119) (by decide +kernel)) rfl, ⟨by decide +kernel, by decide +kernel⟩, by decide +kernel⟩
theorem lkv_X9_milk : LKV yX9_milk := ⟨AW_in (List.mem_of_getElem? (i := 1312) (by decide +kernel)) rfl, AW_in (List.mem_of_getElem? (i := 1313) (by decide +kernel)) rfl⟩
theorem lkc_L_43 : LKC RL 43 yX9_milk := Or.inl (AW_in (List.mem_of_getElem? (i := 1311) (by decide +kernel)) rfl)
theorem lki_X8_stir : LKI yX8_stir cX8_stir 3 (some .int) 2 := ⟨AW_in (List.mem_of_getElem? (i := 474) (by decide +kernel)) rfl, AW_in (List.mem_of_getElem? (i := 110) (by decide +kernel)) rfl, ⟨by decide +kernel, by decide +kernel⟩, by decide +kernel⟩
theorem lkv_X8_stir : LKV yX8_stir := ⟨AW_in (List.mem_of_getElem? (i := 472) (by decide +kernel)) rfl, AW_in (List.mem_of_getElem? (i := 473) (by decide +kernel)) rfl⟩
theorem lkc_L_44 : LKC RL 44 yX8_stir := Or.inl (AW_in (List.mem_of_getElem? (i := 471) (by decide +kernel)) rfl)
theorem lki_X9_stir : LKI yX9_stir cX9_stir 3 (some .int) 2 := ⟨AW_in (List.mem_of_getElem? (i := 1162) (by decide +kernel)) rfl, AW_in (List.mem_of_getElem? (i := 119) (by decide +kernel)) rfl, ⟨by decide +kernel, by decide +kernel⟩, by decide +kernel⟩
theorem lkv_X9_stir : LKV yX9_stir := ⟨AW_in (List.mem_of_getElem? (i := 1160) (by decide +kernel)) rfl, AW_in (List.mem_of_getElem? (i := 1161) (by decide +kernel)) rfl⟩
theorem lkc_L_47 : LKC RL 47 yX9_stir := Or.inl (AW_in (List.mem_of_getElem? (i := 1159) (by decide +kernel)) rfl)
theorem lki_X8_feed : LKI yX8_feed cX8_feed 2 (some .int) 1 := ⟨AW_in (List.mem_of_getElem? (i := 482) (by decide +kernel)) rfl, AW_in (List.mem_of_getElem? (i := 110) (by decide +kernel)) rfl, ⟨by decide +kernel, by decide +kernel⟩, by decide +kernel⟩
theorem lkv_X8_feed : LKV yX8_feed := ⟨AW_in (List.mem_of_getElem? (i := 480) (by decide +kernel)) rfl, AW_in (List.mem_of_getElem? (i := 481) (by decide +kernel)) rfl⟩
theorem lkc_L_48 : LKC RL 48 yX8_feed := Or.inl (AW_in (List.mem_of_getElem? (i := 479) (by decide +kernel)) rfl)
theorem lki_X9_feed : LKI yX9_feed cX9_feed 2 (some .int) 1 := ⟨AW_in (List.mem_of_getElem? (i := 1182) (by decide +kernel)) rfl, AW_in (List.mem_of_getElem? (i := 119) (by decide +kernel)) rfl, ⟨by decide +kernel, by decide +kernel⟩, by decide +kernel⟩
theorem lkv_X9_feed : LKV yX9_feed := ⟨AW_in (List.mem_of_getElem? (i := 1180) (by decide +kernel)) rfl, AW_in (List.mem_of_getElem? (i := 1181) (by decide +kernel)) rfl⟩
theorem lkc_L_51 : LKC RL 51 yX9_feed := Or.inl (AW_in (List.mem_of_getElem? (i := 1179) (by decide +kernel)) rfl)
theorem lki_X8_brew : LKI yX8_brew cX8_brew 5 (some .int) 0 := ⟨AW_in (List.mem_of_getElem? (i := 490) (by decide +kernel)) rfl, AW_in (List.mem_of_getElem? (i := 110) (by decide +kernel)) rfl, ⟨by decide +kernel, by decide +kernel⟩, by decide +kernel⟩
theorem lkv_X8_brew : LKV yX8_brew := ⟨AW_in (List.mem_of_getElem? (i := 488) (by decide +kernel)) rfl, AW_in (List.mem_of_getElem? (i := 489) (by decide +kernel)) rfl⟩
theorem lkc_L_52 : LKC RL 52 yX8_brew := Or.inl (AW_in (List.mem_of_getElem? (i := 487) (by decide +kernel)) rfl)
theorem lki_X9_brew : LKI yX9_brew cX9_brew 2 (some .int) 0 := ⟨AW_in (List.mem_of_getElem? (i := 1186) (by decide +kernel)) rfl, AW_in (List.mem_of_getElem? (i := 119) (by decide +kernel)) rfl, ⟨by decide +kernel, by decide +kernel⟩, by decide +kernel⟩
theorem lkv_X9_brew : LKV yX9_brew := ⟨AW_in (List.mem_of_getElem? (i := 1184) (by decide +kernel)) rfl, AW_in (List.mem_of_getElem? (i := 1185) (by decide +kernel)) rfl⟩
theorem lkc_L_56 : LKC RL 56 yX9_brew := Or.inl (AW_in (List.mem_of_getElem? (i := 1183) (by decide +kernel)) rfl)
theorem lki_X8_told : LKI yX8_told cX8_told 2 (some .int) 1 := ⟨AW_in (List.mem_of_getElem? (i := 660) (by decide +kernel)) rfl, AW_in (List.mem_of_getElem? (i := 110) (by decide +kernel)) rfl, ⟨by decide +kernel, by decide +kernel⟩, by decide +kernel⟩
theorem lkv_X8_told : LKV yX8_told := ⟨AW_in (List.mem_of_getElem? (i := 658) (by decide +kernel)) rfl, AW_in (List.mem_of_getElem? (i := 659) (by decide +kernel)) rfl⟩
theorem lkc_L_57 : LKC RL 57 yX8_told := Or.inl (AW_in (List.mem_of_getElem? (i := 657) (by decide +kernel)) rfl)
theorem lki_X9_told : LKI yX9_told cX9_told 2 (some .int) 1 := ⟨AW_in (List.mem_of_getElem? (i := 1322) (by decide +kernel)) rfl, AW_in (List.mem_of_getElem? (i := 119) (by decide +kernel)) rfl, ⟨by decide +kernel, by decide +kernel⟩, by decide +kernel⟩
theorem lkv_X9_told : LKV yX9_told := ⟨AW_in (List.mem_of_getElem? (i := 1320) (by decide +kernel)) rfl, AW_in (List.mem_of_getElem? (i := 1321) (by decide +kernel)) rfl⟩
theorem lkc_L_60 : LKC RL 60 yX9_told := Or.inl (AW_in (List.mem_of_getElem? (i := 1319) (by decide +kernel)) rfl)
theorem lki_X8_pass : LKI yX8_pass cX8_pass 2 (some .int) 1 := ⟨AW_in (List.mem_of_getElem? (i := 673) (by decide +kernel)) rfl, AW_in (List.mem_of_getElem? (i := 110) (by decide +kernel)) rfl, ⟨by decide +kernel, by decide +kernel⟩, by decide +kernel⟩
theorem lkv_X8_pass : LKV yX8_pass := ⟨AW_in (List.mem_of_getElem? (i := 671) (by decide +kernel)) rfl, AW_in (List.mem_of_getElem? (i := 672) (by decide +kernel)) rfl⟩
theorem lkc_L_61 : LKC RL 61 yX8_pass := Or.inl (AW_in (List.mem_of_getElem? (i := 670) (by decide +kernel)) rfl)
theorem lki_X9_pass : LKI yX9_pass cX9_pass 2 (some .int) 1 := ⟨AW_in (List.mem_of_getElem? (i := 1347) (by decide +kernel)) rfl, AW_in (List.mem_of_getElem? (i := 119) (by decide +kernel)) rfl, ⟨by decide +kernel, by decide +kernel⟩, by decide +kernel⟩
theorem lkv_X9_pass : LKV yX9_pass := ⟨AW_in (List.mem_of_getElem? (i := 1345) (by decide +kernel)) rfl, AW_in (List.mem_of_getElem? (i := 1346) (by decide +kernel)) rfl⟩
theorem lkc_L_64 : LKC RL 64 yX9_pass := Or.inl (AW_in (List.mem_of_getElem? (i := 1344) (by decide +kernel)) rfl)
theorem lki_X8_on : LKI yX8_on cX8_on 3 (some .int) 2 := ⟨AW_in (List.mem_of_getElem? (i := 691) (by decide +kernel)) rfl, AW_in (List.mem_of_getElem? (i := 110) (by decide +kernel)) rfl, ⟨by decide +kernel, by decide +kernel⟩, by decide +kernel⟩
theorem lkv_X8_on : LKV yX8_on := ⟨AW_in (List.mem_of_getElem? (i := 689) (by decide +kernel)) rfl, AW_in (List.mem_of_getElem? (i := 690) (by decide +kernel)) rfl⟩
theorem lkc_L_65 : LKC RL 65 yX8_on := Or.inl (AW_in (List.mem_of_getElem? (i := 688) (by decide +kernel)) rfl)
theorem lki_X9_on : LKI yX9_on cX9_on 4 (some .int) 2 := ⟨AW_in (List.mem_of_getElem? (i := 1367) (by decide +kernel)) rfl, AW_in (List.mem_of_getElem? (i := 119) (by decide +kernel)) rfl, ⟨by decide +kernel, by decide +kernel⟩, by decide +kernel⟩
theorem lkv_X9_on : LKV yX9_on := ⟨AW_in (List.mem_of_getElem? (i := 1365) (by decide +kernel)) rfl, AW_in (List.mem_of_getElem? (i := 1366) (by decide +kernel)) rfl⟩
theorem lkc_L_68 : LKC RL 68 yX9_on := Or.inl (AW_in (List.mem_of_getElem? (i := 1364) (by decide +kernel)) rfl)
theorem lki_X8_soon : LKI yX8_soon cX8_soon 4 (some .int) 1 := ⟨AW_in (List.mem_of_getElem? (i := 704) (by decide +kernel)) rfl, AW_in (List.mem_of_getElem? (i := 110) (by decide +kernel)) rfl, ⟨by decide +kernel, by decide +kernel⟩, by decide +kernel⟩
theorem lkv_X8_soon : LKV yX8_soon := ⟨AW_in (List.mem_of_getElem? (i := 702) (by decide +kernel)) rfl, AW_in (List.mem_of_getElem? (i := 703) (by decide +kernel)) rfl⟩
theorem lkc_L_69 : LKC RL 69 yX8_soon := Or.inl (AW_in (List.mem_of_getElem? (i := 701) (by decide +kernel)) rfl)
theorem lki_X9_soon : LKI yX9_soon cX9_soon 3 (some .int) 1 := ⟨AW_in (List.mem_of_getElem? (i := 1379) (by decide +kernel)) rfl, AW_in (List.mem_of_getElem? (i := 119) (by decide +kernel)) rfl, ⟨by decide +kernel, by decide +kernel⟩, by decide +kernel⟩
theorem lkv_X9_soon : LKV yX9_soon := ⟨AW_in (List.mem_of_getElem? (i := 1377) (by decide +kernel)) rfl, AW_in (List.mem_of_getElem? (i := 1378) (by decide +kernel)) rfl⟩
theorem lkc_L_72 : LKC RL 72 yX9_soon := Or.inl (AW_in (List.mem_of_getElem? (i := 1376) (by decide +kernel)) rfl)
theorem lki_X8_way : LKI yX8_way cX8_way 8 (some .int) 2 := ⟨AW_in (List.mem_of_getElem? (i := 708) (by decide +kernel)) rfl, AW_in (List.mem_of_getElem? (i := 110) (by decide +kernel)) rfl, ⟨by decide +kernel, by decide +kernel⟩, by decide +kernel⟩
theorem lkv_X8_way : LKV yX8_way := ⟨AW_in (List.mem_of_getElem? (i := 706) (by decide +kernel)) rfl, AW_in (List.mem_of_getElem? (i := 707) (by decide +kernel)) rfl⟩
theorem lkc_L_73 : LKC RL 73 yX8_way := Or.inl (AW_in (List.mem_of_getElem? (i := 705) (by decide +kernel)) rfl)
theorem lki_X9_way : LKI yX9_way cX9_way 7 (some .int) 2 := ⟨AW_in (List.mem_of_getElem? (i := 1383) (by decide +kernel)) rfl, AW_in (List.mem_of_getElem? (i := 119) (by decide +kernel)) rfl, ⟨by decide +kernel, by decide +kernel⟩, by decide +kernel⟩
theorem lkv_X9_way : LKV yX9_way := ⟨AW_in (List.mem_of_getElem? (i := 1381) (by decide +kernel)) rfl, AW_in (List.mem_of_getElem? (i := 1382) (by decide +kernel)) rfl⟩
theorem lkc_L_76 : LKC RL 76 yX9_way := Or.inl (AW_in (List.mem_of_getElem? (i := 1380) (by decide +kernel)) rfl)
theorem lki_X8_reach : LKI yX8_reach cX8_reach 5 (some .int) 3 := ⟨AW_in (List.mem_of_getElem? (i := 719) (by decide +kernel)) rfl, AW_in (List.mem_of_getElem? (i := 110) (by decide +kernel)) rfl, ⟨by decide +kernel, by decide +kernel⟩, by decide +kernel⟩
theorem lkv_X8_reach : LKV yX8_reach := ⟨AW_in (List.mem_of_getElem? (i := 717) (by decide +kernel)) rfl, AW_in (List.mem_of_getElem? (i := 718) (by decide +kernel)) rfl⟩
theorem lkc_L_77 : LKC RL 77 yX8_reach := Or.inl (AW_in (List.mem_of_getElem? (i := 716) (by decide +kernel)) rfl)
theorem lki_X9_reach : LKI yX9_reach cX9_reach 4 (some .int) 3 := ⟨AW_in (List.mem_of_getElem? (i := 1392) (by decide +kernel)) rfl, AW_in (List.mem_of_getElem? (i := 119) (by decide +kernel)) rfl, ⟨by decide +kernel, by decide +kernel⟩, by decide +kernel⟩
theorem lkv_X9_reach : LKV yX9_reach := ⟨AW_in (List.mem_of_getElem? (i := 1390) (by decide +kernel)) rfl, AW_in (List.mem_of_getElem? (i := 1391) (by decide +kernel)) rfl⟩
theorem lkc_L_80 : LKC RL 80 yX9_reach := Or.inl (AW_in (List.mem_of_getElem? (i := 1389) (by decide +kernel)) rfl)
theorem lki_X8_heaviest : LKI yX8_heaviest cX8_heaviest 4 (some .int) 1 := ⟨AW_in (List.mem_of_getElem? (i := 723) (by decide +kernel)) rfl, AW_in (List.mem_of_getElem? (i := 110) (by decide +kernel)) rfl, ⟨by decide +kernel, by decide +kernel⟩, by decide +kernel⟩
theorem lkv_X8_heaviest : LKV yX8_heaviest := ⟨AW_in (List.mem_of_getElem? (i := 721) (by decide +kernel)) rfl, AW_in (List.mem_of_getElem? (i := 722) (by decide +kernel)) rfl⟩
theorem lkc_L_81 : LKC RL 81 yX8_heaviest := Or.inl (AW_in (List.mem_of_getElem? (i := 720) (by decide +kernel)) rfl)
theorem lki_X9_heaviest : LKI yX9_heaviest cX9_heaviest 5 (some .int) 1 := ⟨AW_in (List.mem_of_getElem? (i := 1396) (by decide +kernel)) rfl, AW_in (List.mem_of_getElem? (i := 119) (by decide +kernel)) rfl, ⟨by decide +kernel, by decide +kernel⟩, by decide +kernel⟩
theorem lkv_X9_heaviest : LKV yX9_heaviest := ⟨AW_in (List.mem_of_getElem? (i := 1394) (by decide +kernel)) rfl, AW_in (List.mem_of_getElem? (i := 1395) (by decide +kernel)) rfl⟩
theorem lkc_L_84 : LKC RL 84 yX9_heaviest := Or.inl (AW_in (List.mem_of_getElem? (i := 1393) (by decide +kernel)) rfl)
theorem lki_X8_cut : LKI yX8_cut cX8_cut 5 (some .int) 2 := ⟨AW_in (List.mem_of_getElem? (i := 732) (by decide +kernel)) rfl, AW_in (List.mem_of_getElem? (i := 110) (by decide +kernel)) rfl, ⟨by decide +kernel, by decide +kernel⟩, by decide +kernel⟩
theorem lkv_X8_cut : LKV yX8_cut := ⟨AW_in (List.mem_of_getElem? (i := 730) (by decide +kernel)) rfl, AW_in (List.mem_of_getElem? (i := 731) (by decide +kernel)) rfl⟩
theorem lkc_L_85 : LKC RL 85 yX8_cut := Or.inl (AW_in (List.mem_of_getElem? (i := 729) (by decide +kernel)) rfl)
theorem lki_X9_cut : LKI yX9_cut cX9_cut 5 (some .int) 2 := ⟨AW_in (List.mem_of_getElem? (i := 1400) (by decide +kernel)) rfl, AW_in (List.mem_of_getElem? (i := 119) (by decide +kernel)) rfl, ⟨by decide +kernel, by decide +kernel⟩, by decide +kernel⟩
theorem lkv_X9_cut : LKV yX9_cut := ⟨AW_in (List.mem_of_getElem? (i := 1398) (by decide +kernel)) rfl, AW_in (List.mem_of_getElem? (i := 1399) (by decide +kernel)) rfl⟩
theorem lkc_L_88 : LKC RL 88 yX9_cut := Or.inl (AW_in (List.mem_of_getElem? (i := 1397) (by decide +kernel)) rfl)
theorem lki_X8_stirred : LKI yX8_stirred cX8_stirred 9 (some .int) 1 := ⟨AW_in (List.mem_of_getElem? (i := 748) (by decide +kernel)) rfl, AW_in (List.mem_of_getElem? (i := 110) (by decide +kernel)) rfl, ⟨by decide +kernel, by decide +kernel⟩, by decide +kernel⟩
theorem lkv_X8_stirred : LKV yX8_stirred := ⟨AW_in (List.mem_of_getElem? (i := 746) (by decide +kernel)) rfl, AW_in (List.mem_of_getElem? (i := 747) (by decide +kernel)) rfl⟩
theorem lkc_L_89 : LKC RL 89 yX8_stirred := Or.inl (AW_in (List.mem_of_getElem? (i := 745) (by decide +kernel)) rfl)
theorem lki_X9_stirred : LKI yX9_stirred cX9_stirred 7 (some .int) 1 := ⟨AW_in (List.mem_of_getElem? (i := 1412) (by decide +kernel)) rfl, AW_in (List.mem_of_getElem? (i := 119) (by decide +kernel)) rfl, ⟨by decide +kernel, by decide +kernel⟩, by decide +kernel⟩
theorem lkv_X9_stirred : LKV yX9_stirred := ⟨AW_in (List.mem_of_getElem? (i := 1410) (by decide +kernel)) rfl, AW_in (List.mem_of_getElem? (i := 1411) (by decide +kernel)) rfl⟩
theorem lkc_L_92 : LKC RL 92 yX9_stirred := Or.inl (AW_in (List.mem_of_getElem? (i := 1409) (by decide +kernel)) rfl)
theorem lki_X8_meet : LKI yX8_meet cX8_meet 12 (some .int) 2 := ⟨AW_in (List.mem_of_getElem? (i := 752) (by decide +kernel)) rfl, AW_in (List.mem_of_getElem? (i := 110) (by decide +kernel)) rfl, ⟨by decide +kernel, by decide +kernel⟩, by decide +kernel⟩
theorem lkv_X8_meet : LKV yX8_meet := ⟨AW_in (List.mem_of_getElem? (i := 750) (by decide +kernel)) rfl, AW_in (List.mem_of_getElem? (i := 751) (by decide +kernel)) rfl⟩
theorem lkc_L_93 : LKC RL 93 yX8_meet := Or.inl (AW_in (List.mem_of_getElem? (i := 749) (by decide +kernel)) rfl)
theorem lki_X9_meet : LKI yX9_meet cX9_meet 7 (some .int) 2 := ⟨AW_in (List.mem_of_getElem? (i := 1416) (by decide +kernel)) rfl, AW_in (List.mem_of_getElem? (i := 119) (by decide +kernel)) rfl, ⟨by decide +kernel, by decide +kernel⟩, by decide +kernel⟩
theorem lkv_X9_meet : LKV yX9_meet := ⟨AW_in (List.mem_of_getElem? (i := 1414) (by decide +kernel)) rfl, AW_in (List.mem_of_getElem? (i := 1415) (by decide +kernel)) rfl⟩
theorem lkc_L_96 : LKC RL 96 yX9_meet := Or.inl (AW_in (List.mem_of_getElem? (i := 1413) (by decide +kernel)) rfl)
theorem lki_X8_print : LKI yX8_print cX8_print 3 (some .int) 1 := ⟨AW_in (List.mem_of_getElem? (i := 756) (by decide +kernel)) rfl, AW_in (List.mem_of_getElem? (i := 110) (by decide +kernel)) rfl, ⟨by decide +kernel, by decide +kernel⟩, by decide +kernel⟩
theorem lkv_X8_print : LKV yX8_print := ⟨AW_in (List.mem_of_getElem? (i := 754) (by decide +kernel)) rfl, AW_in (List.mem_of_getElem? (i := 755) (by decide +kernel)) rfl⟩
theorem lkc_L_97 : LKC RL 97 yX8_print := Or.inl (AW_in (List.mem_of_getElem? (i := 753) (by decide +kernel)) rfl)
theorem lki_X9_print : LKI yX9_print cX9_print 3 (some .int) 1 := ⟨AW_in (List.mem_of_getElem? (i := 1342) (by decide +kernel)) rfl, AW_in (List.mem_of_getElem? (i := 119) (by decide +kernel)) rfl, ⟨by decide +kernel, by decide +kernel⟩, by decide +kernel⟩
theorem lkv_X9_print : LKV yX9_print := ⟨AW_in (List.mem_of_getElem? (i := 1340) (by decide +kernel)) rfl, AW_in (List.mem_of_getElem? (i := 1341) (by decide +kernel)) rfl⟩
theorem lkc_L_100 : LKC RL 100 yX9_print := Or.inl (AW_in (List.mem_of_getElem? (i := 1339) (by decide +kernel)) rfl)
theorem lki_X8_see : LKI yX8_see cX8_see 4 (some .int) 3 := ⟨AW_in (List.mem_of_getElem? (i := 760) (by decide +kernel)) rfl, AW_in (List.mem_of_getElem? (i := 110) (by decide +kernel)) rfl, ⟨by decide +kernel, by decide +kernel⟩, by decide +kernel⟩
theorem lkv_X8_see : LKV yX8_see := ⟨AW_in (List.mem_of_getElem? (i := 758) (by decide +kernel)) rfl, AW_in (List.mem_of_getElem? (i := 759) (by decide +kernel)) rfl⟩
theorem lkc_L_101 : LKC RL 101 yX8_see := Or.inl (AW_in (List.mem_of_getElem? (i := 757) (by decide +kernel)) rfl)
theorem lki_X9_see : LKI yX9_see cX9_see 4 (some .int) 3 := ⟨AW_in (List.mem_of_getElem? (i := 1420) (by decide +kernel)) rfl, AW_in (List.mem_of_getElem? (i := 119) (by decide +kernel)) rfl, ⟨by decide +kernel, by decide +kernel⟩, by decide +kernel⟩
theorem lkv_X9_see : LKV yX9_see := ⟨AW_in (List.mem_of_getElem? (i := 1418) (by decide +kernel)) rfl, AW_in (List.mem_of_getElem? (i := 1419) (by decide +kernel)) rfl⟩
theorem lkc_L_105 : LKC RL 105 yX9_see := Or.inl (AW_in (List.mem_of_getElem? (i := 1417) (by decide +kernel)) rfl)
theorem lki_X8_heft : LKI yX8_heft cX8_heft 6 (some .int) 2 := ⟨AW_in (List.mem_of_getElem? (i := 772) (by decide +kernel)) rfl, AW_in (List.mem_of_getElem? (i := 110) (by decide +kernel)) rfl, ⟨by decide +kernel, by decide +kernel⟩, by decide +kernel⟩
theorem lkv_X8_heft : LKV yX8_heft := ⟨AW_in (List.mem_of_getElem? (i := 770) (by decide +kernel)) rfl, AW_in (List.mem_of_getElem? (i := 771) (by decide +kernel)) rfl⟩
theorem lkc_L_106 : LKC RL 106 yX8_heft := Or.inl (AW_in (List.mem_of_getElem? (i := 769) (by decide +kernel)) rfl)
theorem lki_X9_heft : LKI yX9_heft cX9_heft 7 (some .int) 2 := ⟨AW_in (List.mem_of_getElem? (i := 1424) (by decide +kernel)) rfl, AW_in (List.mem_of_getElem? (i := 119) (by decide +kernel)) rfl, ⟨by decide +kernel, by decide +kernel⟩, by decide +kernel⟩
theorem lkv_X9_heft : LKV yX9_heft := ⟨AW_in (List.mem_of_getElem? (i := 1422) (by decide +kernel)) rfl, AW_in (List.mem_of_getElem? (i := 1423) (by decide +kernel)) rfl⟩
theorem lkc_L_109 : LKC RL 109 yX9_heft := Or.inl (AW_in (List.mem_of_getElem? (i := 1421) (by decide +kernel)) rfl)
theorem lki_X8_can : LKI yX8_can cX8_can 6 (some .int) 2 := ⟨AW_in (List.mem_of_getElem? (i := 788) (by decide +kernel)) rfl, AW_in (List.mem_of_getElem? (i := 110) (by decide +kernel)) rfl, ⟨by decide +kernel, by decide +kernel⟩, by decide +kernel⟩
theorem lkv_X8_can : LKV yX8_can := ⟨AW_in (List.mem_of_getElem? (i := 786) (by decide +kernel)) rfl, AW_in (List.mem_of_getElem? (i := 787) (by decide +kernel)) rfl⟩
theorem lkc_L_110 : LKC RL 110 yX8_can := Or.inl (AW_in (List.mem_of_getElem? (i := 785) (by decide +kernel)) rfl)
theorem lki_X9_can : LKI yX9_can cX9_can 7 (some .int) 2 := ⟨AW_in (List.mem_of_getElem? (i := 1436) (by decide +kernel)) rfl, AW_in (List.mem_of_getElem? (i := 119) (by decide +kernel)) rfl, ⟨by decide +kernel, by decide +kernel⟩, by decide +kernel⟩
theorem lkv_X9_can : LKV yX9_can := ⟨AW_in (List.mem_of_getElem? (i := 1434) (by decide +kernel)) rfl, AW_in (List.mem_of_getElem? (i := 1435) (by decide +kernel)) rfl⟩
theorem lkc_L_113 : LKC RL 113 yX9_can := Or.inl (AW_in (List.mem_of_getElem? (i := 1433) (by decide +kernel)) rfl)
theorem lki_X8_was : LKI yX8_was cX8_was 8 (some .int) 4 := ⟨AW_in (List.mem_of_getElem? (i := 792) (by decide +kernel)) rfl, AW_in (List.mem_of_getElem? (i := 110) (by decide +kernel)) rfl, ⟨by decide +kernel, by decide +kernel⟩, by decide +kernel⟩
theorem lkv_X8_was : LKV yX8_was := ⟨AW_in (List.mem_of_getElem? (i := 790) (by decide +kernel)) rfl, AW_in (List.mem_of_getElem? (i := 791) (by decide +kernel)) rfl⟩
theorem lkc_L_114 : LKC RL 114 yX8_was := Or.inl (AW_in (List.mem_of_getElem? (i := 789) (by decide +kernel)) rfl)
theorem lki_X9_was : LKI yX9_was cX9_was 9 (some .int) 4 := ⟨AW_in (List.mem_of_getElem? (i := 1440) (by decide +kernel)) rfl, AW_in (List.mem_of_getElem? (i := 119) (by decide +kernel)) rfl, ⟨by decide +kernel, by decide +kernel⟩, by decide +kernel⟩
theorem lkv_X9_was : LKV yX9_was := ⟨AW_in (List.mem_of_getElem? (i := 1438) (by decide +kernel)) rfl, AW_in (List.mem_of_getElem? (i := 1439) (by decide +kernel)) rfl⟩
theorem lkc_L_118 : LKC RL 118 yX9_was := Or.inl (AW_in (List.mem_of_getElem? (i := 1437) (by decide +kernel)) rfl)
theorem lki_X8_odds : LKI yX8_odds cX8_odds 6 (some .long) 2 := ⟨AW_in (List.mem_of_getElem? (i := 797) (by decide +kernel)) rfl, AW_in (List.mem_of_getElem? (i := 110) (by decide +kernel)) rfl, ⟨by decide +kernel, by decide +kernel⟩, by decide +kernel⟩
theorem lkv_X8_odds : LKV yX8_odds := ⟨AW_in (List.mem_of_getElem? (i := 795) (by decide +kernel)) rfl, AW_in (List.mem_of_getElem? (i := 796) (by decide +kernel)) rfl⟩
theorem lkc_L_119 : LKC RL 119 yX8_odds := Or.inl (AW_in (List.mem_of_getElem? (i := 794) (by decide +kernel)) rfl)
theorem lki_X9_odds : LKI yX9_odds cX9_odds 6 (some .long) 2 := ⟨AW_in (List.mem_of_getElem? (i := 1448) (by decide +kernel)) rfl, AW_in (List.mem_of_getElem? (i := 119) (by decide +kernel)) rfl, ⟨by decide +kernel, by decide +kernel⟩, by decide +kernel⟩
theorem lkv_X9_odds : LKV yX9_odds := ⟨AW_in (List.mem_of_getElem? (i := 1446) (by decide +kernel)) rfl, AW_in (List.mem_of_getElem? (i := 1447) (by decide +kernel)) rfl⟩
theorem lkc_L_123 : LKC RL 123 yX9_odds := Or.inl (AW_in (List.mem_of_getElem? (i := 1445) (by decide +kernel)) rfl)
theorem lki_X8_mean : LKI yX8_mean cX8_mean 3 (some .long) 2 := ⟨AW_in (List.mem_of_getElem? (i := 805) (by decide +kernel)) rfl, AW_in (List.mem_of_getElem? (i := 110) (by decide +kernel)) rfl, ⟨by decide +kernel, by decide +kernel⟩, by decide +kernel⟩
theorem lkv_X8_mean : LKV yX8_mean := ⟨AW_in (List.mem_of_getElem? (i := 803) (by decide +kernel)) rfl, AW_in (List.mem_of_getElem? (i := 804) (by decide +kernel)) rfl⟩
theorem lkc_L_124 : LKC RL 124 yX8_mean := Or.inl (AW_in (List.mem_of_getElem? (i := 802) (by decide +kernel)) rfl)
theorem lki_X9_mean : LKI yX9_mean cX9_mean 4 (some .long) 2 := ⟨AW_in (List.mem_of_getElem? (i := 1461) (by decide +kernel)) rfl, AW_in (List.mem_of_getElem? (i := 119) (by decide +kernel)) rfl, ⟨by decide +kernel, by decide +kernel⟩, by decide +kernel⟩
theorem lkv_X9_mean : LKV yX9_mean := ⟨AW_in (List.mem_of_getElem? (i := 1459) (by decide +kernel)) rfl, AW_in (List.mem_of_getElem? (i := 1460) (by decide +kernel)) rfl⟩
theorem lkc_L_127 : LKC RL 127 yX9_mean := Or.inl (AW_in (List.mem_of_getElem? (i := 1458) (by decide +kernel)) rfl)
theorem lki_X8_afternoon : LKI yX8_afternoon cX8_afternoon 3 (some .int) 2 := ⟨AW_in (List.mem_of_getElem? (i := 809) (by decide +kernel)) rfl, AW_in (List.mem_of_getElem? (i := 110) (by decide +kernel)) rfl, ⟨by decide +kernel, by decide +kernel⟩, by decide +kernel⟩
theorem lkv_X8_afternoon : LKV yX8_afternoon := ⟨AW_in (List.mem_of_getElem? (i := 807) (by decide +kernel)) rfl, AW_in (List.mem_of_getElem? (i := 808) (by decide +kernel)) rfl⟩
theorem lkc_L_128 : LKC RL 128 yX8_afternoon := Or.inl (AW_in (List.mem_of_getElem? (i := 806) (by decide +kernel)) rfl)
theorem lki_X9_afternoon : LKI yX9_afternoon cX9_afternoon 3 (some .int) 2 := ⟨AW_in (List.mem_of_getElem? (i := 1465) (by decide +kernel)) rfl, AW_in (List.mem_of_getElem? (i := 119) (by decide +kernel)) rfl, ⟨by decide +kernel, by decide +kernel⟩, by decide +kernel⟩
theorem lkv_X9_afternoon : LKV yX9_afternoon := ⟨AW_in (List.mem_of_getElem? (i := 1463) (by decide +kernel)) rfl, AW_in (List.mem_of_getElem? (i := 1464) (by decide +kernel)) rfl⟩
theorem lkc_L_131 : LKC RL 131 yX9_afternoon := Or.inl (AW_in (List.mem_of_getElem? (i := 1462) (by decide +kernel)) rfl)
theorem lki_X8_ends : LKI yX8_ends cX8_ends 4 (some .int) 1 := ⟨AW_in (List.mem_of_getElem? (i := 813) (by decide +kernel)) rfl, AW_in (List.mem_of_getElem? (i := 110) (by decide +kernel)) rfl, ⟨by decide +kernel, by decide +kernel⟩, by decide +kernel⟩
theorem lkv_X8_ends : LKV yX8_ends := ⟨AW_in (List.mem_of_getElem? (i := 811) (by decide +kernel)) rfl, AW_in (List.mem_of_getElem? (i := 812) (by decide +kernel)) rfl⟩
theorem lkc_L_132 : LKC RL 132 yX8_ends := Or.inl (AW_in (List.mem_of_getElem? (i := 810) (by decide +kernel)) rfl)
theorem lki_X9_ends : LKI yX9_ends cX9_ends 3 (some .int) 1 := ⟨AW_in (List.mem_of_getElem? (i := 1469) (by decide +kernel)) rfl, AW_in (List.mem_of_getElem? (i := 119) (by decide +kernel)) rfl, ⟨by decide +kernel, by decide +kernel⟩, by decide +kernel⟩
theorem lkv_X9_ends : LKV yX9_ends := ⟨AW_in (List.mem_of_getElem? (i := 1467) (by decide +kernel)) rfl, AW_in (List.mem_of_getElem? (i := 1468) (by decide +kernel)) rfl⟩
theorem lkc_L_135 : LKC RL 135 yX9_ends := Or.inl (AW_in (List.mem_of_getElem? (i := 1466) (by decide +kernel)) rfl)
theorem lki_X8_book : LKI yX8_book cX8_book 3 (some .int) 2 := ⟨AW_in (List.mem_of_getElem? (i := 817) (by decide +kernel)) rfl, AW_in (List.mem_of_getElem? (i := 110) (by decide +kernel)) rfl, ⟨by decide +kernel, by decide +kernel⟩, by decide +kernel⟩
theorem lkv_X8_book : LKV yX8_book := ⟨AW_in (List.mem_of_getElem? (i := 815) (by decide +kernel)) rfl, AW_in (List.mem_of_getElem? (i := 816) (by decide +kernel)) rfl⟩
theorem lkc_L_136 : LKC RL 136 yX8_book := Or.inl (AW_in (List.mem_of_getElem? (i := 814) (by decide +kernel)) rfl)
theorem lki_X9_book : LKI yX9_book cX9_book 3 (some .int) 2 := ⟨AW_in (List.mem_of_getElem? (i := 1477) (by decide +kernel)) rfl, AW_in (List.mem_of_getElem? (i := 119) (by decide +kernel)) rfl, ⟨by decide +kernel, by decide +kernel⟩, by decide +kernel⟩
theorem lkv_X9_book : LKV yX9_book := ⟨AW_in (List.mem_of_getElem? (i := 1475) (by decide +kernel)) rfl, AW_in (List.mem_of_getElem? (i := 1476) (by decide +kernel)) rfl⟩
theorem lkc_L_139 : LKC RL 139 yX9_book := Or.inl (AW_in (List.mem_of_getElem? (i := 1474) (by decide +kernel)) rfl)
theorem lki_X8_looked : LKI yX8_looked cX8_looked 2 (some .int) 0 := ⟨AW_in (List.mem_of_getElem? (i := 821) (by decide +kernel)) rfl, AW_in (List.mem_of_getElem? (i := 110) (by decide +kernel)) rfl, ⟨by decide +kernel, by decide +kernel⟩, by decide +kernel⟩
theorem lkv_X8_looked : LKV yX8_looked := ⟨AW_in (List.mem_of_getElem? (i := 819) (by decide +kernel)) rfl, AW_in (List.mem_of_getElem? (i := 820) (by decide +kernel)) rfl⟩
theorem lkc_L_140 : LKC RL 140 yX8_looked := Or.inl (AW_in (List.mem_of_getElem? (i := 818) (by decide +kernel)) rfl)
theorem lki_X9_looked : LKI yX9_looked cX9_looked 2 (some .int) 0 := ⟨AW_in (List.mem_of_getElem? (i := 1481) (by decide +kernel)) rfl, AW_in (List.mem_of_getElem? (i := 119) (by decide +kernel)) rfl, ⟨by decide +kernel, by decide +kernel⟩, by decide +kernel⟩
theorem lkv_X9_looked : LKV yX9_looked := ⟨AW_in (List.mem_of_getElem? (i := 1479) (by decide +kernel)) rfl, AW_in (List.mem_of_getElem? (i := 1480) (by decide +kernel)) rfl⟩
theorem lkc_L_143 : LKC RL 143 yX9_looked := Or.inl (AW_in (List.mem_of_getElem? (i := 1478) (by decide +kernel)) rfl)
theorem lki_X8_judge : LKI yX8_judge cX8_judge 6 (some .int) 2 := ⟨AW_in (List.mem_of_getElem? (i := 825) (by decide +kernel)) rfl, AW_in (List.mem_of_getElem? (i := 110) (by decide +kernel)) rfl, ⟨by decide +kernel, by decide +kernel⟩, by decide +kernel⟩
theorem lkv_X8_judge : LKV yX8_judge := ⟨AW_in (List.mem_of_getElem? (i := 823) (by decide +kernel)) rfl, AW_in (List.mem_of_getElem? (i := 824) (by decide +kernel)) rfl⟩
theorem lkc_L_144 : LKC RL 144 yX8_judge := Or.inl (AW_in (List.mem_of_getElem? (i := 822) (by decide +kernel)) rfl)
theorem lki_X9_judge : LKI yX9_judge cX9_judge 4 (some .int) 2 := ⟨AW_in (List.mem_of_getElem? (i := 1485) (by decide +kernel)) rfl, AW_in (List.mem_of_getElem? (i := 119) (by decide +kernel)) rfl, ⟨by decide +kernel, by decide +kernel⟩, by decide +kernel⟩
theorem lkv_X9_judge : LKV yX9_judge := ⟨AW_in (List.mem_of_getElem? (i := 1483) (by decide +kernel)) rfl, AW_in (List.mem_of_getElem? (i := 1484) (by decide +kernel)) rfl⟩
theorem lkc_L_147 : LKC RL 147 yX9_judge := Or.inl (AW_in (List.mem_of_getElem? (i := 1482) (by decide +kernel)) rfl)
theorem lki_X8_image : LKI yX8_image cX8_image 1 (some .int) 0 := ⟨AW_in (List.mem_of_getElem? (i := 834) (by decide +kernel)) rfl, AW_in (List.mem_of_getElem? (i := 110) (by decide +kernel)) rfl, ⟨by decide +kernel, by decide +kernel⟩, by decide +kernel⟩
theorem lkv_X8_image : LKV yX8_image := ⟨AW_in (List.mem_of_getElem? (i := 832) (by decide +kernel)) rfl, AW_in (List.mem_of_getElem? (i := 833) (by decide +kernel)) rfl⟩
theorem lkc_L_148 : LKC RL 148 yX8_image := Or.inl (AW_in (List.mem_of_getElem? (i := 831) (by decide +kernel)) rfl)
theorem lki_X9_image : LKI yX9_image cX9_image 2 (some .int) 0 := ⟨AW_in (List.mem_of_getElem? (i := 1493) (by decide +kernel)) rfl, AW_in (List.mem_of_getElem? (i := 119) (by decide +kernel)) rfl, ⟨by decide +kernel, by decide +kernel⟩, by decide +kernel⟩
theorem lkv_X9_image : LKV yX9_image := ⟨AW_in (List.mem_of_getElem? (i := 1491) (by decide +kernel)) rfl, AW_in (List.mem_of_getElem? (i := 1492) (by decide +kernel)) rfl⟩
theorem lkc_L_151 : LKC RL 151 yX9_image := Or.inl (AW_in (List.mem_of_getElem? (i := 1490) (by decide +kernel)) rfl)
theorem lki_X8_undo : LKI yX8_undo cX8_undo 1 (some .int) 0 := ⟨AW_in (List.mem_of_getElem? (i := 850) (by decide +kernel)) rfl, AW_in (List.mem_of_getElem? (i := 110) (by decide +kernel)) rfl, ⟨by decide +kernel, by decide +kernel⟩, by decide +kernel⟩
theorem lkv_X8_undo : LKV yX8_undo := ⟨AW_in (List.mem_of_getElem? (i := 848) (by decide +kernel)) rfl, AW_in (List.mem_of_getElem? (i := 849) (by decide +kernel)) rfl⟩
theorem lkc_L_152 : LKC RL 152 yX8_undo := Or.inl (AW_in (List.mem_of_getElem? (i := 847) (by decide +kernel)) rfl)
theorem lki_X9_undo : LKI yX9_undo cX9_undo 2 (some .int) 0 := ⟨AW_in (List.mem_of_getElem? (i := 1497) (by decide +kernel)) rfl, AW_in (List.mem_of_getElem? (i := 119) (by decide +kernel)) rfl, ⟨by decide +kernel, by decide +kernel⟩, by decide +kernel⟩
theorem lkv_X9_undo : LKV yX9_undo := ⟨AW_in (List.mem_of_getElem? (i := 1495) (by decide +kernel)) rfl, AW_in (List.mem_of_getElem? (i := 1496) (by decide +kernel)) rfl⟩
theorem lkc_L_155 : LKC RL 155 yX9_undo := Or.inl (AW_in (List.mem_of_getElem? (i := 1494) (by decide +kernel)) rfl)
theorem lki_X8_act : LKI yX8_act cX8_act 5 (some .int) 3 := ⟨AW_in (List.mem_of_getElem? (i := 854) (by decide +kernel)) rfl, AW_in (List.mem_of_getElem? (i := 110) (by decide +kernel)) rfl, ⟨by decide +kernel, by decide +kernel⟩, by decide +kernel⟩
theorem lkv_X8_act : LKV yX8_act := ⟨AW_in (List.mem_of_getElem? (i := 852) (by decide +kernel)) rfl, AW_in (List.mem_of_getElem? (i := 853) (by decide +kernel)) rfl⟩
theorem lkc_L_156 : LKC RL 156 yX8_act := Or.inl (AW_in (List.mem_of_getElem? (i := 851) (by decide +kernel)) rfl)
theorem lki_X9_act : LKI yX9_act cX9_act 4 (some .int) 3 := ⟨AW_in (List.mem_of_getElem? (i := 1501) (by decide +kernel)) rfl, AW_in (List.mem_of_getElem? (i := 119) (by decide +kernel)) rfl, ⟨by decide +kernel, by decide +kernel⟩, by decide +kernel⟩
theorem lkv_X9_act : LKV yX9_act := ⟨AW_in (List.mem_of_getElem? (i := 1499) (by decide +kernel)) rfl, AW_in (List.mem_of_getElem? (i := 1500) (by decide +kernel)) rfl⟩
theorem lkc_L_159 : LKC RL 159 yX9_act := Or.inl (AW_in (List.mem_of_getElem? (i := 1498) (by decide +kernel)) rfl)
theorem lki_X8_trace : LKI yX8_trace cX8_trace 2 (some .int) 1 := ⟨AW_in (List.mem_of_getElem? (i := 875) (by decide +kernel)) rfl, AW_in (List.mem_of_getElem? (i := 110) (by decide +kernel)) rfl, ⟨by decide +kernel, by decide +kernel⟩, by decide +kernel⟩
theorem lkv_X8_trace : LKV yX8_trace := ⟨AW_in (List.mem_of_getElem? (i := 873) (by decide +kernel)) rfl, AW_in (List.mem_of_getElem? (i := 874) (by decide +kernel)) rfl⟩
theorem lkc_L_160 : LKC RL 160 yX8_trace := Or.inl (AW_in (List.mem_of_getElem? (i := 872) (by decide +kernel)) rfl)
theorem lki_X9_trace : LKI yX9_trace cX9_trace 2 (some .int) 1 := ⟨AW_in (List.mem_of_getElem? (i := 1537) (by decide +kernel)) rfl, AW_in (List.mem_of_getElem? (i := 119) (by decide +kernel)) rfl, ⟨by decide +kernel, by decide +kernel⟩, by decide +kernel⟩
theorem lkv_X9_trace : LKV yX9_trace := ⟨AW_in (List.mem_of_getElem? (i := 1535) (by decide +kernel)) rfl, AW_in (List.mem_of_getElem? (i := 1536) (by decide +kernel)) rfl⟩
theorem lkc_L_163 : LKC RL 163 yX9_trace := Or.inl (AW_in (List.mem_of_getElem? (i := 1534) (by decide +kernel)) rfl)
theorem lki_X8_taken : LKI yX8_taken cX8_taken 6 (some .int) 2 := ⟨AW_in (List.mem_of_getElem? (i := 879) (by decide +kernel)) rfl, AW_in (List.mem_of_getElem? (i := 110) (by decide +kernel)) rfl, ⟨by decide +kernel, by decide +kernel⟩, by decide +kernel⟩
theorem lkv_X8_taken : LKV yX8_taken := ⟨AW_in (List.mem_of_getElem? (i := 877) (by decide +kernel)) rfl, AW_in (List.mem_of_getElem? (i := 878) (by decide +kernel)) rfl⟩
theorem lkc_L_164 : LKC RL 164 yX8_taken := Or.inl (AW_in (List.mem_of_getElem? (i := 876) (by decide +kernel)) rfl)
theorem lki_X9_taken : LKI yX9_taken cX9_taken 4 (some .int) 2 := ⟨AW_in (List.mem_of_getElem? (i := 1541) (by decide +kernel)) rfl, AW_in (List.mem_of_getElem? (i := 119) (by decide +kernel)) rfl, ⟨by decide +kernel, by decide +kernel⟩, by decide +kernel⟩
theorem lkv_X9_taken : LKV yX9_taken := ⟨AW_in (List.mem_of_getElem? (i := 1539) (by decide +kernel)) rfl, AW_in (List.mem_of_getElem? (i := 1540) (by decide +kernel)) rfl⟩
theorem lkc_L_167 : LKC RL 167 yX9_taken := Or.inl (AW_in (List.mem_of_getElem? (i := 1538) (by decide +kernel)) rfl)
theorem lki_X8_count : LKI yX8_count cX8_count 2 (some .int) 1 := ⟨AW_in (List.mem_of_getElem? (i := 884) (by decide +kernel)) rfl, AW_in (List.mem_of_getElem? (i := 110) (by decide +kernel)) rfl, ⟨by decide +kernel, by decide +kernel⟩, by decide +kernel⟩
theorem lkv_X8_count : LKV yX8_count := ⟨AW_in (List.mem_of_getElem? (i := 882) (by decide +kernel)) rfl, AW_in (List.mem_of_getElem? (i := 883) (by decide +kernel)) rfl⟩
theorem lkc_L_168 : LKC RL 168 yX8_count := Or.inl (AW_in (List.mem_of_getElem? (i := 881) (by decide +kernel)) rfl)
theorem lki_X9_count : LKI yX9_count cX9_count 2 (some .int) 1 := ⟨AW_in (List.mem_of_getElem? (i := 1545) (by decide +kernel)) rfl, AW_in (List.mem_of_getElem? (i := 119) (by decide +kernel)) rfl, ⟨by decide +kernel, by decide +kernel⟩, by decide +kernel⟩
theorem lkv_X9_count : LKV yX9_count := ⟨AW_in (List.mem_of_getElem? (i := 1543) (by decide +kernel)) rfl, AW_in (List.mem_of_getElem? (i := 1544) (by decide +kernel)) rfl⟩
theorem lkc_L_171 : LKC RL 171 yX9_count := Or.inl (AW_in (List.mem_of_getElem? (i := 1542) (by decide +kernel)) rfl)
theorem lki_X8_tape : LKI yX8_tape cX8_tape 4 (some .int) 3 := ⟨AW_in (List.mem_of_getElem? (i := 888) (by decide +kernel)) rfl, AW_in (List.mem_of_getElem? (i := 110) (by decide +kernel)) rfl, ⟨by decide +kernel, by decide +kernel⟩, by decide +kernel⟩
theorem lkv_X8_tape : LKV yX8_tape := ⟨AW_in (List.mem_of_getElem? (i := 886) (by decide +kernel)) rfl, AW_in (List.mem_of_getElem? (i := 887) (by decide +kernel)) rfl⟩
theorem lkc_L_172 : LKC RL 172 yX8_tape := Or.inl (AW_in (List.mem_of_getElem? (i := 885) (by decide +kernel)) rfl)
theorem lki_X9_tape : LKI yX9_tape cX9_tape 5 (some .int) 3 := ⟨AW_in (List.mem_of_getElem? (i := 1549) (by decide +kernel)) rfl, AW_in (List.mem_of_getElem? (i := 119) (by decide +kernel)) rfl, ⟨by decide +kernel, by decide +kernel⟩, by decide +kernel⟩
theorem lkv_X9_tape : LKV yX9_tape := ⟨AW_in (List.mem_of_getElem? (i := 1547) (by decide +kernel)) rfl, AW_in (List.mem_of_getElem? (i := 1548) (by decide +kernel)) rfl⟩
theorem lkc_L_175 : LKC RL 175 yX9_tape := Or.inl (AW_in (List.mem_of_getElem? (i := 1546) (by decide +kernel)) rfl)
theorem aw_161 : Cond.constantLong RL 176 4294967295 ∈ AW := AW_in (List.mem_of_getElem? (i := 1566) (by decide +kernel)) rfl
theorem lki_X8_item : LKI yX8_item cX8_item 6 (some .int) 3 := ⟨AW_in (List.mem_of_getElem? (i := 896) (by decide +kernel)) rfl, AW_in (List.mem_of_getElem? (i := 110) (by decide +kernel)) rfl, ⟨by decide +kernel, by decide +kernel⟩, by decide +kernel⟩
theorem lkv_X8_item : LKV yX8_item := ⟨AW_in (List.mem_of_getElem? (i := 894) (by decide +kernel)) rfl, AW_in (List.mem_of_getElem? (i := 895) (by decide +kernel)) rfl⟩
theorem lkc_L_178 : LKC RL 178 yX8_item := Or.inl (AW_in (List.mem_of_getElem? (i := 893) (by decide +kernel)) rfl)
theorem lki_X9_item : LKI yX9_item cX9_item 5 (some .int) 3 := ⟨AW_in (List.mem_of_getElem? (i := 1553) (by decide +kernel)) rfl, AW_in (List.mem_of_getElem? (i := 119) (by decide +kernel)) rfl, ⟨by decide +kernel, by decide +kernel⟩, by decide +kernel⟩
theorem lkv_X9_item : LKV yX9_item := ⟨AW_in (List.mem_of_getElem? (i := 1551) (by decide +kernel)) rfl, AW_in (List.mem_of_getElem? (i := 1552) (by decide +kernel)) rfl⟩
theorem lkc_L_182 : LKC RL 182 yX9_item := Or.inl (AW_in (List.mem_of_getElem? (i := 1550) (by decide +kernel)) rfl)
theorem lki_X8_read : LKI yX8_read cX8_read 3 (some .long) 2 := ⟨AW_in (List.mem_of_getElem? (i := 904) (by decide +kernel)) rfl, AW_in (List.mem_of_getElem? (i := 110) (by decide +kernel)) rfl, ⟨by decide +kernel, by decide +kernel⟩, by decide +kernel⟩
theorem lkv_X8_read : LKV yX8_read := ⟨AW_in (List.mem_of_getElem? (i := 902) (by decide +kernel)) rfl, AW_in (List.mem_of_getElem? (i := 903) (by decide +kernel)) rfl⟩
theorem lkc_L_183 : LKC RL 183 yX8_read := Or.inl (AW_in (List.mem_of_getElem? (i := 901) (by decide +kernel)) rfl)
theorem lki_X9_read : LKI yX9_read cX9_read 3 (some .long) 2 := ⟨AW_in (List.mem_of_getElem? (i := 1561) (by decide +kernel)) rfl, AW_in (List.mem_of_getElem? (i := 119) (by decide +kernel)) rfl, ⟨by decide +kernel, by decide +kernel⟩, by decide +kernel⟩
theorem lkv_X9_read : LKV yX9_read := ⟨AW_in (List.mem_of_getElem? (i := 1559) (by decide +kernel)) rfl, AW_in (List.mem_of_getElem? (i := 1560) (by decide +kernel)) rfl⟩
theorem lkc_L_186 : LKC RL 186 yX9_read := Or.inl (AW_in (List.mem_of_getElem? (i := 1558) (by decide +kernel)) rfl)
theorem lki_X8_shift : LKI yX8_shift cX8_shift 8 (some .int) 5 := ⟨AW_in (List.mem_of_getElem? (i := 908) (by decide +kernel)) rfl, AW_in (List.mem_of_getElem? (i := 110) (by decide +kernel)) rfl, ⟨by decide +kernel, by decide +kernel⟩, by decide +kernel⟩
theorem lkv_X8_shift : LKV yX8_shift := ⟨AW_in (List.mem_of_getElem? (i := 906) (by decide +kernel)) rfl, AW_in (List.mem_of_getElem? (i := 907) (by decide +kernel)) rfl⟩
theorem lkc_L_187 : LKC RL 187 yX8_shift := Or.inl (AW_in (List.mem_of_getElem? (i := 905) (by decide +kernel)) rfl)
theorem lki_X9_shift : LKI yX9_shift cX9_shift 7 (some .int) 5 := ⟨AW_in (List.mem_of_getElem? (i := 1565) (by decide +kernel)) rfl, AW_in (List.mem_of_getElem? (i := 119) (by decide +kernel)) rfl, ⟨by decide +kernel, by decide +kernel⟩, by decide +kernel⟩
theorem lkv_X9_shift : LKV yX9_shift := ⟨AW_in (List.mem_of_getElem? (i := 1563) (by decide +kernel)) rfl, AW_in (List.mem_of_getElem? (i := 1564) (by decide +kernel)) rfl⟩
theorem lkc_L_191 : LKC RL 191 yX9_shift := Or.inl (AW_in (List.mem_of_getElem? (i := 1562) (by decide +kernel)) rfl)
