theorem kb_m38 : (Int8.ofInt (-38)).toInt32 = (-38) := by decide
theorem kb_m33 : (Int8.ofInt (-33)).toInt32 = (-33) := by decide
theorem kb_m14 : (Int8.ofInt (-14)).toInt32 = (-14) := by decide
theorem kb_m13 : (Int8.ofInt (-13)).toInt32 = (-13) := by decide
theorem kb_m12 : (Int8.ofInt (-12)).toInt32 = (-12) := by decide
theorem kb_m11 : (Int8.ofInt (-11)).toInt32 = (-11) := by decide
theorem kb_m10 : (Int8.ofInt (-10)).toInt32 = (-10) := by decide
theorem kb_m5 : (Int8.ofInt (-5)).toInt32 = (-5) := by decide
theorem kb_m4 : (Int8.ofInt (-4)).toInt32 = (-4) := by decide
theorem kb_m3 : (Int8.ofInt (-3)).toInt32 = (-3) := by decide
theorem kb_m2 : (Int8.ofInt (-2)).toInt32 = (-2) := by decide
theorem kb_6 : (Int8.ofInt 6).toInt32 = 6 := by decide
theorem kb_7 : (Int8.ofInt 7).toInt32 = 7 := by decide
theorem kb_8 : (Int8.ofInt 8).toInt32 = 8 := by decide
theorem kb_9 : (Int8.ofInt 9).toInt32 = 9 := by decide
theorem kb_10 : (Int8.ofInt 10).toInt32 = 10 := by decide
theorem kb_11 : (Int8.ofInt 11).toInt32 = 11 := by decide
theorem kb_12 : (Int8.ofInt 12).toInt32 = 12 := by decide
theorem kb_13 : (Int8.ofInt 13).toInt32 = 13 := by decide
theorem kb_14 : (Int8.ofInt 14).toInt32 = 14 := by decide
theorem kb_15 : (Int8.ofInt 15).toInt32 = 15 := by decide
theorem kb_16 : (Int8.ofInt 16).toInt32 = 16 := by decide
theorem kb_17 : (Int8.ofInt 17).toInt32 = 17 := by decide
theorem kb_18 : (Int8.ofInt 18).toInt32 = 18 := by decide
theorem kb_19 : (Int8.ofInt 19).toInt32 = 19 := by decide
theorem kb_20 : (Int8.ofInt 20).toInt32 = 20 := by decide
theorem kb_25 : (Int8.ofInt 25).toInt32 = 25 := by decide
theorem kb_26 : (Int8.ofInt 26).toInt32 = 26 := by decide
theorem kb_30 : (Int8.ofInt 30).toInt32 = 30 := by decide
theorem kb_32 : (Int8.ofInt 32).toInt32 = 32 := by decide
theorem kb_33 : (Int8.ofInt 33).toInt32 = 33 := by decide
theorem kb_38 : (Int8.ofInt 38).toInt32 = 38 := by decide
theorem kb_40 : (Int8.ofInt 40).toInt32 = 40 := by decide
theorem kb_41 : (Int8.ofInt 41).toInt32 = 41 := by decide
theorem kb_48 : (Int8.ofInt 48).toInt32 = 48 := by decide
theorem kb_50 : (Int8.ofInt 50).toInt32 = 50 := by decide
theorem kb_51 : (Int8.ofInt 51).toInt32 = 51 := by decide
theorem kb_57 : (Int8.ofInt 57).toInt32 = 57 := by decide
theorem kb_59 : (Int8.ofInt 59).toInt32 = 59 := by decide
theorem kb_60 : (Int8.ofInt 60).toInt32 = 60 := by decide
theorem kb_61 : (Int8.ofInt 61).toInt32 = 61 := by decide
theorem kb_62 : (Int8.ofInt 62).toInt32 = 62 := by decide
theorem kb_63 : (Int8.ofInt 63).toInt32 = 63 := by decide
theorem kb_70 : (Int8.ofInt 70).toInt32 = 70 := by decide
theorem kb_71 : (Int8.ofInt 71).toInt32 = 71 := by decide
theorem kb_80 : (Int8.ofInt 80).toInt32 = 80 := by decide
theorem kb_99 : (Int8.ofInt 99).toInt32 = 99 := by decide
theorem kb_100 : (Int8.ofInt 100).toInt32 = 100 := by decide
theorem kb_101 : (Int8.ofInt 101).toInt32 = 101 := by decide
theorem kb_104 : (Int8.ofInt 104).toInt32 = 104 := by decide
theorem kb_105 : (Int8.ofInt 105).toInt32 = 105 := by decide
theorem kb_107 : (Int8.ofInt 107).toInt32 = 107 := by decide
theorem kb_108 : (Int8.ofInt 108).toInt32 = 108 := by decide
theorem kb_109 : (Int8.ofInt 109).toInt32 = 109 := by decide
theorem kb_110 : (Int8.ofInt 110).toInt32 = 110 := by decide
theorem kb_111 : (Int8.ofInt 111).toInt32 = 111 := by decide
theorem kb_112 : (Int8.ofInt 112).toInt32 = 112 := by decide
theorem kb_115 : (Int8.ofInt 115).toInt32 = 115 := by decide
theorem kb_116 : (Int8.ofInt 116).toInt32 = 116 := by decide
theorem kb_124 : (Int8.ofInt 124).toInt32 = 124 := by decide
theorem kb_127 : (Int8.ofInt 127).toInt32 = 127 := by decide
theorem ki_m1 : Int32.ofInt (-1) = (-1) := by decide
theorem ki_0 : Int32.ofInt 0 = 0 := by decide
theorem ki_1 : Int32.ofInt 1 = 1 := by decide
theorem ki_2 : Int32.ofInt 2 = 2 := by decide
theorem ki_3 : Int32.ofInt 3 = 3 := by decide
theorem ki_4 : Int32.ofInt 4 = 4 := by decide
theorem ki_5 : Int32.ofInt 5 = 5 := by decide
theorem ks_m4370 : (Int16.ofInt (-4370)).toInt32 = (-4370) := by decide
theorem ks_m1001 : (Int16.ofInt (-1001)).toInt32 = (-1001) := by decide
theorem ks_128 : (Int16.ofInt 128).toInt32 = 128 := by decide
theorem ks_255 : (Int16.ofInt 255).toInt32 = 255 := by decide
theorem ks_360 : (Int16.ofInt 360).toInt32 = 360 := by decide
theorem ks_600 : (Int16.ofInt 600).toInt32 = 600 := by decide
theorem ks_999 : (Int16.ofInt 999).toInt32 = 999 := by decide
theorem ks_1000 : (Int16.ofInt 1000).toInt32 = 1000 := by decide
theorem ks_1600 : (Int16.ofInt 1600).toInt32 = 1600 := by decide
theorem ks_4369 : (Int16.ofInt 4369).toInt32 = 4369 := by decide
theorem ks_9999 : (Int16.ofInt 9999).toInt32 = 9999 := by decide
theorem ks_13107 : (Int16.ofInt 13107).toInt32 = 13107 := by decide
theorem aw_0 : Cond.methodLink RX2 3 Lib.objectInit ∈ AW := AW_in (List.mem_of_getElem? (i := 147) (by decide +kernel)) rfl
theorem aw_1 : Cond.instanceMethod Lib.objectInit ∈ AW := AW_in (List.mem_of_getElem? (i := 134) (by decide +kernel)) rfl
theorem aw_2 : Cond.code Lib.objectInit ⟨#[0xb1]⟩ 1 none ∈ AW := AW_in (List.mem_of_getElem? (i := 135) (by decide +kernel)) rfl
theorem aw_3 : Cond.arrayClass (newarray.typeOf .int) ∈ AW := AW_in (List.mem_of_getElem? (i := 158) (by decide +kernel)) rfl
theorem fl_X2_9 : FLk RX2 9 2 0 := ⟨by decide, (RX2, TX2, 2), rfl, by decide, Or.inl (AW_in (List.mem_of_getElem? (i := 148) (by decide +kernel)) rfl)⟩
theorem aw_4 : Cond.fieldLink RX2 9 RX2 "strength" "[I" ∈ AW := AW_in (List.mem_of_getElem? (i := 148) (by decide +kernel)) rfl
theorem aw_5 : Cond.methodLink RX4 3 Lib.objectInit ∈ AW := AW_in (List.mem_of_getElem? (i := 166) (by decide +kernel)) rfl
theorem fl_X4_9 : FLk RX4 9 4 0 := ⟨by decide, (RX4, TX4, 5), rfl, by decide, Or.inl (AW_in (List.mem_of_getElem? (i := 167) (by decide +kernel)) rfl)⟩
theorem aw_6 : Cond.fieldLink RX4 9 RX4 "limit" "I" ∈ AW := AW_in (List.mem_of_getElem? (i := 167) (by decide +kernel)) rfl
theorem fl_X4_15 : FLk RX4 15 4 1 := ⟨by decide, (RX4, TX4, 5), rfl, by decide, Or.inl (AW_in (List.mem_of_getElem? (i := 168) (by decide +kernel)) rfl)⟩
theorem aw_7 : Cond.fieldLink RX4 15 RX4 "first" "[I" ∈ AW := AW_in (List.mem_of_getElem? (i := 168) (by decide +kernel)) rfl
theorem fl_X4_19 : FLk RX4 19 4 2 := ⟨by decide, (RX4, TX4, 5), rfl, by decide, Or.inl (AW_in (List.mem_of_getElem? (i := 170) (by decide +kernel)) rfl)⟩
theorem aw_8 : Cond.fieldLink RX4 19 RX4 "second" "[I" ∈ AW := AW_in (List.mem_of_getElem? (i := 170) (by decide +kernel)) rfl
theorem fl_X4_22 : FLk RX4 22 4 3 := ⟨by decide, (RX4, TX4, 5), rfl, by decide, Or.inl (AW_in (List.mem_of_getElem? (i := 172) (by decide +kernel)) rfl)⟩
theorem aw_9 : Cond.fieldLink RX4 22 RX4 "third" "[I" ∈ AW := AW_in (List.mem_of_getElem? (i := 172) (by decide +kernel)) rfl
theorem aw_10 : Cond.methodLink RX7 3 Lib.objectInit ∈ AW := AW_in (List.mem_of_getElem? (i := 191) (by decide +kernel)) rfl
theorem fl_X7_9 : FLk RX7 9 7 3 := ⟨by decide, (RX7, TX7, 4), rfl, by decide, Or.inl (AW_in (List.mem_of_getElem? (i := 198) (by decide +kernel)) rfl)⟩
theorem aw_11 : Cond.fieldLink RX7 9 RX7 "lineOfRows" "[I" ∈ AW := AW_in (List.mem_of_getElem? (i := 198) (by decide +kernel)) rfl
theorem aw_12 : Cond.methodLink RX5 3 Lib.objectInit ∈ AW := AW_in (List.mem_of_getElem? (i := 141) (by decide +kernel)) rfl
theorem aw_13 : Cond.classLink RX5 9 RX2 ∈ AW := AW_in (List.mem_of_getElem? (i := 142) (by decide +kernel)) rfl
theorem aw_14 : Cond.instantiable RX2 2 ∈ AW := AW_in (List.mem_of_getElem? (i := 143) (by decide +kernel)) rfl
theorem aw_15 : Cond.initialized RX2 ∈ AW := AW_in (List.mem_of_getElem? (i := 112) (by decide +kernel)) rfl
theorem lki_X2_init : LKI yX2_init cX2_init 1 none 0 := ⟨AW_in (List.mem_of_getElem? (i := 146) (by decide +kernel)) rfl, AW_in (List.mem_of_getElem? (i := 112) (by decide +kernel)) rfl, ⟨by decide +kernel, by decide +kernel⟩, by decide +kernel⟩
theorem lkv_X2_init : Cond.instanceMethod yX2_init ∈ AW ∧ yX2_init.name = "<init>" := ⟨AW_in (List.mem_of_getElem? (i := 145) (by decide +kernel)) rfl, rfl⟩
theorem lkc_X5_11 : LKC RX5 11 yX2_init := Or.inr ⟨"BearMouse", NW_in (List.mem_of_getElem? (i := 144) (by decide +kernel)) rfl⟩
theorem fl_X5_12 : FLk RX5 12 5 0 := ⟨by decide, (RX5, TX5, 8), rfl, by decide, Or.inl (AW_in (List.mem_of_getElem? (i := 209) (by decide +kernel)) rfl)⟩
theorem aw_16 : Cond.fieldLink RX5 12 RX5 "cup" "LBearMouse$Cup;" ∈ AW := AW_in (List.mem_of_getElem? (i := 209) (by decide +kernel)) rfl
theorem aw_17 : Cond.classLink RX5 18 "BearMouse$Walker" ∈ AW := AW_in (List.mem_of_getElem? (i := 159) (by decide +kernel)) rfl
theorem fl_X5_20 : FLk RX5 20 5 1 := ⟨by decide, (RX5, TX5, 8), rfl, by decide, Or.inl (AW_in (List.mem_of_getElem? (i := 211) (by decide +kernel)) rfl)⟩
theorem aw_18 : Cond.fieldLink RX5 20 RX5 "walkers" "[LBearMouse$Walker;" ∈ AW := AW_in (List.mem_of_getElem? (i := 211) (by decide +kernel)) rfl
theorem aw_19 : Cond.classLink RX5 24 RX4 ∈ AW := AW_in (List.mem_of_getElem? (i := 161) (by decide +kernel)) rfl
theorem aw_20 : Cond.instantiable RX4 5 ∈ AW := AW_in (List.mem_of_getElem? (i := 162) (by decide +kernel)) rfl
theorem aw_21 : Cond.initialized RX4 ∈ AW := AW_in (List.mem_of_getElem? (i := 113) (by decide +kernel)) rfl
theorem lki_X4_init : LKI yX4_init cX4_init 2 none 1 := ⟨AW_in (List.mem_of_getElem? (i := 165) (by decide +kernel)) rfl, AW_in (List.mem_of_getElem? (i := 113) (by decide +kernel)) rfl, ⟨by decide +kernel, by decide +kernel⟩, by decide +kernel⟩
theorem lkv_X4_init : Cond.instanceMethod yX4_init ∈ AW ∧ yX4_init.name = "<init>" := ⟨AW_in (List.mem_of_getElem? (i := 164) (by decide +kernel)) rfl, rfl⟩
theorem lkc_X5_26 : LKC RX5 26 yX4_init := Or.inr ⟨"BearMouse", NW_in (List.mem_of_getElem? (i := 163) (by decide +kernel)) rfl⟩
theorem fl_X5_29 : FLk RX5 29 5 4 := ⟨by decide, (RX5, TX5, 8), rfl, by decide, Or.inl (AW_in (List.mem_of_getElem? (i := 217) (by decide +kernel)) rfl)⟩
theorem aw_22 : Cond.fieldLink RX5 29 RX5 "seen" "LBearMouse$Rows;" ∈ AW := AW_in (List.mem_of_getElem? (i := 217) (by decide +kernel)) rfl
theorem fl_X5_33 : FLk RX5 33 5 5 := ⟨by decide, (RX5, TX5, 8), rfl, by decide, Or.inl (AW_in (List.mem_of_getElem? (i := 219) (by decide +kernel)) rfl)⟩
theorem aw_23 : Cond.fieldLink RX5 33 RX5 "afternoon" "LBearMouse$Rows;" ∈ AW := AW_in (List.mem_of_getElem? (i := 219) (by decide +kernel)) rfl
theorem fl_X5_36 : FLk RX5 36 5 6 := ⟨by decide, (RX5, TX5, 8), rfl, by decide, Or.inl (AW_in (List.mem_of_getElem? (i := 221) (by decide +kernel)) rfl)⟩
theorem aw_24 : Cond.fieldLink RX5 36 RX5 "book" "LBearMouse$Rows;" ∈ AW := AW_in (List.mem_of_getElem? (i := 221) (by decide +kernel)) rfl
theorem aw_25 : Cond.classLink RX5 18 RX7 ∈ AW := AW_in (List.mem_of_getElem? (i := 159) (by decide +kernel)) rfl
theorem aw_26 : Cond.instantiable RX7 4 ∈ AW := AW_in (List.mem_of_getElem? (i := 187) (by decide +kernel)) rfl
theorem aw_27 : Cond.initialized RX7 ∈ AW := AW_in (List.mem_of_getElem? (i := 114) (by decide +kernel)) rfl
theorem lki_X7_init : LKI yX7_init cX7_init 1 none 0 := ⟨AW_in (List.mem_of_getElem? (i := 190) (by decide +kernel)) rfl, AW_in (List.mem_of_getElem? (i := 114) (by decide +kernel)) rfl, ⟨by decide +kernel, by decide +kernel⟩, by decide +kernel⟩
theorem lkv_X7_init : Cond.instanceMethod yX7_init ∈ AW ∧ yX7_init.name = "<init>" := ⟨AW_in (List.mem_of_getElem? (i := 189) (by decide +kernel)) rfl, rfl⟩
theorem lkc_X5_39 : LKC RX5 39 yX7_init := Or.inr ⟨"BearMouse", NW_in (List.mem_of_getElem? (i := 188) (by decide +kernel)) rfl⟩
theorem aw_28 : Cond.methodLink RX3 3 Lib.objectInit ∈ AW := AW_in (List.mem_of_getElem? (i := 247) (by decide +kernel)) rfl
theorem aw_29 : Cond.arrayClass (newarray.typeOf .char) ∈ AW := AW_in (List.mem_of_getElem? (i := 280) (by decide +kernel)) rfl
theorem fl_X3_11 : FLk RX3 11 3 0 := ⟨by decide, (RX3, TX3, 9), rfl, by decide, Or.inl (AW_in (List.mem_of_getElem? (i := 248) (by decide +kernel)) rfl)⟩
theorem aw_30 : Cond.fieldLink RX3 11 RX3 "text" "[C" ∈ AW := AW_in (List.mem_of_getElem? (i := 248) (by decide +kernel)) rfl
theorem fl_X3_15 : FLk RX3 15 3 6 := ⟨by decide, (RX3, TX3, 9), rfl, by decide, Or.inl (AW_in (List.mem_of_getElem? (i := 255) (by decide +kernel)) rfl)⟩
theorem aw_31 : Cond.fieldLink RX3 15 RX3 "growth" "[I" ∈ AW := AW_in (List.mem_of_getElem? (i := 255) (by decide +kernel)) rfl
theorem aw_32 : Cond.methodLink RX0 3 Lib.objectInit ∈ AW := AW_in (List.mem_of_getElem? (i := 286) (by decide +kernel)) rfl
theorem fl_X0_11 : FLk RX0 11 0 0 := ⟨by decide, (RX0, TX0, 5), rfl, by decide, Or.inl (AW_in (List.mem_of_getElem? (i := 287) (by decide +kernel)) rfl)⟩
theorem aw_33 : Cond.fieldLink RX0 11 RX0 "bodies" "[I" ∈ AW := AW_in (List.mem_of_getElem? (i := 287) (by decide +kernel)) rfl
theorem aw_34 : Cond.methodLink RX1 3 Lib.objectInit ∈ AW := AW_in (List.mem_of_getElem? (i := 319) (by decide +kernel)) rfl
theorem fl_X1_9 : FLk RX1 9 1 0 := ⟨by decide, (RX1, TX1, 3), rfl, by decide, Or.inl (AW_in (List.mem_of_getElem? (i := 320) (by decide +kernel)) rfl)⟩
theorem aw_35 : Cond.fieldLink RX1 9 RX1 "growth" "[I" ∈ AW := AW_in (List.mem_of_getElem? (i := 320) (by decide +kernel)) rfl
theorem fl_X1_15 : FLk RX1 15 1 1 := ⟨by decide, (RX1, TX1, 3), rfl, by decide, Or.inl (AW_in (List.mem_of_getElem? (i := 321) (by decide +kernel)) rfl)⟩
theorem aw_36 : Cond.fieldLink RX1 15 RX1 "spoon" "I" ∈ AW := AW_in (List.mem_of_getElem? (i := 321) (by decide +kernel)) rfl
theorem fl_X1_19 : FLk RX1 19 1 2 := ⟨by decide, (RX1, TX1, 3), rfl, by decide, Or.inl (AW_in (List.mem_of_getElem? (i := 324) (by decide +kernel)) rfl)⟩
theorem aw_37 : Cond.fieldLink RX1 19 RX1 "milk" "I" ∈ AW := AW_in (List.mem_of_getElem? (i := 324) (by decide +kernel)) rfl
theorem aw_38 : Cond.methodLink RX6 1 Lib.objectInit ∈ AW := AW_in (List.mem_of_getElem? (i := 338) (by decide +kernel)) rfl
theorem fl_X6_9 : FLk RX6 9 6 0 := ⟨by decide, (RX6, TX6, 3), rfl, by decide, Or.inl (AW_in (List.mem_of_getElem? (i := 339) (by decide +kernel)) rfl)⟩
theorem aw_39 : Cond.arrayClass (newarray.typeOf .long) ∈ AW := AW_in (List.mem_of_getElem? (i := 352) (by decide +kernel)) rfl
theorem fl_X6_13 : FLk RX6 13 6 2 := ⟨by decide, (RX6, TX6, 3), rfl, by decide, Or.inl (AW_in (List.mem_of_getElem? (i := 343) (by decide +kernel)) rfl)⟩
theorem aw_40 : Cond.fieldLink RX6 13 RX6 "items" "[J" ∈ AW := AW_in (List.mem_of_getElem? (i := 343) (by decide +kernel)) rfl
theorem aw_41 : Cond.methodLink RX8 3 Lib.objectInit ∈ AW := AW_in (List.mem_of_getElem? (i := 133) (by decide +kernel)) rfl
theorem aw_42 : Cond.classLink RX8 9 RX5 ∈ AW := AW_in (List.mem_of_getElem? (i := 136) (by decide +kernel)) rfl
theorem aw_43 : Cond.instantiable RX5 8 ∈ AW := AW_in (List.mem_of_getElem? (i := 137) (by decide +kernel)) rfl
theorem aw_44 : Cond.initialized RX5 ∈ AW := AW_in (List.mem_of_getElem? (i := 111) (by decide +kernel)) rfl
theorem lki_X5_init : LKI yX5_init cX5_init 2 none 0 := ⟨AW_in (List.mem_of_getElem? (i := 140) (by decide +kernel)) rfl, AW_in (List.mem_of_getElem? (i := 111) (by decide +kernel)) rfl, ⟨by decide +kernel, by decide +kernel⟩, by decide +kernel⟩
theorem lkv_X5_init : Cond.instanceMethod yX5_init ∈ AW ∧ yX5_init.name = "<init>" := ⟨AW_in (List.mem_of_getElem? (i := 139) (by decide +kernel)) rfl, rfl⟩
theorem lkc_X8_11 : LKC RX8 11 yX5_init := Or.inr ⟨"BearMouse", NW_in (List.mem_of_getElem? (i := 138) (by decide +kernel)) rfl⟩
theorem fl_X8_12 : FLk RX8 12 8 0 := ⟨by decide, (RX8, TX8, 10), rfl, by decide, Or.inl (AW_in (List.mem_of_getElem? (i := 353) (by decide +kernel)) rfl)⟩
theorem aw_45 : Cond.fieldLink RX8 12 RX8 "now" "LBearMouse$Scene;" ∈ AW := AW_in (List.mem_of_getElem? (i := 353) (by decide +kernel)) rfl
theorem fl_X8_18 : FLk RX8 18 8 1 := ⟨by decide, (RX8, TX8, 10), rfl, by decide, Or.inl (AW_in (List.mem_of_getElem? (i := 354) (by decide +kernel)) rfl)⟩
theorem aw_46 : Cond.fieldLink RX8 18 RX8 "kept" "LBearMouse$Scene;" ∈ AW := AW_in (List.mem_of_getElem? (i := 354) (by decide +kernel)) rfl
theorem aw_47 : Cond.classLink RX8 21 RX3 ∈ AW := AW_in (List.mem_of_getElem? (i := 242) (by decide +kernel)) rfl
theorem aw_48 : Cond.instantiable RX3 9 ∈ AW := AW_in (List.mem_of_getElem? (i := 243) (by decide +kernel)) rfl
theorem aw_49 : Cond.initialized RX3 ∈ AW := AW_in (List.mem_of_getElem? (i := 115) (by decide +kernel)) rfl
theorem lki_X3_init : LKI yX3_init cX3_init 1 none 0 := ⟨AW_in (List.mem_of_getElem? (i := 246) (by decide +kernel)) rfl, AW_in (List.mem_of_getElem? (i := 115) (by decide +kernel)) rfl, ⟨by decide +kernel, by decide +kernel⟩, by decide +kernel⟩
theorem lkv_X3_init : Cond.instanceMethod yX3_init ∈ AW ∧ yX3_init.name = "<init>" := ⟨AW_in (List.mem_of_getElem? (i := 245) (by decide +kernel)) rfl, rfl⟩
theorem lkc_X8_23 : LKC RX8 23 yX3_init := Or.inr ⟨"BearMouse", NW_in (List.mem_of_getElem? (i := 244) (by decide +kernel)) rfl⟩
theorem fl_X8_24 : FLk RX8 24 8 4 := ⟨by decide, (RX8, TX8, 10), rfl, by decide, Or.inl (AW_in (List.mem_of_getElem? (i := 357) (by decide +kernel)) rfl)⟩
theorem aw_50 : Cond.fieldLink RX8 24 RX8 "reader" "LBearMouse$Reader;" ∈ AW := AW_in (List.mem_of_getElem? (i := 357) (by decide +kernel)) rfl
theorem aw_51 : Cond.classLink RX8 28 RX0 ∈ AW := AW_in (List.mem_of_getElem? (i := 281) (by decide +kernel)) rfl
theorem aw_52 : Cond.instantiable RX0 5 ∈ AW := AW_in (List.mem_of_getElem? (i := 282) (by decide +kernel)) rfl
theorem aw_53 : Cond.initialized RX0 ∈ AW := AW_in (List.mem_of_getElem? (i := 116) (by decide +kernel)) rfl
theorem lki_X0_init : LKI yX0_init cX0_init 1 none 0 := ⟨AW_in (List.mem_of_getElem? (i := 285) (by decide +kernel)) rfl, AW_in (List.mem_of_getElem? (i := 116) (by decide +kernel)) rfl, ⟨by decide +kernel, by decide +kernel⟩, by decide +kernel⟩
theorem lkv_X0_init : Cond.instanceMethod yX0_init ∈ AW ∧ yX0_init.name = "<init>" := ⟨AW_in (List.mem_of_getElem? (i := 284) (by decide +kernel)) rfl, rfl⟩
theorem lkc_X8_30 : LKC RX8 30 yX0_init := Or.inr ⟨"BearMouse", NW_in (List.mem_of_getElem? (i := 283) (by decide +kernel)) rfl⟩
theorem fl_X8_31 : FLk RX8 31 8 5 := ⟨by decide, (RX8, TX8, 10), rfl, by decide, Or.inl (AW_in (List.mem_of_getElem? (i := 358) (by decide +kernel)) rfl)⟩
theorem aw_54 : Cond.fieldLink RX8 31 RX8 "acts" "LBearMouse$Acts;" ∈ AW := AW_in (List.mem_of_getElem? (i := 358) (by decide +kernel)) rfl
theorem aw_55 : Cond.classLink RX8 35 "BearMouse$Tape" ∈ AW := AW_in (List.mem_of_getElem? (i := 308) (by decide +kernel)) rfl
theorem fl_X8_37 : FLk RX8 37 8 6 := ⟨by decide, (RX8, TX8, 10), rfl, by decide, Or.inl (AW_in (List.mem_of_getElem? (i := 359) (by decide +kernel)) rfl)⟩
theorem aw_56 : Cond.fieldLink RX8 37 RX8 "tapes" "[LBearMouse$Tape;" ∈ AW := AW_in (List.mem_of_getElem? (i := 359) (by decide +kernel)) rfl
theorem aw_57 : Cond.classLink RX8 41 RX2 ∈ AW := AW_in (List.mem_of_getElem? (i := 310) (by decide +kernel)) rfl
theorem lkc_X8_43 : LKC RX8 43 yX2_init := Or.inr ⟨"BearMouse", NW_in (List.mem_of_getElem? (i := 311) (by decide +kernel)) rfl⟩
theorem fl_X8_44 : FLk RX8 44 8 7 := ⟨by decide, (RX8, TX8, 10), rfl, by decide, Or.inl (AW_in (List.mem_of_getElem? (i := 360) (by decide +kernel)) rfl)⟩
theorem aw_58 : Cond.fieldLink RX8 44 RX8 "asked" "LBearMouse$Cup;" ∈ AW := AW_in (List.mem_of_getElem? (i := 360) (by decide +kernel)) rfl
theorem aw_59 : Cond.classLink RX8 48 RX7 ∈ AW := AW_in (List.mem_of_getElem? (i := 312) (by decide +kernel)) rfl
theorem lkc_X8_50 : LKC RX8 50 yX7_init := Or.inr ⟨"BearMouse", NW_in (List.mem_of_getElem? (i := 313) (by decide +kernel)) rfl⟩
theorem fl_X8_51 : FLk RX8 51 8 8 := ⟨by decide, (RX8, TX8, 10), rfl, by decide, Or.inl (AW_in (List.mem_of_getElem? (i := 361) (by decide +kernel)) rfl)⟩
theorem aw_60 : Cond.fieldLink RX8 51 RX8 "guess" "LBearMouse$Walker;" ∈ AW := AW_in (List.mem_of_getElem? (i := 361) (by decide +kernel)) rfl
theorem aw_61 : Cond.arrayClass (newarray.typeOf .boolean) ∈ AW := AW_in (List.mem_of_getElem? (i := 333) (by decide +kernel)) rfl
theorem fl_X8_55 : FLk RX8 55 8 9 := ⟨by decide, (RX8, TX8, 10), rfl, by decide, Or.inl (AW_in (List.mem_of_getElem? (i := 362) (by decide +kernel)) rfl)⟩
theorem aw_62 : Cond.fieldLink RX8 55 RX8 "fits" "[Z" ∈ AW := AW_in (List.mem_of_getElem? (i := 362) (by decide +kernel)) rfl
theorem aw_63 : Cond.classLink RX8 59 RX1 ∈ AW := AW_in (List.mem_of_getElem? (i := 314) (by decide +kernel)) rfl
theorem aw_64 : Cond.instantiable RX1 3 ∈ AW := AW_in (List.mem_of_getElem? (i := 315) (by decide +kernel)) rfl
theorem aw_65 : Cond.initialized RX1 ∈ AW := AW_in (List.mem_of_getElem? (i := 117) (by decide +kernel)) rfl
theorem lki_X1_init : LKI yX1_init cX1_init 4 none 2 := ⟨AW_in (List.mem_of_getElem? (i := 318) (by decide +kernel)) rfl, AW_in (List.mem_of_getElem? (i := 117) (by decide +kernel)) rfl, ⟨by decide +kernel, by decide +kernel⟩, by decide +kernel⟩
theorem lkv_X1_init : Cond.instanceMethod yX1_init ∈ AW ∧ yX1_init.name = "<init>" := ⟨AW_in (List.mem_of_getElem? (i := 317) (by decide +kernel)) rfl, rfl⟩
theorem lkc_X8_61 : LKC RX8 61 yX1_init := Or.inr ⟨"BearMouse", NW_in (List.mem_of_getElem? (i := 316) (by decide +kernel)) rfl⟩
theorem fl_X8_64 : FLk RX8 64 5 7 := ⟨by decide, (RX5, TX5, 8), rfl, by decide, Or.inr ⟨"BearMouse", NW_in (List.mem_of_getElem? (i := 223) (by decide +kernel)) rfl⟩⟩
theorem aw_66 : Cond.classLink RX8 35 RX6 ∈ AW := AW_in (List.mem_of_getElem? (i := 308) (by decide +kernel)) rfl
theorem aw_67 : Cond.instantiable RX6 3 ∈ AW := AW_in (List.mem_of_getElem? (i := 334) (by decide +kernel)) rfl
theorem aw_68 : Cond.initialized RX6 ∈ AW := AW_in (List.mem_of_getElem? (i := 118) (by decide +kernel)) rfl
theorem lki_X6_init : LKI yX6_init cX6_init 1 none 0 := ⟨AW_in (List.mem_of_getElem? (i := 337) (by decide +kernel)) rfl, AW_in (List.mem_of_getElem? (i := 118) (by decide +kernel)) rfl, ⟨by decide +kernel, by decide +kernel⟩, by decide +kernel⟩
theorem lkv_X6_init : Cond.instanceMethod yX6_init ∈ AW ∧ yX6_init.name = "<init>" := ⟨AW_in (List.mem_of_getElem? (i := 336) (by decide +kernel)) rfl, rfl⟩
theorem lkc_X8_68 : LKC RX8 68 yX6_init := Or.inr ⟨"BearMouse", NW_in (List.mem_of_getElem? (i := 335) (by decide +kernel)) rfl⟩
theorem fl_X7_15 : FLk RX7 15 7 0 := ⟨by decide, (RX7, TX7, 4), rfl, by decide, Or.inl (AW_in (List.mem_of_getElem? (i := 192) (by decide +kernel)) rfl)⟩
theorem fl_X7_19 : FLk RX7 19 7 1 := ⟨by decide, (RX7, TX7, 4), rfl, by decide, Or.inl (AW_in (List.mem_of_getElem? (i := 194) (by decide +kernel)) rfl)⟩
theorem fl_X7_22 : FLk RX7 22 7 2 := ⟨by decide, (RX7, TX7, 4), rfl, by decide, Or.inl (AW_in (List.mem_of_getElem? (i := 196) (by decide +kernel)) rfl)⟩
theorem lki_X8_isBelow : LKI yX8_isBelow cX8_isBelow 2 (some .boolean) 2 := ⟨AW_in (List.mem_of_getElem? (i := 390) (by decide +kernel)) rfl, AW_in (List.mem_of_getElem? (i := 110) (by decide +kernel)) rfl, ⟨by decide +kernel, by decide +kernel⟩, by decide +kernel⟩
theorem lkv_X8_isBelow : Cond.static yX8_isBelow ∈ AW := AW_in (List.mem_of_getElem? (i := 389) (by decide +kernel)) rfl
theorem lkc_X8_69 : LKC RX8 69 yX8_isBelow := Or.inl (AW_in (List.mem_of_getElem? (i := 388) (by decide +kernel)) rfl)
theorem fl_X8_73 : FLk RX8 73 5 2 := ⟨by decide, (RX5, TX5, 8), rfl, by decide, Or.inr ⟨"BearMouse", NW_in (List.mem_of_getElem? (i := 214) (by decide +kernel)) rfl⟩⟩
theorem fl_X8_77 : FLk RX8 77 5 1 := ⟨by decide, (RX5, TX5, 8), rfl, by decide, Or.inr ⟨"BearMouse", NW_in (List.mem_of_getElem? (i := 212) (by decide +kernel)) rfl⟩⟩
theorem lki_X7_become : LKI yX7_become cX7_become 5 none 3 := ⟨AW_in (List.mem_of_getElem? (i := 394) (by decide +kernel)) rfl, AW_in (List.mem_of_getElem? (i := 114) (by decide +kernel)) rfl, ⟨by decide +kernel, by decide +kernel⟩, by decide +kernel⟩
theorem lkv_X7_become : LKV yX7_become := ⟨AW_in (List.mem_of_getElem? (i := 393) (by decide +kernel)) rfl, AW_in (List.mem_of_getElem? (i := 0) (by decide +kernel)) rfl⟩
theorem lkc_X8_81 : LKC RX8 81 yX7_become := Or.inr ⟨"BearMouse", NW_in (List.mem_of_getElem? (i := 391) (by decide +kernel)) rfl⟩
theorem fl_X5_44 : FLk RX5 44 5 2 := ⟨by decide, (RX5, TX5, 8), rfl, by decide, Or.inl (AW_in (List.mem_of_getElem? (i := 213) (by decide +kernel)) rfl)⟩
theorem lkc_X5_62 : LKC RX5 62 yX8_isBelow := Or.inr ⟨"BearMouse", NW_in (List.mem_of_getElem? (i := 403) (by decide +kernel)) rfl⟩
theorem aw_69 : Cond.methodLink RX7 31 Lib.Math.max.name ∈ AW := AW_in (List.mem_of_getElem? (i := 417) (by decide +kernel)) rfl
theorem aw_70 : Cond.static Lib.Math.max.name ∈ AW := AW_in (List.mem_of_getElem? (i := 418) (by decide +kernel)) rfl
theorem aw_71 : Cond.initialized "java/lang/Math" ∈ AW := AW_in (List.mem_of_getElem? (i := 120) (by decide +kernel)) rfl
theorem aw_72 : Cond.code Lib.Math.max.name Lib.Math.max.code 2 (some .int) ∈ AW := AW_in (List.mem_of_getElem? (i := 419) (by decide +kernel)) rfl
theorem lki_X7_needs : LKI yX7_needs cX7_needs 2 (some .int) 1 := ⟨AW_in (List.mem_of_getElem? (i := 416) (by decide +kernel)) rfl, AW_in (List.mem_of_getElem? (i := 114) (by decide +kernel)) rfl, ⟨by decide +kernel, by decide +kernel⟩, by decide +kernel⟩
theorem lkv_X7_needs : LKV yX7_needs := ⟨AW_in (List.mem_of_getElem? (i := 415) (by decide +kernel)) rfl, AW_in (List.mem_of_getElem? (i := 4) (by decide +kernel)) rfl⟩
theorem lkc_X7_37 : LKC RX7 37 yX7_needs := Or.inl (AW_in (List.mem_of_getElem? (i := 413) (by decide +kernel)) rfl)
theorem fl_X7_41 : FLk RX7 41 2 0 := ⟨by decide, (RX2, TX2, 2), rfl, by decide, Or.inr ⟨"BearMouse", NW_in (List.mem_of_getElem? (i := 150) (by decide +kernel)) rfl⟩⟩
theorem aw_73 : Cond.constant RX8 318 (-34953) ∈ AW := AW_in (List.mem_of_getElem? (i := 430) (by decide +kernel)) rfl
theorem aw_74 : Cond.constant RX8 220 65535 ∈ AW := AW_in (List.mem_of_getElem? (i := 432) (by decide +kernel)) rfl
theorem aw_75 : Cond.constant RX8 319 52428 ∈ AW := AW_in (List.mem_of_getElem? (i := 431) (by decide +kernel)) rfl
theorem lki_X8_around : LKI yX8_around cX8_around 3 (some .int) 2 := ⟨AW_in (List.mem_of_getElem? (i := 429) (by decide +kernel)) rfl, AW_in (List.mem_of_getElem? (i := 110) (by decide +kernel)) rfl, ⟨by decide +kernel, by decide +kernel⟩, by decide +kernel⟩
theorem lkv_X8_around : Cond.static yX8_around ∈ AW := AW_in (List.mem_of_getElem? (i := 428) (by decide +kernel)) rfl
theorem lkc_X8_138 : LKC RX8 138 yX8_around := Or.inl (AW_in (List.mem_of_getElem? (i := 427) (by decide +kernel)) rfl)
theorem aw_76 : Cond.constant RX7 46 34952 ∈ AW := AW_in (List.mem_of_getElem? (i := 408) (by decide +kernel)) rfl
theorem lki_X7_bearers : LKI yX7_bearers cX7_bearers 7 (some .int) 2 := ⟨AW_in (List.mem_of_getElem? (i := 412) (by decide +kernel)) rfl, AW_in (List.mem_of_getElem? (i := 114) (by decide +kernel)) rfl, ⟨by decide +kernel, by decide +kernel⟩, by decide +kernel⟩
theorem lkv_X7_bearers : LKV yX7_bearers := ⟨AW_in (List.mem_of_getElem? (i := 411) (by decide +kernel)) rfl, AW_in (List.mem_of_getElem? (i := 3) (by decide +kernel)) rfl⟩
theorem lkc_X7_47 : LKC RX7 47 yX7_bearers := Or.inl (AW_in (List.mem_of_getElem? (i := 409) (by decide +kernel)) rfl)
theorem lki_X7_leaps : LKI yX7_leaps cX7_leaps 1 (some .boolean) 0 := ⟨AW_in (List.mem_of_getElem? (i := 423) (by decide +kernel)) rfl, AW_in (List.mem_of_getElem? (i := 114) (by decide +kernel)) rfl, ⟨by decide +kernel, by decide +kernel⟩, by decide +kernel⟩
theorem lkv_X7_leaps : LKV yX7_leaps := ⟨AW_in (List.mem_of_getElem? (i := 422) (by decide +kernel)) rfl, AW_in (List.mem_of_getElem? (i := 5) (by decide +kernel)) rfl⟩
theorem lkc_X7_51 : LKC RX7 51 yX7_leaps := Or.inl (AW_in (List.mem_of_getElem? (i := 420) (by decide +kernel)) rfl)
theorem lki_X8_fewest : LKI yX8_fewest cX8_fewest 7 (some .int) 4 := ⟨AW_in (List.mem_of_getElem? (i := 426) (by decide +kernel)) rfl, AW_in (List.mem_of_getElem? (i := 110) (by decide +kernel)) rfl, ⟨by decide +kernel, by decide +kernel⟩, by decide +kernel⟩
theorem lkv_X8_fewest : Cond.static yX8_fewest ∈ AW := AW_in (List.mem_of_getElem? (i := 425) (by decide +kernel)) rfl
theorem lkc_X7_55 : LKC RX7 55 yX8_fewest := Or.inr ⟨"BearMouse", NW_in (List.mem_of_getElem? (i := 424) (by decide +kernel)) rfl⟩
theorem lki_X5_walkerAt : LKI yX5_walkerAt cX5_walkerAt 2 (some (.object "BearMouse$Walker")) 1 := ⟨AW_in (List.mem_of_getElem? (i := 402) (by decide +kernel)) rfl, AW_in (List.mem_of_getElem? (i := 111) (by decide +kernel)) rfl, ⟨by decide +kernel, by decide +kernel⟩, by decide +kernel⟩
theorem lkv_X5_walkerAt : LKV yX5_walkerAt := ⟨AW_in (List.mem_of_getElem? (i := 401) (by decide +kernel)) rfl, AW_in (List.mem_of_getElem? (i := 1) (by decide +kernel)) rfl⟩
theorem lkc_X8_85 : LKC RX8 85 yX5_walkerAt := Or.inr ⟨"BearMouse", NW_in (List.mem_of_getElem? (i := 399) (by decide +kernel)) rfl⟩
theorem lki_X8_rowOf : LKI yX8_rowOf cX8_rowOf 1 (some .int) 1 := ⟨AW_in (List.mem_of_getElem? (i := 435) (by decide +kernel)) rfl, AW_in (List.mem_of_getElem? (i := 110) (by decide +kernel)) rfl, ⟨by decide +kernel, by decide +kernel⟩, by decide +kernel⟩
theorem lkv_X8_rowOf : Cond.static yX8_rowOf ∈ AW := AW_in (List.mem_of_getElem? (i := 434) (by decide +kernel)) rfl
theorem lkc_X8_108 : LKC RX8 108 yX8_rowOf := Or.inl (AW_in (List.mem_of_getElem? (i := 433) (by decide +kernel)) rfl)
theorem lkc_X8_112 : LKC RX8 112 yX7_needs := Or.inr ⟨"BearMouse", NW_in (List.mem_of_getElem? (i := 436) (by decide +kernel)) rfl⟩
theorem fl_X8_98 : FLk RX8 98 5 0 := ⟨by decide, (RX5, TX5, 8), rfl, by decide, Or.inr ⟨"BearMouse", NW_in (List.mem_of_getElem? (i := 210) (by decide +kernel)) rfl⟩⟩
theorem fl_X8_101 : FLk RX8 101 1 1 := ⟨by decide, (RX1, TX1, 3), rfl, by decide, Or.inr ⟨"BearMouse", NW_in (List.mem_of_getElem? (i := 322) (by decide +kernel)) rfl⟩⟩
theorem lki_X7_crossing : LKI yX7_crossing cX7_crossing 3 (some .int) 2 := ⟨AW_in (List.mem_of_getElem? (i := 407) (by decide +kernel)) rfl, AW_in (List.mem_of_getElem? (i := 114) (by decide +kernel)) rfl, ⟨by decide +kernel, by decide +kernel⟩, by decide +kernel⟩
theorem lkv_X7_crossing : LKV yX7_crossing := ⟨AW_in (List.mem_of_getElem? (i := 406) (by decide +kernel)) rfl, AW_in (List.mem_of_getElem? (i := 2) (by decide +kernel)) rfl⟩
theorem lkc_X8_104 : LKC RX8 104 yX7_crossing := Or.inr ⟨"BearMouse", NW_in (List.mem_of_getElem? (i := 404) (by decide +kernel)) rfl⟩
theorem fl_X8_95 : FLk RX8 95 7 2 := ⟨by decide, (RX7, TX7, 4), rfl, by decide, Or.inr ⟨"BearMouse", NW_in (List.mem_of_getElem? (i := 197) (by decide +kernel)) rfl⟩⟩
theorem fl_X8_92 : FLk RX8 92 7 1 := ⟨by decide, (RX7, TX7, 4), rfl, by decide, Or.inr ⟨"BearMouse", NW_in (List.mem_of_getElem? (i := 195) (by decide +kernel)) rfl⟩⟩
theorem fl_X8_89 : FLk RX8 89 7 0 := ⟨by decide, (RX7, TX7, 4), rfl, by decide, Or.inr ⟨"BearMouse", NW_in (List.mem_of_getElem? (i := 193) (by decide +kernel)) rfl⟩⟩
theorem fl_X5_58 : FLk RX5 58 5 7 := ⟨by decide, (RX5, TX5, 8), rfl, by decide, Or.inl (AW_in (List.mem_of_getElem? (i := 224) (by decide +kernel)) rfl)⟩
theorem fl_X5_66 : FLk RX5 66 1 1 := ⟨by decide, (RX1, TX1, 3), rfl, by decide, Or.inr ⟨"BearMouse", NW_in (List.mem_of_getElem? (i := 323) (by decide +kernel)) rfl⟩⟩
theorem lkc_X5_75 : LKC RX5 75 yX7_bearers := Or.inr ⟨"BearMouse", NW_in (List.mem_of_getElem? (i := 449) (by decide +kernel)) rfl⟩
theorem lki_X5_borneOnAll : LKI yX5_borneOnAll cX5_borneOnAll 4 (some .int) 1 := ⟨AW_in (List.mem_of_getElem? (i := 448) (by decide +kernel)) rfl, AW_in (List.mem_of_getElem? (i := 111) (by decide +kernel)) rfl, ⟨by decide +kernel, by decide +kernel⟩, by decide +kernel⟩
theorem lkv_X5_borneOnAll : LKV yX5_borneOnAll := ⟨AW_in (List.mem_of_getElem? (i := 447) (by decide +kernel)) rfl, AW_in (List.mem_of_getElem? (i := 7) (by decide +kernel)) rfl⟩
theorem lkc_X8_126 : LKC RX8 126 yX5_borneOnAll := Or.inr ⟨"BearMouse", NW_in (List.mem_of_getElem? (i := 445) (by decide +kernel)) rfl⟩
theorem fl_X8_115 : FLk RX8 115 2 0 := ⟨by decide, (RX2, TX2, 2), rfl, by decide, Or.inr ⟨"BearMouse", NW_in (List.mem_of_getElem? (i := 149) (by decide +kernel)) rfl⟩⟩
theorem fl_X8_119 : FLk RX8 119 2 1 := ⟨by decide, (RX2, TX2, 2), rfl, by decide, Or.inr ⟨"BearMouse", NW_in (List.mem_of_getElem? (i := 152) (by decide +kernel)) rfl⟩⟩
theorem lki_X1_growthOf : LKI yX1_growthOf cX1_growthOf 4 (some .int) 3 := ⟨AW_in (List.mem_of_getElem? (i := 444) (by decide +kernel)) rfl, AW_in (List.mem_of_getElem? (i := 117) (by decide +kernel)) rfl, ⟨by decide +kernel, by decide +kernel⟩, by decide +kernel⟩
theorem lkv_X1_growthOf : LKV yX1_growthOf := ⟨AW_in (List.mem_of_getElem? (i := 443) (by decide +kernel)) rfl, AW_in (List.mem_of_getElem? (i := 6) (by decide +kernel)) rfl⟩
theorem lkc_X8_122 : LKC RX8 122 yX1_growthOf := Or.inr ⟨"BearMouse", NW_in (List.mem_of_getElem? (i := 441) (by decide +kernel)) rfl⟩
theorem fl_X8_129 : FLk RX8 129 7 3 := ⟨by decide, (RX7, TX7, 4), rfl, by decide, Or.inr ⟨"BearMouse", NW_in (List.mem_of_getElem? (i := 199) (by decide +kernel)) rfl⟩⟩
theorem aw_77 : Cond.methodLink RX2 31 Lib.Math.max.name ∈ AW := AW_in (List.mem_of_getElem? (i := 470) (by decide +kernel)) rfl
theorem fl_X8_132 : FLk RX8 132 1 2 := ⟨by decide, (RX1, TX1, 3), rfl, by decide, Or.inr ⟨"BearMouse", NW_in (List.mem_of_getElem? (i := 325) (by decide +kernel)) rfl⟩⟩
theorem lki_X2_pour : LKI yX2_pour cX2_pour 3 none 2 := ⟨AW_in (List.mem_of_getElem? (i := 469) (by decide +kernel)) rfl, AW_in (List.mem_of_getElem? (i := 112) (by decide +kernel)) rfl, ⟨by decide +kernel, by decide +kernel⟩, by decide +kernel⟩
theorem lkv_X2_pour : LKV yX2_pour := ⟨AW_in (List.mem_of_getElem? (i := 468) (by decide +kernel)) rfl, AW_in (List.mem_of_getElem? (i := 8) (by decide +kernel)) rfl⟩
theorem lkc_X8_135 : LKC RX8 135 yX2_pour := Or.inr ⟨"BearMouse", NW_in (List.mem_of_getElem? (i := 466) (by decide +kernel)) rfl⟩
theorem lki_X2_swap : LKI yX2_swap cX2_swap 4 none 2 := ⟨AW_in (List.mem_of_getElem? (i := 478) (by decide +kernel)) rfl, AW_in (List.mem_of_getElem? (i := 112) (by decide +kernel)) rfl, ⟨by decide +kernel, by decide +kernel⟩, by decide +kernel⟩
theorem lkv_X2_swap : LKV yX2_swap := ⟨AW_in (List.mem_of_getElem? (i := 477) (by decide +kernel)) rfl, AW_in (List.mem_of_getElem? (i := 9) (by decide +kernel)) rfl⟩
theorem lkc_X8_142 : LKC RX8 142 yX2_swap := Or.inr ⟨"BearMouse", NW_in (List.mem_of_getElem? (i := 475) (by decide +kernel)) rfl⟩
theorem fl_X3_19 : FLk RX3 19 3 1 := ⟨by decide, (RX3, TX3, 9), rfl, by decide, Or.inl (AW_in (List.mem_of_getElem? (i := 249) (by decide +kernel)) rfl)⟩
theorem lki_X3_append : LKI yX3_append cX3_append 2 (some .boolean) 1 := ⟨AW_in (List.mem_of_getElem? (i := 486) (by decide +kernel)) rfl, AW_in (List.mem_of_getElem? (i := 115) (by decide +kernel)) rfl, ⟨by decide +kernel, by decide +kernel⟩, by decide +kernel⟩
theorem lkv_X3_append : LKV yX3_append := ⟨AW_in (List.mem_of_getElem? (i := 485) (by decide +kernel)) rfl, AW_in (List.mem_of_getElem? (i := 10) (by decide +kernel)) rfl⟩
theorem lkc_X8_145 : LKC RX8 145 yX3_append := Or.inr ⟨"BearMouse", NW_in (List.mem_of_getElem? (i := 483) (by decide +kernel)) rfl⟩
theorem fl_X8_149 : FLk RX8 149 3 1 := ⟨by decide, (RX3, TX3, 9), rfl, by decide, Or.inr ⟨"BearMouse", NW_in (List.mem_of_getElem? (i := 250) (by decide +kernel)) rfl⟩⟩
theorem fl_X3_26 : FLk RX3 26 3 3 := ⟨by decide, (RX3, TX3, 9), rfl, by decide, Or.inl (AW_in (List.mem_of_getElem? (i := 252) (by decide +kernel)) rfl)⟩
theorem fl_X3_23 : FLk RX3 23 3 2 := ⟨by decide, (RX3, TX3, 9), rfl, by decide, Or.inl (AW_in (List.mem_of_getElem? (i := 251) (by decide +kernel)) rfl)⟩
theorem aw_78 : Cond.fieldLink RJ0 38 "java/lang/String" "COMPACT_STRINGS" "Z" ∈ AW := AW_in (List.mem_of_getElem? (i := 516) (by decide +kernel)) rfl
theorem aw_79 : Cond.fieldLink RJ0 15 "java/lang/String" "coder" "B" ∈ AW := AW_in (List.mem_of_getElem? (i := 1568) (by decide +kernel)) rfl
theorem aw_80 : Cond.fieldLink RJ0 9 "java/lang/String" "value" "[B" ∈ AW := AW_in (List.mem_of_getElem? (i := 1567) (by decide +kernel)) rfl
theorem lki_J0_coder_7d493 : LKI yJ0_coder_7d493 cJ0_coder_7d493 1 (some .byte) 0 := ⟨AW_in (List.mem_of_getElem? (i := 515) (by decide +kernel)) rfl, AW_in (List.mem_of_getElem? (i := 121) (by decide +kernel)) rfl, ⟨by decide +kernel, by decide +kernel⟩, by decide +kernel⟩
theorem lkv_J0_coder_7d493 : LKV yJ0_coder_7d493 := ⟨AW_in (List.mem_of_getElem? (i := 513) (by decide +kernel)) rfl, AW_in (List.mem_of_getElem? (i := 514) (by decide +kernel)) rfl⟩
theorem lkc_J0_335 : LKC RJ0 335 yJ0_coder_7d493 := Or.inl (AW_in (List.mem_of_getElem? (i := 512) (by decide +kernel)) rfl)
theorem aw_81 : Cond.fieldLink RJ0 1053 "jdk/internal/util/Preconditions" "SIOOBE_FORMATTER" "Ljava/util/function/BiFunction;" ∈ AW := AW_in (List.mem_of_getElem? (i := 532) (by decide +kernel)) rfl
theorem lki_J3_checkIndex_8e157 : LKI yJ3_checkIndex_8e157 cJ3_checkIndex_8e157 3 (some .int) 3 := ⟨AW_in (List.mem_of_getElem? (i := 536) (by decide +kernel)) rfl, AW_in (List.mem_of_getElem? (i := 123) (by decide +kernel)) rfl, ⟨by decide +kernel, by decide +kernel⟩, by decide +kernel⟩
theorem lkv_J3_checkIndex_8e157 : Cond.static yJ3_checkIndex_8e157 ∈ AW := AW_in (List.mem_of_getElem? (i := 535) (by decide +kernel)) rfl
theorem lkc_J0_1059 : LKC RJ0 1059 yJ3_checkIndex_8e157 := Or.inl (AW_in (List.mem_of_getElem? (i := 534) (by decide +kernel)) rfl)
theorem lki_J0_checkIndex_df160 : LKI yJ0_checkIndex_df160 cJ0_checkIndex_df160 2 none 2 := ⟨AW_in (List.mem_of_getElem? (i := 531) (by decide +kernel)) rfl, AW_in (List.mem_of_getElem? (i := 121) (by decide +kernel)) rfl, ⟨by decide +kernel, by decide +kernel⟩, by decide +kernel⟩
theorem lkv_J0_checkIndex_df160 : Cond.static yJ0_checkIndex_df160 ∈ AW := AW_in (List.mem_of_getElem? (i := 530) (by decide +kernel)) rfl
theorem lkc_J1_9 : LKC RJ1 9 yJ0_checkIndex_df160 := Or.inl (AW_in (List.mem_of_getElem? (i := 529) (by decide +kernel)) rfl)
theorem lki_J0_isLatin1_aae02 : LKI yJ0_isLatin1_aae02 cJ0_isLatin1_aae02 1 (some .boolean) 0 := ⟨AW_in (List.mem_of_getElem? (i := 525) (by decide +kernel)) rfl, AW_in (List.mem_of_getElem? (i := 121) (by decide +kernel)) rfl, ⟨by decide +kernel, by decide +kernel⟩, by decide +kernel⟩
theorem lkv_J0_isLatin1_aae02 : LKV yJ0_isLatin1_aae02 := ⟨AW_in (List.mem_of_getElem? (i := 523) (by decide +kernel)) rfl, AW_in (List.mem_of_getElem? (i := 524) (by decide +kernel)) rfl⟩
theorem lkc_J0_492 : LKC RJ0 492 yJ0_isLatin1_aae02 := Or.inl (AW_in (List.mem_of_getElem? (i := 522) (by decide +kernel)) rfl)
theorem lki_J1_charAt_3b067 : LKI yJ1_charAt_3b067 cJ1_charAt_3b067 2 (some .char) 2 := ⟨AW_in (List.mem_of_getElem? (i := 528) (by decide +kernel)) rfl, AW_in (List.mem_of_getElem? (i := 122) (by decide +kernel)) rfl, ⟨by decide +kernel, by decide +kernel⟩, by decide +kernel⟩
theorem lkv_J1_charAt_3b067 : Cond.static yJ1_charAt_3b067 ∈ AW := AW_in (List.mem_of_getElem? (i := 527) (by decide +kernel)) rfl
theorem lkc_J0_495 : LKC RJ0 495 yJ1_charAt_3b067 := Or.inl (AW_in (List.mem_of_getElem? (i := 526) (by decide +kernel)) rfl)
theorem lki_J0_length_8abf5 : LKI yJ0_length_8abf5 cJ0_length_8abf5 1 (some .int) 0 := ⟨AW_in (List.mem_of_getElem? (i := 511) (by decide +kernel)) rfl, AW_in (List.mem_of_getElem? (i := 121) (by decide +kernel)) rfl, ⟨by decide +kernel, by decide +kernel⟩, by decide +kernel⟩
theorem lkv_J0_length_8abf5 : LKV yJ0_length_8abf5 := ⟨AW_in (List.mem_of_getElem? (i := 509) (by decide +kernel)) rfl, AW_in (List.mem_of_getElem? (i := 510) (by decide +kernel)) rfl⟩
theorem lkc_X3_100 : LKC RX3 100 yJ0_length_8abf5 := Or.inl (AW_in (List.mem_of_getElem? (i := 508) (by decide +kernel)) rfl)
theorem lki_J0_charAt_5068e : LKI yJ0_charAt_5068e cJ0_charAt_5068e 2 (some .char) 1 := ⟨AW_in (List.mem_of_getElem? (i := 521) (by decide +kernel)) rfl, AW_in (List.mem_of_getElem? (i := 121) (by decide +kernel)) rfl, ⟨by decide +kernel, by decide +kernel⟩, by decide +kernel⟩
theorem lkv_J0_charAt_5068e : LKV yJ0_charAt_5068e := ⟨AW_in (List.mem_of_getElem? (i := 519) (by decide +kernel)) rfl, AW_in (List.mem_of_getElem? (i := 520) (by decide +kernel)) rfl⟩
theorem lkc_X3_104 : LKC RX3 104 yJ0_charAt_5068e := Or.inl (AW_in (List.mem_of_getElem? (i := 518) (by decide +kernel)) rfl)
theorem lki_X3_takes : LKI yX3_takes cX3_takes 2 (some .boolean) 1 := ⟨AW_in (List.mem_of_getElem? (i := 502) (by decide +kernel)) rfl, AW_in (List.mem_of_getElem? (i := 115) (by decide +kernel)) rfl, ⟨by decide +kernel, by decide +kernel⟩, by decide +kernel⟩
theorem lkv_X3_takes : LKV yX3_takes := ⟨AW_in (List.mem_of_getElem? (i := 501) (by decide +kernel)) rfl, AW_in (List.mem_of_getElem? (i := 13) (by decide +kernel)) rfl⟩
theorem lkc_X3_45 : LKC RX3 45 yX3_takes := Or.inl (AW_in (List.mem_of_getElem? (i := 499) (by decide +kernel)) rfl)
theorem lki_J1_canEncode_9a6ad : LKI yJ1_canEncode_9a6ad cJ1_canEncode_9a6ad 1 (some .boolean) 1 := ⟨AW_in (List.mem_of_getElem? (i := 597) (by decide +kernel)) rfl, AW_in (List.mem_of_getElem? (i := 122) (by decide +kernel)) rfl, ⟨by decide +kernel, by decide +kernel⟩, by decide +kernel⟩
theorem lkv_J1_canEncode_9a6ad : Cond.static yJ1_canEncode_9a6ad ∈ AW := AW_in (List.mem_of_getElem? (i := 596) (by decide +kernel)) rfl
theorem lkc_J1_88 : LKC RJ1 88 yJ1_canEncode_9a6ad := Or.inl (AW_in (List.mem_of_getElem? (i := 595) (by decide +kernel)) rfl)
theorem aw_82 : Cond.methodLink RJ1 92 Lib.Math.max.name ∈ AW := AW_in (List.mem_of_getElem? (i := 598) (by decide +kernel)) rfl
theorem aw_83 : Cond.methodLink RJ1 38 Lib.Math.min.name ∈ AW := AW_in (List.mem_of_getElem? (i := 599) (by decide +kernel)) rfl
theorem aw_84 : Cond.static Lib.Math.min.name ∈ AW := AW_in (List.mem_of_getElem? (i := 600) (by decide +kernel)) rfl
theorem aw_85 : Cond.code Lib.Math.min.name Lib.Math.min.code 2 (some .int) ∈ AW := AW_in (List.mem_of_getElem? (i := 601) (by decide +kernel)) rfl
theorem lki_J1_indexOfChar_4cfef : LKI yJ1_indexOfChar_4cfef cJ1_indexOfChar_4cfef 6 (some .int) 4 := ⟨AW_in (List.mem_of_getElem? (i := 604) (by decide +kernel)) rfl, AW_in (List.mem_of_getElem? (i := 122) (by decide +kernel)) rfl, ⟨by decide +kernel, by decide +kernel⟩, by decide +kernel⟩
theorem lkv_J1_indexOfChar_4cfef : Cond.static yJ1_indexOfChar_4cfef ∈ AW := AW_in (List.mem_of_getElem? (i := 603) (by decide +kernel)) rfl
theorem lkc_J1_95 : LKC RJ1 95 yJ1_indexOfChar_4cfef := Or.inl (AW_in (List.mem_of_getElem? (i := 602) (by decide +kernel)) rfl)
theorem lkc_J0_505 : LKC RJ0 505 yJ0_length_8abf5 := Or.inl (AW_in (List.mem_of_getElem? (i := 591) (by decide +kernel)) rfl)
theorem lki_J1_indexOf_4cfef : LKI yJ1_indexOf_4cfef cJ1_indexOf_4cfef 4 (some .int) 4 := ⟨AW_in (List.mem_of_getElem? (i := 594) (by decide +kernel)) rfl, AW_in (List.mem_of_getElem? (i := 122) (by decide +kernel)) rfl, ⟨by decide +kernel, by decide +kernel⟩, by decide +kernel⟩
theorem lkv_J1_indexOf_4cfef : Cond.static yJ1_indexOf_4cfef ∈ AW := AW_in (List.mem_of_getElem? (i := 593) (by decide +kernel)) rfl
theorem lkc_J0_637 : LKC RJ0 637 yJ1_indexOf_4cfef := Or.inl (AW_in (List.mem_of_getElem? (i := 592) (by decide +kernel)) rfl)
theorem lki_J0_indexOf_7cf53 : LKI yJ0_indexOf_7cf53 cJ0_indexOf_7cf53 3 (some .int) 2 := ⟨AW_in (List.mem_of_getElem? (i := 590) (by decide +kernel)) rfl, AW_in (List.mem_of_getElem? (i := 121) (by decide +kernel)) rfl, ⟨by decide +kernel, by decide +kernel⟩, by decide +kernel⟩
theorem lkv_J0_indexOf_7cf53 : LKV yJ0_indexOf_7cf53 := ⟨AW_in (List.mem_of_getElem? (i := 588) (by decide +kernel)) rfl, AW_in (List.mem_of_getElem? (i := 589) (by decide +kernel)) rfl⟩
theorem lkc_J0_633 : LKC RJ0 633 yJ0_indexOf_7cf53 := Or.inl (AW_in (List.mem_of_getElem? (i := 587) (by decide +kernel)) rfl)
theorem lki_J0_indexOf_0f7a4 : LKI yJ0_indexOf_0f7a4 cJ0_indexOf_0f7a4 2 (some .int) 1 := ⟨AW_in (List.mem_of_getElem? (i := 586) (by decide +kernel)) rfl, AW_in (List.mem_of_getElem? (i := 121) (by decide +kernel)) rfl, ⟨by decide +kernel, by decide +kernel⟩, by decide +kernel⟩
theorem lkv_J0_indexOf_0f7a4 : LKV yJ0_indexOf_0f7a4 := ⟨AW_in (List.mem_of_getElem? (i := 584) (by decide +kernel)) rfl, AW_in (List.mem_of_getElem? (i := 585) (by decide +kernel)) rfl⟩
theorem lkc_X3_108 : LKC RX3 108 yJ0_indexOf_0f7a4 := Or.inl (AW_in (List.mem_of_getElem? (i := 583) (by decide +kernel)) rfl)
theorem lkc_X3_97 : LKC RX3 97 yX8_rowOf := Or.inr ⟨"BearMouse", NW_in (List.mem_of_getElem? (i := 645) (by decide +kernel)) rfl⟩
theorem fl_X3_30 : FLk RX3 30 3 4 := ⟨by decide, (RX3, TX3, 9), rfl, by decide, Or.inl (AW_in (List.mem_of_getElem? (i := 253) (by decide +kernel)) rfl)⟩
theorem fl_X3_33 : FLk RX3 33 3 5 := ⟨by decide, (RX3, TX3, 9), rfl, by decide, Or.inl (AW_in (List.mem_of_getElem? (i := 254) (by decide +kernel)) rfl)⟩
theorem lki_X3_oneOf : LKI yX3_oneOf cX3_oneOf 3 (some .int) 1 := ⟨AW_in (List.mem_of_getElem? (i := 582) (by decide +kernel)) rfl, AW_in (List.mem_of_getElem? (i := 115) (by decide +kernel)) rfl, ⟨by decide +kernel, by decide +kernel⟩, by decide +kernel⟩
theorem lkv_X3_oneOf : LKV yX3_oneOf := ⟨AW_in (List.mem_of_getElem? (i := 581) (by decide +kernel)) rfl, AW_in (List.mem_of_getElem? (i := 19) (by decide +kernel)) rfl⟩
theorem lkc_X3_82 : LKC RX3 82 yX3_oneOf := Or.inl (AW_in (List.mem_of_getElem? (i := 579) (by decide +kernel)) rfl)
theorem lki_X3_number : LKI yX3_number cX3_number 4 (some .int) 0 := ⟨AW_in (List.mem_of_getElem? (i := 559) (by decide +kernel)) rfl, AW_in (List.mem_of_getElem? (i := 115) (by decide +kernel)) rfl, ⟨by decide +kernel, by decide +kernel⟩, by decide +kernel⟩
theorem lkv_X3_number : LKV yX3_number := ⟨AW_in (List.mem_of_getElem? (i := 558) (by decide +kernel)) rfl, AW_in (List.mem_of_getElem? (i := 15) (by decide +kernel)) rfl⟩
theorem lkc_X3_55 : LKC RX3 55 yX3_number := Or.inl (AW_in (List.mem_of_getElem? (i := 556) (by decide +kernel)) rfl)
theorem lki_X3_valueOf : LKI yX3_valueOf cX3_valueOf 5 (some .int) 2 := ⟨AW_in (List.mem_of_getElem? (i := 644) (by decide +kernel)) rfl, AW_in (List.mem_of_getElem? (i := 115) (by decide +kernel)) rfl, ⟨by decide +kernel, by decide +kernel⟩, by decide +kernel⟩
theorem lkv_X3_valueOf : LKV yX3_valueOf := ⟨AW_in (List.mem_of_getElem? (i := 643) (by decide +kernel)) rfl, AW_in (List.mem_of_getElem? (i := 20) (by decide +kernel)) rfl⟩
theorem lkc_X3_88 : LKC RX3 88 yX3_valueOf := Or.inl (AW_in (List.mem_of_getElem? (i := 641) (by decide +kernel)) rfl)
theorem lki_J6_compare_7cf53 : LKI yJ6_compare_7cf53 cJ6_compare_7cf53 2 (some .int) 2 := ⟨AW_in (List.mem_of_getElem? (i := 648) (by decide +kernel)) rfl, AW_in (List.mem_of_getElem? (i := 126) (by decide +kernel)) rfl, ⟨by decide +kernel, by decide +kernel⟩, by decide +kernel⟩
theorem lkv_J6_compare_7cf53 : Cond.static yJ6_compare_7cf53 ∈ AW := AW_in (List.mem_of_getElem? (i := 647) (by decide +kernel)) rfl
theorem lkc_X3_92 : LKC RX3 92 yJ6_compare_7cf53 := Or.inl (AW_in (List.mem_of_getElem? (i := 646) (by decide +kernel)) rfl)
theorem lki_X3_test : LKI yX3_test cX3_test 6 (some .int) 0 := ⟨AW_in (List.mem_of_getElem? (i := 577) (by decide +kernel)) rfl, AW_in (List.mem_of_getElem? (i := 115) (by decide +kernel)) rfl, ⟨by decide +kernel, by decide +kernel⟩, by decide +kernel⟩
theorem lkv_X3_test : LKV yX3_test := ⟨AW_in (List.mem_of_getElem? (i := 576) (by decide +kernel)) rfl, AW_in (List.mem_of_getElem? (i := 18) (by decide +kernel)) rfl⟩
theorem lkc_X3_77 : LKC RX3 77 yX3_test := Or.inl (AW_in (List.mem_of_getElem? (i := 574) (by decide +kernel)) rfl)
theorem lki_X3_expression : LKI yX3_expression cX3_expression 6 (some .int) 1 := ⟨AW_in (List.mem_of_getElem? (i := 567) (by decide +kernel)) rfl, AW_in (List.mem_of_getElem? (i := 115) (by decide +kernel)) rfl, ⟨by decide +kernel, by decide +kernel⟩, by decide +kernel⟩
theorem lkv_X3_expression : LKV yX3_expression := ⟨AW_in (List.mem_of_getElem? (i := 566) (by decide +kernel)) rfl, AW_in (List.mem_of_getElem? (i := 16) (by decide +kernel)) rfl⟩
theorem lkc_X3_67 : LKC RX3 67 yX3_expression := Or.inl (AW_in (List.mem_of_getElem? (i := 564) (by decide +kernel)) rfl)
theorem lki_X3_expect : LKI yX3_expect cX3_expect 3 none 1 := ⟨AW_in (List.mem_of_getElem? (i := 507) (by decide +kernel)) rfl, AW_in (List.mem_of_getElem? (i := 115) (by decide +kernel)) rfl, ⟨by decide +kernel, by decide +kernel⟩, by decide +kernel⟩
theorem lkv_X3_expect : LKV yX3_expect := ⟨AW_in (List.mem_of_getElem? (i := 506) (by decide +kernel)) rfl, AW_in (List.mem_of_getElem? (i := 14) (by decide +kernel)) rfl⟩
theorem lkc_X3_51 : LKC RX3 51 yX3_expect := Or.inl (AW_in (List.mem_of_getElem? (i := 504) (by decide +kernel)) rfl)
theorem aw_86 : Cond.constant RX3 71 65535 ∈ AW := AW_in (List.mem_of_getElem? (i := 568) (by decide +kernel)) rfl
theorem lki_X3_factor : LKI yX3_factor cX3_factor 3 (some .int) 1 := ⟨AW_in (List.mem_of_getElem? (i := 572) (by decide +kernel)) rfl, AW_in (List.mem_of_getElem? (i := 115) (by decide +kernel)) rfl, ⟨by decide +kernel, by decide +kernel⟩, by decide +kernel⟩
theorem lkv_X3_factor : LKV yX3_factor := ⟨AW_in (List.mem_of_getElem? (i := 571) (by decide +kernel)) rfl, AW_in (List.mem_of_getElem? (i := 17) (by decide +kernel)) rfl⟩
theorem lkc_X3_72 : LKC RX3 72 yX3_factor := Or.inl (AW_in (List.mem_of_getElem? (i := 569) (by decide +kernel)) rfl)
theorem fl_X3_39 : FLk RX3 39 3 8 := ⟨by decide, (RX3, TX3, 9), rfl, by decide, Or.inl (AW_in (List.mem_of_getElem? (i := 259) (by decide +kernel)) rfl)⟩
theorem fl_X3_36 : FLk RX3 36 3 7 := ⟨by decide, (RX3, TX3, 9), rfl, by decide, Or.inl (AW_in (List.mem_of_getElem? (i := 257) (by decide +kernel)) rfl)⟩
theorem lki_X3_clause : LKI yX3_clause cX3_clause 5 none 0 := ⟨AW_in (List.mem_of_getElem? (i := 498) (by decide +kernel)) rfl, AW_in (List.mem_of_getElem? (i := 115) (by decide +kernel)) rfl, ⟨by decide +kernel, by decide +kernel⟩, by decide +kernel⟩
theorem lkv_X3_clause : LKV yX3_clause := ⟨AW_in (List.mem_of_getElem? (i := 497) (by decide +kernel)) rfl, AW_in (List.mem_of_getElem? (i := 12) (by decide +kernel)) rfl⟩
theorem lkc_X3_42 : LKC RX3 42 yX3_clause := Or.inl (AW_in (List.mem_of_getElem? (i := 495) (by decide +kernel)) rfl)
theorem aw_87 : Cond.methodLink RX1 22 arraycopyName ∈ AW := AW_in (List.mem_of_getElem? (i := 653) (by decide +kernel)) rfl
theorem aw_88 : Cond.native arraycopyName ∈ AW := AW_in (List.mem_of_getElem? (i := 655) (by decide +kernel)) rfl
theorem aw_89 : Cond.static arraycopyName ∈ AW := AW_in (List.mem_of_getElem? (i := 654) (by decide +kernel)) rfl
theorem aw_90 : Cond.initialized "java/lang/System" ∈ AW := AW_in (List.mem_of_getElem? (i := 127) (by decide +kernel)) rfl
theorem fl_X8_152 : FLk RX8 152 8 3 := ⟨by decide, (RX8, TX8, 10), rfl, by decide, Or.inl (AW_in (List.mem_of_getElem? (i := 356) (by decide +kernel)) rfl)⟩
theorem lki_X3_faultFor : LKI yX3_faultFor cX3_faultFor 4 (some .int) 2 := ⟨AW_in (List.mem_of_getElem? (i := 494) (by decide +kernel)) rfl, AW_in (List.mem_of_getElem? (i := 115) (by decide +kernel)) rfl, ⟨by decide +kernel, by decide +kernel⟩, by decide +kernel⟩
theorem lkv_X3_faultFor : LKV yX3_faultFor := ⟨AW_in (List.mem_of_getElem? (i := 493) (by decide +kernel)) rfl, AW_in (List.mem_of_getElem? (i := 11) (by decide +kernel)) rfl⟩
theorem lkc_X8_155 : LKC RX8 155 yX3_faultFor := Or.inr ⟨"BearMouse", NW_in (List.mem_of_getElem? (i := 491) (by decide +kernel)) rfl⟩
theorem fl_X8_159 : FLk RX8 159 3 7 := ⟨by decide, (RX3, TX3, 9), rfl, by decide, Or.inr ⟨"BearMouse", NW_in (List.mem_of_getElem? (i := 258) (by decide +kernel)) rfl⟩⟩
theorem fl_X8_160 : FLk RX8 160 3 8 := ⟨by decide, (RX3, TX3, 9), rfl, by decide, Or.inr ⟨"BearMouse", NW_in (List.mem_of_getElem? (i := 260) (by decide +kernel)) rfl⟩⟩
theorem fl_X8_161 : FLk RX8 161 3 6 := ⟨by decide, (RX3, TX3, 9), rfl, by decide, Or.inr ⟨"BearMouse", NW_in (List.mem_of_getElem? (i := 256) (by decide +kernel)) rfl⟩⟩
theorem lki_X1_learn : LKI yX1_learn cX1_learn 4 none 3 := ⟨AW_in (List.mem_of_getElem? (i := 652) (by decide +kernel)) rfl, AW_in (List.mem_of_getElem? (i := 117) (by decide +kernel)) rfl, ⟨by decide +kernel, by decide +kernel⟩, by decide +kernel⟩
theorem lkv_X1_learn : LKV yX1_learn := ⟨AW_in (List.mem_of_getElem? (i := 651) (by decide +kernel)) rfl, AW_in (List.mem_of_getElem? (i := 21) (by decide +kernel)) rfl⟩
theorem lkc_X8_164 : LKC RX8 164 yX1_learn := Or.inr ⟨"BearMouse", NW_in (List.mem_of_getElem? (i := 649) (by decide +kernel)) rfl⟩
theorem lkc_X5_71 : LKC RX5 71 yX7_crossing := Or.inr ⟨"BearMouse", NW_in (List.mem_of_getElem? (i := 665) (by decide +kernel)) rfl⟩
theorem lki_X5_crossers : LKI yX5_crossers cX5_crossers 4 (some .int) 1 := ⟨AW_in (List.mem_of_getElem? (i := 664) (by decide +kernel)) rfl, AW_in (List.mem_of_getElem? (i := 111) (by decide +kernel)) rfl, ⟨by decide +kernel, by decide +kernel⟩, by decide +kernel⟩
theorem lkv_X5_crossers : LKV yX5_crossers := ⟨AW_in (List.mem_of_getElem? (i := 663) (by decide +kernel)) rfl, AW_in (List.mem_of_getElem? (i := 22) (by decide +kernel)) rfl⟩
theorem lkc_X8_168 : LKC RX8 168 yX5_crossers := Or.inr ⟨"BearMouse", NW_in (List.mem_of_getElem? (i := 661) (by decide +kernel)) rfl⟩
theorem lki_X2_together : LKI yX2_together cX2_together 3 (some .int) 0 := ⟨AW_in (List.mem_of_getElem? (i := 669) (by decide +kernel)) rfl, AW_in (List.mem_of_getElem? (i := 112) (by decide +kernel)) rfl, ⟨by decide +kernel, by decide +kernel⟩, by decide +kernel⟩
theorem lkv_X2_together : LKV yX2_together := ⟨AW_in (List.mem_of_getElem? (i := 668) (by decide +kernel)) rfl, AW_in (List.mem_of_getElem? (i := 23) (by decide +kernel)) rfl⟩
theorem lkc_X8_172 : LKC RX8 172 yX2_together := Or.inr ⟨"BearMouse", NW_in (List.mem_of_getElem? (i := 666) (by decide +kernel)) rfl⟩
theorem fl_X8_176 : FLk RX8 176 5 3 := ⟨by decide, (RX5, TX5, 8), rfl, by decide, Or.inr ⟨"BearMouse", NW_in (List.mem_of_getElem? (i := 216) (by decide +kernel)) rfl⟩⟩
theorem lkc_X1_28 : LKC RX1 28 yX1_growthOf := Or.inl (AW_in (List.mem_of_getElem? (i := 685) (by decide +kernel)) rfl)
theorem aw_91 : Cond.methodLink RX1 32 Lib.Math.min.name ∈ AW := AW_in (List.mem_of_getElem? (i := 686) (by decide +kernel)) rfl
theorem aw_92 : Cond.methodLink RX1 38 Lib.Math.max.name ∈ AW := AW_in (List.mem_of_getElem? (i := 687) (by decide +kernel)) rfl
theorem fl_X2_21 : FLk RX2 21 2 1 := ⟨by decide, (RX2, TX2, 2), rfl, by decide, Or.inl (AW_in (List.mem_of_getElem? (i := 151) (by decide +kernel)) rfl)⟩
theorem lki_X1_grown : LKI yX1_grown cX1_grown 4 (some .int) 3 := ⟨AW_in (List.mem_of_getElem? (i := 684) (by decide +kernel)) rfl, AW_in (List.mem_of_getElem? (i := 117) (by decide +kernel)) rfl, ⟨by decide +kernel, by decide +kernel⟩, by decide +kernel⟩
theorem lkv_X1_grown : LKV yX1_grown := ⟨AW_in (List.mem_of_getElem? (i := 683) (by decide +kernel)) rfl, AW_in (List.mem_of_getElem? (i := 25) (by decide +kernel)) rfl⟩
theorem lkc_X2_25 : LKC RX2 25 yX1_grown := Or.inr ⟨"BearMouse", NW_in (List.mem_of_getElem? (i := 681) (by decide +kernel)) rfl⟩
theorem lki_X8_isUpTo : LKI yX8_isUpTo cX8_isUpTo 2 (some .boolean) 2 := ⟨AW_in (List.mem_of_getElem? (i := 676) (by decide +kernel)) rfl, AW_in (List.mem_of_getElem? (i := 110) (by decide +kernel)) rfl, ⟨by decide +kernel, by decide +kernel⟩, by decide +kernel⟩
theorem lkv_X8_isUpTo : Cond.static yX8_isUpTo ∈ AW := AW_in (List.mem_of_getElem? (i := 675) (by decide +kernel)) rfl
theorem lkc_X8_179 : LKC RX8 179 yX8_isUpTo := Or.inl (AW_in (List.mem_of_getElem? (i := 674) (by decide +kernel)) rfl)
theorem lki_X2_ripen : LKI yX2_ripen cX2_ripen 5 none 2 := ⟨AW_in (List.mem_of_getElem? (i := 680) (by decide +kernel)) rfl, AW_in (List.mem_of_getElem? (i := 112) (by decide +kernel)) rfl, ⟨by decide +kernel, by decide +kernel⟩, by decide +kernel⟩
theorem lkv_X2_ripen : LKV yX2_ripen := ⟨AW_in (List.mem_of_getElem? (i := 679) (by decide +kernel)) rfl, AW_in (List.mem_of_getElem? (i := 24) (by decide +kernel)) rfl⟩
theorem lkc_X8_182 : LKC RX8 182 yX2_ripen := Or.inr ⟨"BearMouse", NW_in (List.mem_of_getElem? (i := 677) (by decide +kernel)) rfl⟩
theorem aw_93 : Cond.methodLink RX2 15 arraycopyName ∈ AW := AW_in (List.mem_of_getElem? (i := 700) (by decide +kernel)) rfl
theorem lki_X2_become : LKI yX2_become cX2_become 2 none 1 := ⟨AW_in (List.mem_of_getElem? (i := 699) (by decide +kernel)) rfl, AW_in (List.mem_of_getElem? (i := 112) (by decide +kernel)) rfl, ⟨by decide +kernel, by decide +kernel⟩, by decide +kernel⟩
theorem lkv_X2_become : LKV yX2_become := ⟨AW_in (List.mem_of_getElem? (i := 698) (by decide +kernel)) rfl, AW_in (List.mem_of_getElem? (i := 27) (by decide +kernel)) rfl⟩
theorem lkc_X8_190 : LKC RX8 190 yX2_become := Or.inr ⟨"BearMouse", NW_in (List.mem_of_getElem? (i := 696) (by decide +kernel)) rfl⟩
theorem lki_X8_askBehind : LKI yX8_askBehind cX8_askBehind 2 none 1 := ⟨AW_in (List.mem_of_getElem? (i := 695) (by decide +kernel)) rfl, AW_in (List.mem_of_getElem? (i := 110) (by decide +kernel)) rfl, ⟨by decide +kernel, by decide +kernel⟩, by decide +kernel⟩
theorem lkv_X8_askBehind : LKV yX8_askBehind := ⟨AW_in (List.mem_of_getElem? (i := 694) (by decide +kernel)) rfl, AW_in (List.mem_of_getElem? (i := 26) (by decide +kernel)) rfl⟩
theorem lkc_X8_186 : LKC RX8 186 yX8_askBehind := Or.inl (AW_in (List.mem_of_getElem? (i := 692) (by decide +kernel)) rfl)
theorem aw_94 : Cond.constant RX8 196 34952 ∈ AW := AW_in (List.mem_of_getElem? (i := 710) (by decide +kernel)) rfl
theorem lkc_X8_201 : LKC RX8 201 yX8_fewest := Or.inl (AW_in (List.mem_of_getElem? (i := 712) (by decide +kernel)) rfl)
theorem lkc_X8_193 : LKC RX8 193 yX7_bearers := Or.inr ⟨"BearMouse", NW_in (List.mem_of_getElem? (i := 709) (by decide +kernel)) rfl⟩
theorem lkc_X8_197 : LKC RX8 197 yX7_leaps := Or.inr ⟨"BearMouse", NW_in (List.mem_of_getElem? (i := 711) (by decide +kernel)) rfl⟩
theorem lki_X8_firstAt : LKI yX8_firstAt cX8_firstAt 5 (some .int) 4 := ⟨AW_in (List.mem_of_getElem? (i := 715) (by decide +kernel)) rfl, AW_in (List.mem_of_getElem? (i := 110) (by decide +kernel)) rfl, ⟨by decide +kernel, by decide +kernel⟩, by decide +kernel⟩
theorem lkv_X8_firstAt : Cond.static yX8_firstAt ∈ AW := AW_in (List.mem_of_getElem? (i := 714) (by decide +kernel)) rfl
theorem lkc_X8_205 : LKC RX8 205 yX8_firstAt := Or.inl (AW_in (List.mem_of_getElem? (i := 713) (by decide +kernel)) rfl)
theorem aw_95 : Cond.methodLink RX7 25 arraycopyName ∈ AW := AW_in (List.mem_of_getElem? (i := 728) (by decide +kernel)) rfl
theorem lki_X7_copy : LKI yX7_copy cX7_copy 2 none 1 := ⟨AW_in (List.mem_of_getElem? (i := 727) (by decide +kernel)) rfl, AW_in (List.mem_of_getElem? (i := 114) (by decide +kernel)) rfl, ⟨by decide +kernel, by decide +kernel⟩, by decide +kernel⟩
theorem lkv_X7_copy : LKV yX7_copy := ⟨AW_in (List.mem_of_getElem? (i := 726) (by decide +kernel)) rfl, AW_in (List.mem_of_getElem? (i := 28) (by decide +kernel)) rfl⟩
theorem lkc_X8_208 : LKC RX8 208 yX7_copy := Or.inr ⟨"BearMouse", NW_in (List.mem_of_getElem? (i := 724) (by decide +kernel)) rfl⟩
theorem aw_96 : Cond.constant RJ6 265 1431655765 ∈ AW := AW_in (List.mem_of_getElem? (i := 742) (by decide +kernel)) rfl
theorem aw_97 : Cond.constant RJ6 266 858993459 ∈ AW := AW_in (List.mem_of_getElem? (i := 743) (by decide +kernel)) rfl
theorem aw_98 : Cond.constant RJ6 267 252645135 ∈ AW := AW_in (List.mem_of_getElem? (i := 744) (by decide +kernel)) rfl
theorem lki_J6_bitCount_0f7a4 : LKI yJ6_bitCount_0f7a4 cJ6_bitCount_0f7a4 1 (some .int) 1 := ⟨AW_in (List.mem_of_getElem? (i := 741) (by decide +kernel)) rfl, AW_in (List.mem_of_getElem? (i := 126) (by decide +kernel)) rfl, ⟨by decide +kernel, by decide +kernel⟩, by decide +kernel⟩
theorem lkv_J6_bitCount_0f7a4 : Cond.static yJ6_bitCount_0f7a4 ∈ AW := AW_in (List.mem_of_getElem? (i := 740) (by decide +kernel)) rfl
theorem lkc_X8_215 : LKC RX8 215 yJ6_bitCount_0f7a4 := Or.inl (AW_in (List.mem_of_getElem? (i := 739) (by decide +kernel)) rfl)
theorem lki_X8_isLess : LKI yX8_isLess cX8_isLess 3 (some .boolean) 2 := ⟨AW_in (List.mem_of_getElem? (i := 738) (by decide +kernel)) rfl, AW_in (List.mem_of_getElem? (i := 110) (by decide +kernel)) rfl, ⟨by decide +kernel, by decide +kernel⟩, by decide +kernel⟩
theorem lkv_X8_isLess : Cond.static yX8_isLess ∈ AW := AW_in (List.mem_of_getElem? (i := 737) (by decide +kernel)) rfl
theorem lkc_X8_320 : LKC RX8 320 yX8_isLess := Or.inl (AW_in (List.mem_of_getElem? (i := 736) (by decide +kernel)) rfl)
theorem lki_X8_leastCut : LKI yX8_leastCut cX8_leastCut 7 (some .int) 2 := ⟨AW_in (List.mem_of_getElem? (i := 735) (by decide +kernel)) rfl, AW_in (List.mem_of_getElem? (i := 110) (by decide +kernel)) rfl, ⟨by decide +kernel, by decide +kernel⟩, by decide +kernel⟩
theorem lkv_X8_leastCut : Cond.static yX8_leastCut ∈ AW := AW_in (List.mem_of_getElem? (i := 734) (by decide +kernel)) rfl
theorem lkc_X8_212 : LKC RX8 212 yX8_leastCut := Or.inl (AW_in (List.mem_of_getElem? (i := 733) (by decide +kernel)) rfl)
theorem fl_X4_25 : FLk RX4 25 4 4 := ⟨by decide, (RX4, TX4, 5), rfl, by decide, Or.inl (AW_in (List.mem_of_getElem? (i := 174) (by decide +kernel)) rfl)⟩
theorem fl_X8_221 : FLk RX8 221 5 4 := ⟨by decide, (RX5, TX5, 8), rfl, by decide, Or.inr ⟨"BearMouse", NW_in (List.mem_of_getElem? (i := 218) (by decide +kernel)) rfl⟩⟩
theorem lki_X4_append : LKI yX4_append cX4_append 4 (some .int) 3 := ⟨AW_in (List.mem_of_getElem? (i := 768) (by decide +kernel)) rfl, AW_in (List.mem_of_getElem? (i := 113) (by decide +kernel)) rfl, ⟨by decide +kernel, by decide +kernel⟩, by decide +kernel⟩
theorem lkv_X4_append : LKV yX4_append := ⟨AW_in (List.mem_of_getElem? (i := 767) (by decide +kernel)) rfl, AW_in (List.mem_of_getElem? (i := 30) (by decide +kernel)) rfl⟩
theorem lkc_X8_230 : LKC RX8 230 yX4_append := Or.inr ⟨"BearMouse", NW_in (List.mem_of_getElem? (i := 765) (by decide +kernel)) rfl⟩
theorem lki_X4_empty : LKI yX4_empty cX4_empty 1 (some .int) 0 := ⟨AW_in (List.mem_of_getElem? (i := 764) (by decide +kernel)) rfl, AW_in (List.mem_of_getElem? (i := 113) (by decide +kernel)) rfl, ⟨by decide +kernel, by decide +kernel⟩, by decide +kernel⟩
theorem lkv_X4_empty : LKV yX4_empty := ⟨AW_in (List.mem_of_getElem? (i := 763) (by decide +kernel)) rfl, AW_in (List.mem_of_getElem? (i := 29) (by decide +kernel)) rfl⟩
theorem lkc_X8_225 : LKC RX8 225 yX4_empty := Or.inr ⟨"BearMouse", NW_in (List.mem_of_getElem? (i := 761) (by decide +kernel)) rfl⟩
theorem fl_X8_259 : FLk RX8 259 4 1 := ⟨by decide, (RX4, TX4, 5), rfl, by decide, Or.inr ⟨"BearMouse", NW_in (List.mem_of_getElem? (i := 169) (by decide +kernel)) rfl⟩⟩
theorem fl_X8_323 : FLk RX8 323 4 3 := ⟨by decide, (RX4, TX4, 5), rfl, by decide, Or.inr ⟨"BearMouse", NW_in (List.mem_of_getElem? (i := 173) (by decide +kernel)) rfl⟩⟩
theorem lki_X8_fitAll : LKI yX8_fitAll cX8_fitAll 3 none 1 := ⟨AW_in (List.mem_of_getElem? (i := 776) (by decide +kernel)) rfl, AW_in (List.mem_of_getElem? (i := 110) (by decide +kernel)) rfl, ⟨by decide +kernel, by decide +kernel⟩, by decide +kernel⟩
theorem lkv_X8_fitAll : LKV yX8_fitAll := ⟨AW_in (List.mem_of_getElem? (i := 775) (by decide +kernel)) rfl, AW_in (List.mem_of_getElem? (i := 31) (by decide +kernel)) rfl⟩
theorem lkc_X8_232 : LKC RX8 232 yX8_fitAll := Or.inl (AW_in (List.mem_of_getElem? (i := 773) (by decide +kernel)) rfl)
theorem fl_X8_235 : FLk RX8 235 4 4 := ⟨by decide, (RX4, TX4, 5), rfl, by decide, Or.inr ⟨"BearMouse", NW_in (List.mem_of_getElem? (i := 175) (by decide +kernel)) rfl⟩⟩
theorem fl_X8_238 : FLk RX8 238 4 2 := ⟨by decide, (RX4, TX4, 5), rfl, by decide, Or.inr ⟨"BearMouse", NW_in (List.mem_of_getElem? (i := 171) (by decide +kernel)) rfl⟩⟩
theorem lki_X8_isSeenSo : LKI yX8_isSeenSo cX8_isSeenSo 6 (some .boolean) 2 := ⟨AW_in (List.mem_of_getElem? (i := 780) (by decide +kernel)) rfl, AW_in (List.mem_of_getElem? (i := 110) (by decide +kernel)) rfl, ⟨by decide +kernel, by decide +kernel⟩, by decide +kernel⟩
theorem lkv_X8_isSeenSo : LKV yX8_isSeenSo := ⟨AW_in (List.mem_of_getElem? (i := 779) (by decide +kernel)) rfl, AW_in (List.mem_of_getElem? (i := 32) (by decide +kernel)) rfl⟩
theorem lkc_X8_241 : LKC RX8 241 yX8_isSeenSo := Or.inl (AW_in (List.mem_of_getElem? (i := 777) (by decide +kernel)) rfl)
theorem lki_X8_fitting : LKI yX8_fitting cX8_fitting 6 (some .int) 2 := ⟨AW_in (List.mem_of_getElem? (i := 784) (by decide +kernel)) rfl, AW_in (List.mem_of_getElem? (i := 110) (by decide +kernel)) rfl, ⟨by decide +kernel, by decide +kernel⟩, by decide +kernel⟩
theorem lkv_X8_fitting : LKV yX8_fitting := ⟨AW_in (List.mem_of_getElem? (i := 783) (by decide +kernel)) rfl, AW_in (List.mem_of_getElem? (i := 33) (by decide +kernel)) rfl⟩
theorem lkc_X8_244 : LKC RX8 244 yX8_fitting := Or.inl (AW_in (List.mem_of_getElem? (i := 781) (by decide +kernel)) rfl)
theorem lkc_X8_247 : LKC RX8 247 yX1_grown := Or.inr ⟨"BearMouse", NW_in (List.mem_of_getElem? (i := 793) (by decide +kernel)) rfl⟩
theorem aw_99 : Cond.constantLong RX8 250 (-9223372036854775808) ∈ AW := AW_in (List.mem_of_getElem? (i := 798) (by decide +kernel)) rfl
theorem lki_X8_partOfSixteenths : LKI yX8_partOfSixteenths cX8_partOfSixteenths 4 (some .long) 2 := ⟨AW_in (List.mem_of_getElem? (i := 801) (by decide +kernel)) rfl, AW_in (List.mem_of_getElem? (i := 110) (by decide +kernel)) rfl, ⟨by decide +kernel, by decide +kernel⟩, by decide +kernel⟩
theorem lkv_X8_partOfSixteenths : Cond.static yX8_partOfSixteenths ∈ AW := AW_in (List.mem_of_getElem? (i := 800) (by decide +kernel)) rfl
theorem lkc_X8_252 : LKC RX8 252 yX8_partOfSixteenths := Or.inl (AW_in (List.mem_of_getElem? (i := 799) (by decide +kernel)) rfl)
theorem fl_X8_256 : FLk RX8 256 5 5 := ⟨by decide, (RX5, TX5, 8), rfl, by decide, Or.inr ⟨"BearMouse", NW_in (List.mem_of_getElem? (i := 220) (by decide +kernel)) rfl⟩⟩
theorem fl_X8_262 : FLk RX8 262 5 6 := ⟨by decide, (RX5, TX5, 8), rfl, by decide, Or.inr ⟨"BearMouse", NW_in (List.mem_of_getElem? (i := 222) (by decide +kernel)) rfl⟩⟩
theorem lki_X6_isNothing : LKI yX6_isNothing cX6_isNothing 1 (some .boolean) 0 := ⟨AW_in (List.mem_of_getElem? (i := 829) (by decide +kernel)) rfl, AW_in (List.mem_of_getElem? (i := 118) (by decide +kernel)) rfl, ⟨by decide +kernel, by decide +kernel⟩, by decide +kernel⟩
theorem lkv_X6_isNothing : LKV yX6_isNothing := ⟨AW_in (List.mem_of_getElem? (i := 828) (by decide +kernel)) rfl, AW_in (List.mem_of_getElem? (i := 34) (by decide +kernel)) rfl⟩
theorem lkc_X8_265 : LKC RX8 265 yX6_isNothing := Or.inr ⟨"BearMouse", NW_in (List.mem_of_getElem? (i := 826) (by decide +kernel)) rfl⟩
theorem fl_X8_268 : FLk RX8 268 6 0 := ⟨by decide, (RX6, TX6, 3), rfl, by decide, Or.inr ⟨"BearMouse", NW_in (List.mem_of_getElem? (i := 340) (by decide +kernel)) rfl⟩⟩
theorem fl_X8_271 : FLk RX8 271 6 1 := ⟨by decide, (RX6, TX6, 3), rfl, by decide, Or.inr ⟨"BearMouse", NW_in (List.mem_of_getElem? (i := 342) (by decide +kernel)) rfl⟩⟩
theorem aw_100 : Cond.methodLink RX8 272 Lib.Math.min.name ∈ AW := AW_in (List.mem_of_getElem? (i := 830) (by decide +kernel)) rfl
theorem fl_X8_277 : FLk RX8 277 6 2 := ⟨by decide, (RX6, TX6, 3), rfl, by decide, Or.inr ⟨"BearMouse", NW_in (List.mem_of_getElem? (i := 344) (by decide +kernel)) rfl⟩⟩
theorem aw_101 : Cond.methodLink RX4 28 Lib.Math.min.name ∈ AW := AW_in (List.mem_of_getElem? (i := 845) (by decide +kernel)) rfl
theorem aw_102 : Cond.methodLink RX4 34 arraycopyName ∈ AW := AW_in (List.mem_of_getElem? (i := 846) (by decide +kernel)) rfl
theorem lkc_X5_40 : LKC RX5 40 yX2_become := Or.inr ⟨"BearMouse", NW_in (List.mem_of_getElem? (i := 839) (by decide +kernel)) rfl⟩
theorem lkc_X5_48 : LKC RX5 48 yX7_copy := Or.inr ⟨"BearMouse", NW_in (List.mem_of_getElem? (i := 840) (by decide +kernel)) rfl⟩
theorem fl_X5_52 : FLk RX5 52 5 3 := ⟨by decide, (RX5, TX5, 8), rfl, by decide, Or.inl (AW_in (List.mem_of_getElem? (i := 215) (by decide +kernel)) rfl)⟩
theorem lki_X4_copy : LKI yX4_copy cX4_copy 2 none 1 := ⟨AW_in (List.mem_of_getElem? (i := 844) (by decide +kernel)) rfl, AW_in (List.mem_of_getElem? (i := 113) (by decide +kernel)) rfl, ⟨by decide +kernel, by decide +kernel⟩, by decide +kernel⟩
theorem lkv_X4_copy : LKV yX4_copy := ⟨AW_in (List.mem_of_getElem? (i := 843) (by decide +kernel)) rfl, AW_in (List.mem_of_getElem? (i := 36) (by decide +kernel)) rfl⟩
theorem lkc_X5_55 : LKC RX5 55 yX4_copy := Or.inr ⟨"BearMouse", NW_in (List.mem_of_getElem? (i := 841) (by decide +kernel)) rfl⟩
theorem lki_X5_copy : LKI yX5_copy cX5_copy 3 none 1 := ⟨AW_in (List.mem_of_getElem? (i := 838) (by decide +kernel)) rfl, AW_in (List.mem_of_getElem? (i := 111) (by decide +kernel)) rfl, ⟨by decide +kernel, by decide +kernel⟩, by decide +kernel⟩
theorem lkv_X5_copy : LKV yX5_copy := ⟨AW_in (List.mem_of_getElem? (i := 837) (by decide +kernel)) rfl, AW_in (List.mem_of_getElem? (i := 35) (by decide +kernel)) rfl⟩
theorem lkc_X8_281 : LKC RX8 281 yX5_copy := Or.inr ⟨"BearMouse", NW_in (List.mem_of_getElem? (i := 835) (by decide +kernel)) rfl⟩
theorem fl_X8_284 : FLk RX8 284 8 2 := ⟨by decide, (RX8, TX8, 10), rfl, by decide, Or.inl (AW_in (List.mem_of_getElem? (i := 355) (by decide +kernel)) rfl)⟩
theorem fl_X0_42 : FLk RX0 42 0 1 := ⟨by decide, (RX0, TX0, 5), rfl, by decide, Or.inl (AW_in (List.mem_of_getElem? (i := 289) (by decide +kernel)) rfl)⟩
theorem fl_X0_29 : FLk RX0 29 0 2 := ⟨by decide, (RX0, TX0, 5), rfl, by decide, Or.inl (AW_in (List.mem_of_getElem? (i := 291) (by decide +kernel)) rfl)⟩
theorem fl_X0_33 : FLk RX0 33 0 3 := ⟨by decide, (RX0, TX0, 5), rfl, by decide, Or.inl (AW_in (List.mem_of_getElem? (i := 293) (by decide +kernel)) rfl)⟩
theorem lki_X0_run : LKI yX0_run cX0_run 7 (some .int) 4 := ⟨AW_in (List.mem_of_getElem? (i := 858) (by decide +kernel)) rfl, AW_in (List.mem_of_getElem? (i := 116) (by decide +kernel)) rfl, ⟨by decide +kernel, by decide +kernel⟩, by decide +kernel⟩
theorem lkv_X0_run : LKV yX0_run := ⟨AW_in (List.mem_of_getElem? (i := 857) (by decide +kernel)) rfl, AW_in (List.mem_of_getElem? (i := 37) (by decide +kernel)) rfl⟩
theorem lkc_X0_36 : LKC RX0 36 yX0_run := Or.inl (AW_in (List.mem_of_getElem? (i := 871) (by decide +kernel)) rfl)
theorem fl_X0_39 : FLk RX0 39 0 4 := ⟨by decide, (RX0, TX0, 5), rfl, by decide, Or.inl (AW_in (List.mem_of_getElem? (i := 295) (by decide +kernel)) rfl)⟩
theorem aw_103 : Cond.fieldLink RX0 15 "BearMouse$Acts" "BODY_OF" "[I" ∈ AW := AW_in (List.mem_of_getElem? (i := 859) (by decide +kernel)) rfl
theorem lki_X0_note : LKI yX0_note cX0_note 2 none 1 := ⟨AW_in (List.mem_of_getElem? (i := 866) (by decide +kernel)) rfl, AW_in (List.mem_of_getElem? (i := 116) (by decide +kernel)) rfl, ⟨by decide +kernel, by decide +kernel⟩, by decide +kernel⟩
theorem lkv_X0_note : LKV yX0_note := ⟨AW_in (List.mem_of_getElem? (i := 865) (by decide +kernel)) rfl, AW_in (List.mem_of_getElem? (i := 38) (by decide +kernel)) rfl⟩
theorem lkc_X0_21 : LKC RX0 21 yX0_note := Or.inl (AW_in (List.mem_of_getElem? (i := 863) (by decide +kernel)) rfl)
theorem lki_X0_done : LKI yX0_done cX0_done 5 (some .int) 4 := ⟨AW_in (List.mem_of_getElem? (i := 870) (by decide +kernel)) rfl, AW_in (List.mem_of_getElem? (i := 116) (by decide +kernel)) rfl, ⟨by decide +kernel, by decide +kernel⟩, by decide +kernel⟩
theorem lkv_X0_done : LKV yX0_done := ⟨AW_in (List.mem_of_getElem? (i := 869) (by decide +kernel)) rfl, AW_in (List.mem_of_getElem? (i := 39) (by decide +kernel)) rfl⟩
theorem lkc_X0_25 : LKC RX0 25 yX0_done := Or.inl (AW_in (List.mem_of_getElem? (i := 867) (by decide +kernel)) rfl)
theorem fl_X8_288 : FLk RX8 288 0 1 := ⟨by decide, (RX0, TX0, 5), rfl, by decide, Or.inr ⟨"BearMouse", NW_in (List.mem_of_getElem? (i := 290) (by decide +kernel)) rfl⟩⟩
theorem fl_X8_291 : FLk RX8 291 0 2 := ⟨by decide, (RX0, TX0, 5), rfl, by decide, Or.inr ⟨"BearMouse", NW_in (List.mem_of_getElem? (i := 292) (by decide +kernel)) rfl⟩⟩
theorem fl_X8_294 : FLk RX8 294 0 3 := ⟨by decide, (RX0, TX0, 5), rfl, by decide, Or.inr ⟨"BearMouse", NW_in (List.mem_of_getElem? (i := 294) (by decide +kernel)) rfl⟩⟩
theorem fl_X8_295 : FLk RX8 295 0 4 := ⟨by decide, (RX0, TX0, 5), rfl, by decide, Or.inr ⟨"BearMouse", NW_in (List.mem_of_getElem? (i := 296) (by decide +kernel)) rfl⟩⟩
theorem lkc_X8_296 : LKC RX8 296 yX0_run := Or.inr ⟨"BearMouse", NW_in (List.mem_of_getElem? (i := 855) (by decide +kernel)) rfl⟩
theorem fl_X8_300 : FLk RX8 300 0 0 := ⟨by decide, (RX0, TX0, 5), rfl, by decide, Or.inr ⟨"BearMouse", NW_in (List.mem_of_getElem? (i := 288) (by decide +kernel)) rfl⟩⟩
theorem aw_104 : Cond.fieldLink RX8 303 "BearMouse" "KIND_ABOVE" "[I" ∈ AW := AW_in (List.mem_of_getElem? (i := 880) (by decide +kernel)) rfl
theorem fl_X6_17 : FLk RX6 17 6 1 := ⟨by decide, (RX6, TX6, 3), rfl, by decide, Or.inl (AW_in (List.mem_of_getElem? (i := 341) (by decide +kernel)) rfl)⟩
theorem lki_X6_become : LKI yX6_become cX6_become 4 none 2 := ⟨AW_in (List.mem_of_getElem? (i := 892) (by decide +kernel)) rfl, AW_in (List.mem_of_getElem? (i := 118) (by decide +kernel)) rfl, ⟨by decide +kernel, by decide +kernel⟩, by decide +kernel⟩
theorem lkv_X6_become : LKV yX6_become := ⟨AW_in (List.mem_of_getElem? (i := 891) (by decide +kernel)) rfl, AW_in (List.mem_of_getElem? (i := 40) (by decide +kernel)) rfl⟩
theorem lkc_X8_306 : LKC RX8 306 yX6_become := Or.inr ⟨"BearMouse", NW_in (List.mem_of_getElem? (i := 889) (by decide +kernel)) rfl⟩
theorem lki_X6_fitted : LKI yX6_fitted cX6_fitted 3 (some .long) 1 := ⟨AW_in (List.mem_of_getElem? (i := 900) (by decide +kernel)) rfl, AW_in (List.mem_of_getElem? (i := 118) (by decide +kernel)) rfl, ⟨by decide +kernel, by decide +kernel⟩, by decide +kernel⟩
theorem lkv_X6_fitted : LKV yX6_fitted := ⟨AW_in (List.mem_of_getElem? (i := 899) (by decide +kernel)) rfl, AW_in (List.mem_of_getElem? (i := 41) (by decide +kernel)) rfl⟩
theorem lkc_X8_308 : LKC RX8 308 yX6_fitted := Or.inr ⟨"BearMouse", NW_in (List.mem_of_getElem? (i := 897) (by decide +kernel)) rfl⟩
theorem aw_105 : Cond.methodLink RX8 312 arraycopyName ∈ AW := AW_in (List.mem_of_getElem? (i := 909) (by decide +kernel)) rfl
theorem aw_106 : Cond.methodLink RX9 1 Lib.objectInit ∈ AW := AW_in (List.mem_of_getElem? (i := 915) (by decide +kernel)) rfl
theorem fl_X9_7 : FLk RX9 7 9 0 := ⟨by decide, (RX9, TX9, 70), rfl, by decide, Or.inl (AW_in (List.mem_of_getElem? (i := 916) (by decide +kernel)) rfl)⟩
theorem fl_X9_13 : FLk RX9 13 9 1 := ⟨by decide, (RX9, TX9, 70), rfl, by decide, Or.inl (AW_in (List.mem_of_getElem? (i := 917) (by decide +kernel)) rfl)⟩
theorem fl_X9_16 : FLk RX9 16 9 2 := ⟨by decide, (RX9, TX9, 70), rfl, by decide, Or.inl (AW_in (List.mem_of_getElem? (i := 918) (by decide +kernel)) rfl)⟩
theorem aw_107 : Cond.fieldLink RX9 16 RX9 "strong" "[I" ∈ AW := AW_in (List.mem_of_getElem? (i := 918) (by decide +kernel)) rfl
theorem fl_X9_20 : FLk RX9 20 9 3 := ⟨by decide, (RX9, TX9, 70), rfl, by decide, Or.inl (AW_in (List.mem_of_getElem? (i := 919) (by decide +kernel)) rfl)⟩
theorem aw_108 : Cond.fieldLink RX9 20 RX9 "kind" "[I" ∈ AW := AW_in (List.mem_of_getElem? (i := 919) (by decide +kernel)) rfl
theorem fl_X9_23 : FLk RX9 23 9 4 := ⟨by decide, (RX9, TX9, 70), rfl, by decide, Or.inl (AW_in (List.mem_of_getElem? (i := 920) (by decide +kernel)) rfl)⟩
theorem aw_109 : Cond.fieldLink RX9 23 RX9 "v" "[I" ∈ AW := AW_in (List.mem_of_getElem? (i := 920) (by decide +kernel)) rfl
theorem fl_X9_26 : FLk RX9 26 9 5 := ⟨by decide, (RX9, TX9, 70), rfl, by decide, Or.inl (AW_in (List.mem_of_getElem? (i := 921) (by decide +kernel)) rfl)⟩
theorem aw_110 : Cond.fieldLink RX9 26 RX9 "weight" "[I" ∈ AW := AW_in (List.mem_of_getElem? (i := 921) (by decide +kernel)) rfl
theorem fl_X9_29 : FLk RX9 29 9 6 := ⟨by decide, (RX9, TX9, 70), rfl, by decide, Or.inl (AW_in (List.mem_of_getElem? (i := 922) (by decide +kernel)) rfl)⟩
theorem aw_111 : Cond.fieldLink RX9 29 RX9 "lines" "[I" ∈ AW := AW_in (List.mem_of_getElem? (i := 922) (by decide +kernel)) rfl
theorem fl_X9_32 : FLk RX9 32 9 7 := ⟨by decide, (RX9, TX9, 70), rfl, by decide, Or.inl (AW_in (List.mem_of_getElem? (i := 923) (by decide +kernel)) rfl)⟩
theorem fl_X9_35 : FLk RX9 35 9 8 := ⟨by decide, (RX9, TX9, 70), rfl, by decide, Or.inl (AW_in (List.mem_of_getElem? (i := 924) (by decide +kernel)) rfl)⟩
theorem fl_X9_38 : FLk RX9 38 9 9 := ⟨by decide, (RX9, TX9, 70), rfl, by decide, Or.inl (AW_in (List.mem_of_getElem? (i := 925) (by decide +kernel)) rfl)⟩
theorem fl_X9_41 : FLk RX9 41 9 10 := ⟨by decide, (RX9, TX9, 70), rfl, by decide, Or.inl (AW_in (List.mem_of_getElem? (i := 926) (by decide +kernel)) rfl)⟩
theorem fl_X9_44 : FLk RX9 44 9 11 := ⟨by decide, (RX9, TX9, 70), rfl, by decide, Or.inl (AW_in (List.mem_of_getElem? (i := 927) (by decide +kernel)) rfl)⟩
theorem fl_X9_47 : FLk RX9 47 9 12 := ⟨by decide, (RX9, TX9, 70), rfl, by decide, Or.inl (AW_in (List.mem_of_getElem? (i := 928) (by decide +kernel)) rfl)⟩
theorem aw_112 : Cond.fieldLink RX9 47 RX9 "text" "[I" ∈ AW := AW_in (List.mem_of_getElem? (i := 928) (by decide +kernel)) rfl
theorem fl_X9_50 : FLk RX9 50 9 13 := ⟨by decide, (RX9, TX9, 70), rfl, by decide, Or.inl (AW_in (List.mem_of_getElem? (i := 929) (by decide +kernel)) rfl)⟩
theorem aw_113 : Cond.fieldLink RX9 50 RX9 "clauses" "[I" ∈ AW := AW_in (List.mem_of_getElem? (i := 929) (by decide +kernel)) rfl
theorem fl_X9_53 : FLk RX9 53 9 14 := ⟨by decide, (RX9, TX9, 70), rfl, by decide, Or.inl (AW_in (List.mem_of_getElem? (i := 930) (by decide +kernel)) rfl)⟩
theorem aw_114 : Cond.fieldLink RX9 53 RX9 "word" "[I" ∈ AW := AW_in (List.mem_of_getElem? (i := 930) (by decide +kernel)) rfl
theorem fl_X9_56 : FLk RX9 56 9 15 := ⟨by decide, (RX9, TX9, 70), rfl, by decide, Or.inl (AW_in (List.mem_of_getElem? (i := 931) (by decide +kernel)) rfl)⟩
theorem aw_115 : Cond.fieldLink RX9 56 RX9 "number" "[I" ∈ AW := AW_in (List.mem_of_getElem? (i := 931) (by decide +kernel)) rfl
theorem fl_X9_59 : FLk RX9 59 9 16 := ⟨by decide, (RX9, TX9, 70), rfl, by decide, Or.inl (AW_in (List.mem_of_getElem? (i := 932) (by decide +kernel)) rfl)⟩
theorem aw_116 : Cond.fieldLink RX9 59 RX9 "from" "[I" ∈ AW := AW_in (List.mem_of_getElem? (i := 932) (by decide +kernel)) rfl
theorem fl_X9_62 : FLk RX9 62 9 17 := ⟨by decide, (RX9, TX9, 70), rfl, by decide, Or.inl (AW_in (List.mem_of_getElem? (i := 933) (by decide +kernel)) rfl)⟩
theorem aw_117 : Cond.fieldLink RX9 62 RX9 "to" "[I" ∈ AW := AW_in (List.mem_of_getElem? (i := 933) (by decide +kernel)) rfl
theorem fl_X9_65 : FLk RX9 65 9 18 := ⟨by decide, (RX9, TX9, 70), rfl, by decide, Or.inl (AW_in (List.mem_of_getElem? (i := 934) (by decide +kernel)) rfl)⟩
theorem aw_118 : Cond.fieldLink RX9 65 RX9 "sign" "[I" ∈ AW := AW_in (List.mem_of_getElem? (i := 934) (by decide +kernel)) rfl
theorem fl_X9_68 : FLk RX9 68 9 19 := ⟨by decide, (RX9, TX9, 70), rfl, by decide, Or.inl (AW_in (List.mem_of_getElem? (i := 935) (by decide +kernel)) rfl)⟩
theorem aw_119 : Cond.fieldLink RX9 68 RX9 "waits" "[I" ∈ AW := AW_in (List.mem_of_getElem? (i := 935) (by decide +kernel)) rfl
theorem fl_X9_71 : FLk RX9 71 9 20 := ⟨by decide, (RX9, TX9, 70), rfl, by decide, Or.inl (AW_in (List.mem_of_getElem? (i := 936) (by decide +kernel)) rfl)⟩
theorem fl_X9_74 : FLk RX9 74 9 21 := ⟨by decide, (RX9, TX9, 70), rfl, by decide, Or.inl (AW_in (List.mem_of_getElem? (i := 937) (by decide +kernel)) rfl)⟩
theorem fl_X9_77 : FLk RX9 77 9 22 := ⟨by decide, (RX9, TX9, 70), rfl, by decide, Or.inl (AW_in (List.mem_of_getElem? (i := 938) (by decide +kernel)) rfl)⟩
theorem fl_X9_80 : FLk RX9 80 9 23 := ⟨by decide, (RX9, TX9, 70), rfl, by decide, Or.inl (AW_in (List.mem_of_getElem? (i := 939) (by decide +kernel)) rfl)⟩
theorem aw_120 : Cond.fieldLink RX9 80 RX9 "letters" "[I" ∈ AW := AW_in (List.mem_of_getElem? (i := 939) (by decide +kernel)) rfl
theorem fl_X9_83 : FLk RX9 83 9 24 := ⟨by decide, (RX9, TX9, 70), rfl, by decide, Or.inl (AW_in (List.mem_of_getElem? (i := 940) (by decide +kernel)) rfl)⟩
theorem aw_121 : Cond.fieldLink RX9 83 RX9 "pile" "[Z" ∈ AW := AW_in (List.mem_of_getElem? (i := 940) (by decide +kernel)) rfl
theorem fl_X9_87 : FLk RX9 87 9 25 := ⟨by decide, (RX9, TX9, 70), rfl, by decide, Or.inl (AW_in (List.mem_of_getElem? (i := 941) (by decide +kernel)) rfl)⟩
theorem fl_X9_90 : FLk RX9 90 9 26 := ⟨by decide, (RX9, TX9, 70), rfl, by decide, Or.inl (AW_in (List.mem_of_getElem? (i := 942) (by decide +kernel)) rfl)⟩
theorem aw_122 : Cond.fieldLink RX9 90 RX9 "dist" "[I" ∈ AW := AW_in (List.mem_of_getElem? (i := 942) (by decide +kernel)) rfl
theorem fl_X9_93 : FLk RX9 93 9 27 := ⟨by decide, (RX9, TX9, 70), rfl, by decide, Or.inl (AW_in (List.mem_of_getElem? (i := 943) (by decide +kernel)) rfl)⟩
theorem aw_123 : Cond.fieldLink RX9 93 RX9 "wave" "[I" ∈ AW := AW_in (List.mem_of_getElem? (i := 943) (by decide +kernel)) rfl
theorem fl_X9_96 : FLk RX9 96 9 28 := ⟨by decide, (RX9, TX9, 70), rfl, by decide, Or.inl (AW_in (List.mem_of_getElem? (i := 944) (by decide +kernel)) rfl)⟩
theorem aw_124 : Cond.fieldLink RX9 96 RX9 "borne" "[Z" ∈ AW := AW_in (List.mem_of_getElem? (i := 944) (by decide +kernel)) rfl
theorem fl_X9_99 : FLk RX9 99 9 29 := ⟨by decide, (RX9, TX9, 70), rfl, by decide, Or.inl (AW_in (List.mem_of_getElem? (i := 945) (by decide +kernel)) rfl)⟩
theorem fl_X9_102 : FLk RX9 102 9 30 := ⟨by decide, (RX9, TX9, 70), rfl, by decide, Or.inl (AW_in (List.mem_of_getElem? (i := 946) (by decide +kernel)) rfl)⟩
theorem fl_X9_105 : FLk RX9 105 9 31 := ⟨by decide, (RX9, TX9, 70), rfl, by decide, Or.inl (AW_in (List.mem_of_getElem? (i := 947) (by decide +kernel)) rfl)⟩
theorem aw_125 : Cond.fieldLink RX9 105 RX9 "keptStrong" "[I" ∈ AW := AW_in (List.mem_of_getElem? (i := 947) (by decide +kernel)) rfl
theorem fl_X9_108 : FLk RX9 108 9 32 := ⟨by decide, (RX9, TX9, 70), rfl, by decide, Or.inl (AW_in (List.mem_of_getElem? (i := 948) (by decide +kernel)) rfl)⟩
theorem aw_126 : Cond.fieldLink RX9 108 RX9 "first" "[I" ∈ AW := AW_in (List.mem_of_getElem? (i := 948) (by decide +kernel)) rfl
theorem fl_X9_111 : FLk RX9 111 9 33 := ⟨by decide, (RX9, TX9, 70), rfl, by decide, Or.inl (AW_in (List.mem_of_getElem? (i := 949) (by decide +kernel)) rfl)⟩
theorem fl_X9_114 : FLk RX9 114 9 34 := ⟨by decide, (RX9, TX9, 70), rfl, by decide, Or.inl (AW_in (List.mem_of_getElem? (i := 950) (by decide +kernel)) rfl)⟩
theorem aw_127 : Cond.fieldLink RX9 114 RX9 "seenWho" "[I" ∈ AW := AW_in (List.mem_of_getElem? (i := 950) (by decide +kernel)) rfl
theorem fl_X9_117 : FLk RX9 117 9 35 := ⟨by decide, (RX9, TX9, 70), rfl, by decide, Or.inl (AW_in (List.mem_of_getElem? (i := 951) (by decide +kernel)) rfl)⟩
theorem aw_128 : Cond.fieldLink RX9 117 RX9 "seenWhen" "[I" ∈ AW := AW_in (List.mem_of_getElem? (i := 951) (by decide +kernel)) rfl
theorem fl_X9_120 : FLk RX9 120 9 36 := ⟨by decide, (RX9, TX9, 70), rfl, by decide, Or.inl (AW_in (List.mem_of_getElem? (i := 952) (by decide +kernel)) rfl)⟩
theorem aw_129 : Cond.fieldLink RX9 120 RX9 "then" "[I" ∈ AW := AW_in (List.mem_of_getElem? (i := 952) (by decide +kernel)) rfl
theorem fl_X9_123 : FLk RX9 123 9 37 := ⟨by decide, (RX9, TX9, 70), rfl, by decide, Or.inl (AW_in (List.mem_of_getElem? (i := 953) (by decide +kernel)) rfl)⟩
theorem aw_130 : Cond.fieldLink RX9 123 RX9 "seenCan" "[Z" ∈ AW := AW_in (List.mem_of_getElem? (i := 953) (by decide +kernel)) rfl
theorem fl_X9_126 : FLk RX9 126 9 38 := ⟨by decide, (RX9, TX9, 70), rfl, by decide, Or.inl (AW_in (List.mem_of_getElem? (i := 954) (by decide +kernel)) rfl)⟩
theorem fl_X9_129 : FLk RX9 129 9 39 := ⟨by decide, (RX9, TX9, 70), rfl, by decide, Or.inl (AW_in (List.mem_of_getElem? (i := 955) (by decide +kernel)) rfl)⟩
theorem fl_X9_132 : FLk RX9 132 9 40 := ⟨by decide, (RX9, TX9, 70), rfl, by decide, Or.inl (AW_in (List.mem_of_getElem? (i := 956) (by decide +kernel)) rfl)⟩
theorem aw_131 : Cond.fieldLink RX9 132 RX9 "afternoonWhat" "[I" ∈ AW := AW_in (List.mem_of_getElem? (i := 956) (by decide +kernel)) rfl
theorem fl_X9_135 : FLk RX9 135 9 41 := ⟨by decide, (RX9, TX9, 70), rfl, by decide, Or.inl (AW_in (List.mem_of_getElem? (i := 957) (by decide +kernel)) rfl)⟩
theorem aw_132 : Cond.fieldLink RX9 135 RX9 "afternoonCell" "[I" ∈ AW := AW_in (List.mem_of_getElem? (i := 957) (by decide +kernel)) rfl
theorem fl_X9_138 : FLk RX9 138 9 42 := ⟨by decide, (RX9, TX9, 70), rfl, by decide, Or.inl (AW_in (List.mem_of_getElem? (i := 958) (by decide +kernel)) rfl)⟩
theorem aw_133 : Cond.fieldLink RX9 138 RX9 "bookCell" "[I" ∈ AW := AW_in (List.mem_of_getElem? (i := 958) (by decide +kernel)) rfl
theorem fl_X9_141 : FLk RX9 141 9 43 := ⟨by decide, (RX9, TX9, 70), rfl, by decide, Or.inl (AW_in (List.mem_of_getElem? (i := 959) (by decide +kernel)) rfl)⟩
theorem aw_134 : Cond.fieldLink RX9 141 RX9 "bookStrong" "[I" ∈ AW := AW_in (List.mem_of_getElem? (i := 959) (by decide +kernel)) rfl
theorem fl_X9_144 : FLk RX9 144 9 44 := ⟨by decide, (RX9, TX9, 70), rfl, by decide, Or.inl (AW_in (List.mem_of_getElem? (i := 960) (by decide +kernel)) rfl)⟩
theorem fl_X9_148 : FLk RX9 148 9 45 := ⟨by decide, (RX9, TX9, 70), rfl, by decide, Or.inl (AW_in (List.mem_of_getElem? (i := 961) (by decide +kernel)) rfl)⟩
theorem fl_X9_151 : FLk RX9 151 9 46 := ⟨by decide, (RX9, TX9, 70), rfl, by decide, Or.inl (AW_in (List.mem_of_getElem? (i := 962) (by decide +kernel)) rfl)⟩
theorem fl_X9_154 : FLk RX9 154 9 47 := ⟨by decide, (RX9, TX9, 70), rfl, by decide, Or.inl (AW_in (List.mem_of_getElem? (i := 963) (by decide +kernel)) rfl)⟩
theorem fl_X9_157 : FLk RX9 157 9 48 := ⟨by decide, (RX9, TX9, 70), rfl, by decide, Or.inl (AW_in (List.mem_of_getElem? (i := 964) (by decide +kernel)) rfl)⟩
theorem fl_X9_160 : FLk RX9 160 9 49 := ⟨by decide, (RX9, TX9, 70), rfl, by decide, Or.inl (AW_in (List.mem_of_getElem? (i := 965) (by decide +kernel)) rfl)⟩
theorem fl_X9_163 : FLk RX9 163 9 50 := ⟨by decide, (RX9, TX9, 70), rfl, by decide, Or.inl (AW_in (List.mem_of_getElem? (i := 966) (by decide +kernel)) rfl)⟩
theorem fl_X9_166 : FLk RX9 166 9 51 := ⟨by decide, (RX9, TX9, 70), rfl, by decide, Or.inl (AW_in (List.mem_of_getElem? (i := 967) (by decide +kernel)) rfl)⟩
theorem fl_X9_169 : FLk RX9 169 9 52 := ⟨by decide, (RX9, TX9, 70), rfl, by decide, Or.inl (AW_in (List.mem_of_getElem? (i := 968) (by decide +kernel)) rfl)⟩
theorem aw_135 : Cond.fieldLink RX9 169 RX9 "imageStrong" "[I" ∈ AW := AW_in (List.mem_of_getElem? (i := 968) (by decide +kernel)) rfl
theorem fl_X9_172 : FLk RX9 172 9 53 := ⟨by decide, (RX9, TX9, 70), rfl, by decide, Or.inl (AW_in (List.mem_of_getElem? (i := 969) (by decide +kernel)) rfl)⟩
theorem aw_136 : Cond.fieldLink RX9 172 RX9 "imageKind" "[I" ∈ AW := AW_in (List.mem_of_getElem? (i := 969) (by decide +kernel)) rfl
theorem fl_X9_175 : FLk RX9 175 9 54 := ⟨by decide, (RX9, TX9, 70), rfl, by decide, Or.inl (AW_in (List.mem_of_getElem? (i := 970) (by decide +kernel)) rfl)⟩
theorem aw_137 : Cond.fieldLink RX9 175 RX9 "imageV" "[I" ∈ AW := AW_in (List.mem_of_getElem? (i := 970) (by decide +kernel)) rfl
theorem fl_X9_178 : FLk RX9 178 9 55 := ⟨by decide, (RX9, TX9, 70), rfl, by decide, Or.inl (AW_in (List.mem_of_getElem? (i := 971) (by decide +kernel)) rfl)⟩
theorem aw_138 : Cond.fieldLink RX9 178 RX9 "imageWeight" "[I" ∈ AW := AW_in (List.mem_of_getElem? (i := 971) (by decide +kernel)) rfl
theorem fl_X9_181 : FLk RX9 181 9 56 := ⟨by decide, (RX9, TX9, 70), rfl, by decide, Or.inl (AW_in (List.mem_of_getElem? (i := 972) (by decide +kernel)) rfl)⟩
theorem aw_139 : Cond.fieldLink RX9 181 RX9 "imageLines" "[I" ∈ AW := AW_in (List.mem_of_getElem? (i := 972) (by decide +kernel)) rfl
theorem fl_X9_184 : FLk RX9 184 9 57 := ⟨by decide, (RX9, TX9, 70), rfl, by decide, Or.inl (AW_in (List.mem_of_getElem? (i := 973) (by decide +kernel)) rfl)⟩
theorem aw_140 : Cond.fieldLink RX9 184 RX9 "imageWho" "[I" ∈ AW := AW_in (List.mem_of_getElem? (i := 973) (by decide +kernel)) rfl
theorem fl_X9_187 : FLk RX9 187 9 58 := ⟨by decide, (RX9, TX9, 70), rfl, by decide, Or.inl (AW_in (List.mem_of_getElem? (i := 974) (by decide +kernel)) rfl)⟩
theorem aw_141 : Cond.fieldLink RX9 187 RX9 "imageWhen" "[I" ∈ AW := AW_in (List.mem_of_getElem? (i := 974) (by decide +kernel)) rfl
theorem fl_X9_190 : FLk RX9 190 9 59 := ⟨by decide, (RX9, TX9, 70), rfl, by decide, Or.inl (AW_in (List.mem_of_getElem? (i := 975) (by decide +kernel)) rfl)⟩
theorem aw_142 : Cond.fieldLink RX9 190 RX9 "imageWhat" "[I" ∈ AW := AW_in (List.mem_of_getElem? (i := 975) (by decide +kernel)) rfl
theorem fl_X9_193 : FLk RX9 193 9 60 := ⟨by decide, (RX9, TX9, 70), rfl, by decide, Or.inl (AW_in (List.mem_of_getElem? (i := 976) (by decide +kernel)) rfl)⟩
theorem aw_143 : Cond.fieldLink RX9 193 RX9 "imageCell" "[I" ∈ AW := AW_in (List.mem_of_getElem? (i := 976) (by decide +kernel)) rfl
theorem fl_X9_196 : FLk RX9 196 9 61 := ⟨by decide, (RX9, TX9, 70), rfl, by decide, Or.inl (AW_in (List.mem_of_getElem? (i := 977) (by decide +kernel)) rfl)⟩
theorem aw_144 : Cond.fieldLink RX9 196 RX9 "imageBookCell" "[I" ∈ AW := AW_in (List.mem_of_getElem? (i := 977) (by decide +kernel)) rfl
theorem fl_X9_199 : FLk RX9 199 9 62 := ⟨by decide, (RX9, TX9, 70), rfl, by decide, Or.inl (AW_in (List.mem_of_getElem? (i := 978) (by decide +kernel)) rfl)⟩
theorem aw_145 : Cond.fieldLink RX9 199 RX9 "imageBookStrong" "[I" ∈ AW := AW_in (List.mem_of_getElem? (i := 978) (by decide +kernel)) rfl
theorem fl_X9_202 : FLk RX9 202 9 63 := ⟨by decide, (RX9, TX9, 70), rfl, by decide, Or.inl (AW_in (List.mem_of_getElem? (i := 979) (by decide +kernel)) rfl)⟩
theorem aw_146 : Cond.fieldLink RX9 202 RX9 "imageCan" "[Z" ∈ AW := AW_in (List.mem_of_getElem? (i := 979) (by decide +kernel)) rfl
theorem fl_X9_205 : FLk RX9 205 9 64 := ⟨by decide, (RX9, TX9, 70), rfl, by decide, Or.inl (AW_in (List.mem_of_getElem? (i := 980) (by decide +kernel)) rfl)⟩
theorem fl_X9_208 : FLk RX9 208 9 65 := ⟨by decide, (RX9, TX9, 70), rfl, by decide, Or.inl (AW_in (List.mem_of_getElem? (i := 981) (by decide +kernel)) rfl)⟩
theorem aw_147 : Cond.fieldLink RX9 208 RX9 "bodies" "[I" ∈ AW := AW_in (List.mem_of_getElem? (i := 981) (by decide +kernel)) rfl
theorem fl_X9_211 : FLk RX9 211 9 66 := ⟨by decide, (RX9, TX9, 70), rfl, by decide, Or.inl (AW_in (List.mem_of_getElem? (i := 982) (by decide +kernel)) rfl)⟩
theorem aw_148 : Cond.fieldLink RX9 211 RX9 "sort" "[I" ∈ AW := AW_in (List.mem_of_getElem? (i := 982) (by decide +kernel)) rfl
theorem fl_X9_214 : FLk RX9 214 9 67 := ⟨by decide, (RX9, TX9, 70), rfl, by decide, Or.inl (AW_in (List.mem_of_getElem? (i := 983) (by decide +kernel)) rfl)⟩
theorem aw_149 : Cond.fieldLink RX9 214 RX9 "length" "[I" ∈ AW := AW_in (List.mem_of_getElem? (i := 983) (by decide +kernel)) rfl
theorem fl_X9_217 : FLk RX9 217 9 68 := ⟨by decide, (RX9, TX9, 70), rfl, by decide, Or.inl (AW_in (List.mem_of_getElem? (i := 984) (by decide +kernel)) rfl)⟩
theorem aw_150 : Cond.fieldLink RX9 217 RX9 "item" "[J" ∈ AW := AW_in (List.mem_of_getElem? (i := 984) (by decide +kernel)) rfl
theorem fl_X9_221 : FLk RX9 221 9 69 := ⟨by decide, (RX9, TX9, 70), rfl, by decide, Or.inl (AW_in (List.mem_of_getElem? (i := 985) (by decide +kernel)) rfl)⟩
theorem aw_151 : Cond.fieldLink RX9 221 RX9 "aside" "[J" ∈ AW := AW_in (List.mem_of_getElem? (i := 985) (by decide +kernel)) rfl
theorem lki_X9_in : LKI yX9_in cX9_in 4 (some .boolean) 3 := ⟨AW_in (List.mem_of_getElem? (i := 1134) (by decide +kernel)) rfl, AW_in (List.mem_of_getElem? (i := 119) (by decide +kernel)) rfl, ⟨by decide +kernel, by decide +kernel⟩, by decide +kernel⟩
theorem lkv_X9_in : LKV yX9_in := ⟨AW_in (List.mem_of_getElem? (i := 1133) (by decide +kernel)) rfl, AW_in (List.mem_of_getElem? (i := 42) (by decide +kernel)) rfl⟩
theorem lkc_X9_224 : LKC RX9 224 yX9_in := Or.inl (AW_in (List.mem_of_getElem? (i := 1131) (by decide +kernel)) rfl)
theorem lki_X9_isStrength : LKI yX9_isStrength cX9_isStrength 2 (some .boolean) 1 := ⟨AW_in (List.mem_of_getElem? (i := 1138) (by decide +kernel)) rfl, AW_in (List.mem_of_getElem? (i := 119) (by decide +kernel)) rfl, ⟨by decide +kernel, by decide +kernel⟩, by decide +kernel⟩
theorem lkv_X9_isStrength : LKV yX9_isStrength := ⟨AW_in (List.mem_of_getElem? (i := 1137) (by decide +kernel)) rfl, AW_in (List.mem_of_getElem? (i := 43) (by decide +kernel)) rfl⟩
theorem lkc_X9_228 : LKC RX9 228 yX9_isStrength := Or.inl (AW_in (List.mem_of_getElem? (i := 1135) (by decide +kernel)) rfl)
theorem lki_X9_isCell : LKI yX9_isCell cX9_isCell 2 (some .boolean) 1 := ⟨AW_in (List.mem_of_getElem? (i := 1146) (by decide +kernel)) rfl, AW_in (List.mem_of_getElem? (i := 119) (by decide +kernel)) rfl, ⟨by decide +kernel, by decide +kernel⟩, by decide +kernel⟩
theorem lkv_X9_isCell : LKV yX9_isCell := ⟨AW_in (List.mem_of_getElem? (i := 1145) (by decide +kernel)) rfl, AW_in (List.mem_of_getElem? (i := 44) (by decide +kernel)) rfl⟩
theorem lkc_X9_232 : LKC RX9 232 yX9_isCell := Or.inl (AW_in (List.mem_of_getElem? (i := 1143) (by decide +kernel)) rfl)
theorem lki_X9_isWalker : LKI yX9_isWalker cX9_isWalker 2 (some .boolean) 1 := ⟨AW_in (List.mem_of_getElem? (i := 1154) (by decide +kernel)) rfl, AW_in (List.mem_of_getElem? (i := 119) (by decide +kernel)) rfl, ⟨by decide +kernel, by decide +kernel⟩, by decide +kernel⟩
theorem lkv_X9_isWalker : LKV yX9_isWalker := ⟨AW_in (List.mem_of_getElem? (i := 1153) (by decide +kernel)) rfl, AW_in (List.mem_of_getElem? (i := 45) (by decide +kernel)) rfl⟩
theorem lkc_X9_235 : LKC RX9 235 yX9_isWalker := Or.inl (AW_in (List.mem_of_getElem? (i := 1151) (by decide +kernel)) rfl)
theorem lki_X9_apart : LKI yX9_apart cX9_apart 3 (some .int) 2 := ⟨AW_in (List.mem_of_getElem? (i := 1174) (by decide +kernel)) rfl, AW_in (List.mem_of_getElem? (i := 119) (by decide +kernel)) rfl, ⟨by decide +kernel, by decide +kernel⟩, by decide +kernel⟩
theorem lkv_X9_apart : LKV yX9_apart := ⟨AW_in (List.mem_of_getElem? (i := 1173) (by decide +kernel)) rfl, AW_in (List.mem_of_getElem? (i := 48) (by decide +kernel)) rfl⟩
theorem lkc_X9_238 : LKC RX9 238 yX9_apart := Or.inl (AW_in (List.mem_of_getElem? (i := 1171) (by decide +kernel)) rfl)
theorem lki_X9_far : LKI yX9_far cX9_far 3 (some .int) 2 := ⟨AW_in (List.mem_of_getElem? (i := 1170) (by decide +kernel)) rfl, AW_in (List.mem_of_getElem? (i := 119) (by decide +kernel)) rfl, ⟨by decide +kernel, by decide +kernel⟩, by decide +kernel⟩
theorem lkv_X9_far : LKV yX9_far := ⟨AW_in (List.mem_of_getElem? (i := 1169) (by decide +kernel)) rfl, AW_in (List.mem_of_getElem? (i := 47) (by decide +kernel)) rfl⟩
theorem lkc_X9_242 : LKC RX9 242 yX9_far := Or.inl (AW_in (List.mem_of_getElem? (i := 1167) (by decide +kernel)) rfl)
theorem lki_X9_isNext : LKI yX9_isNext cX9_isNext 3 (some .boolean) 2 := ⟨AW_in (List.mem_of_getElem? (i := 1166) (by decide +kernel)) rfl, AW_in (List.mem_of_getElem? (i := 119) (by decide +kernel)) rfl, ⟨by decide +kernel, by decide +kernel⟩, by decide +kernel⟩
theorem lkv_X9_isNext : LKV yX9_isNext := ⟨AW_in (List.mem_of_getElem? (i := 1165) (by decide +kernel)) rfl, AW_in (List.mem_of_getElem? (i := 46) (by decide +kernel)) rfl⟩
theorem lkc_X9_245 : LKC RX9 245 yX9_isNext := Or.inl (AW_in (List.mem_of_getElem? (i := 1163) (by decide +kernel)) rfl)
theorem lki_X9_stirs : LKI yX9_stirs cX9_stirs 4 none 2 := ⟨AW_in (List.mem_of_getElem? (i := 1178) (by decide +kernel)) rfl, AW_in (List.mem_of_getElem? (i := 119) (by decide +kernel)) rfl, ⟨by decide +kernel, by decide +kernel⟩, by decide +kernel⟩
theorem lkv_X9_stirs : LKV yX9_stirs := ⟨AW_in (List.mem_of_getElem? (i := 1177) (by decide +kernel)) rfl, AW_in (List.mem_of_getElem? (i := 49) (by decide +kernel)) rfl⟩
theorem lkc_X9_249 : LKC RX9 249 yX9_stirs := Or.inl (AW_in (List.mem_of_getElem? (i := 1175) (by decide +kernel)) rfl)
theorem lki_X9_next : LKI yX9_next cX9_next 1 (some .int) 0 := ⟨AW_in (List.mem_of_getElem? (i := 1202) (by decide +kernel)) rfl, AW_in (List.mem_of_getElem? (i := 119) (by decide +kernel)) rfl, ⟨by decide +kernel, by decide +kernel⟩, by decide +kernel⟩
theorem lkv_X9_next : LKV yX9_next := ⟨AW_in (List.mem_of_getElem? (i := 1201) (by decide +kernel)) rfl, AW_in (List.mem_of_getElem? (i := 53) (by decide +kernel)) rfl⟩
theorem lkc_X9_253 : LKC RX9 253 yX9_next := Or.inl (AW_in (List.mem_of_getElem? (i := 1199) (by decide +kernel)) rfl)
theorem lki_X9_takes : LKI yX9_takes cX9_takes 2 (some .boolean) 1 := ⟨AW_in (List.mem_of_getElem? (i := 1210) (by decide +kernel)) rfl, AW_in (List.mem_of_getElem? (i := 119) (by decide +kernel)) rfl, ⟨by decide +kernel, by decide +kernel⟩, by decide +kernel⟩
theorem lkv_X9_takes : LKV yX9_takes := ⟨AW_in (List.mem_of_getElem? (i := 1209) (by decide +kernel)) rfl, AW_in (List.mem_of_getElem? (i := 55) (by decide +kernel)) rfl⟩
theorem lkc_X9_257 : LKC RX9 257 yX9_takes := Or.inl (AW_in (List.mem_of_getElem? (i := 1207) (by decide +kernel)) rfl)
theorem lki_X9_isDigit : LKI yX9_isDigit cX9_isDigit 1 (some .boolean) 0 := ⟨AW_in (List.mem_of_getElem? (i := 1218) (by decide +kernel)) rfl, AW_in (List.mem_of_getElem? (i := 119) (by decide +kernel)) rfl, ⟨by decide +kernel, by decide +kernel⟩, by decide +kernel⟩
theorem lkv_X9_isDigit : LKV yX9_isDigit := ⟨AW_in (List.mem_of_getElem? (i := 1217) (by decide +kernel)) rfl, AW_in (List.mem_of_getElem? (i := 57) (by decide +kernel)) rfl⟩
theorem lkc_X9_260 : LKC RX9 260 yX9_isDigit := Or.inl (AW_in (List.mem_of_getElem? (i := 1215) (by decide +kernel)) rfl)
theorem lki_X9_emits : LKI yX9_emits cX9_emits 2 none 1 := ⟨AW_in (List.mem_of_getElem? (i := 1234) (by decide +kernel)) rfl, AW_in (List.mem_of_getElem? (i := 119) (by decide +kernel)) rfl, ⟨by decide +kernel, by decide +kernel⟩, by decide +kernel⟩
theorem lkv_X9_emits : LKV yX9_emits := ⟨AW_in (List.mem_of_getElem? (i := 1233) (by decide +kernel)) rfl, AW_in (List.mem_of_getElem? (i := 61) (by decide +kernel)) rfl⟩
theorem lkc_X9_264 : LKC RX9 264 yX9_emits := Or.inl (AW_in (List.mem_of_getElem? (i := 1231) (by decide +kernel)) rfl)
theorem lki_X9_place : LKI yX9_place cX9_place 2 (some .int) 1 := ⟨AW_in (List.mem_of_getElem? (i := 1230) (by decide +kernel)) rfl, AW_in (List.mem_of_getElem? (i := 119) (by decide +kernel)) rfl, ⟨by decide +kernel, by decide +kernel⟩, by decide +kernel⟩
theorem lkv_X9_place : LKV yX9_place := ⟨AW_in (List.mem_of_getElem? (i := 1229) (by decide +kernel)) rfl, AW_in (List.mem_of_getElem? (i := 60) (by decide +kernel)) rfl⟩
theorem lkc_X9_268 : LKC RX9 268 yX9_place := Or.inl (AW_in (List.mem_of_getElem? (i := 1227) (by decide +kernel)) rfl)
theorem lki_X9_takesNumber : LKI yX9_takesNumber cX9_takesNumber 2 (some .boolean) 0 := ⟨AW_in (List.mem_of_getElem? (i := 1214) (by decide +kernel)) rfl, AW_in (List.mem_of_getElem? (i := 119) (by decide +kernel)) rfl, ⟨by decide +kernel, by decide +kernel⟩, by decide +kernel⟩
theorem lkv_X9_takesNumber : LKV yX9_takesNumber := ⟨AW_in (List.mem_of_getElem? (i := 1213) (by decide +kernel)) rfl, AW_in (List.mem_of_getElem? (i := 56) (by decide +kernel)) rfl⟩
theorem lkc_X9_272 : LKC RX9 272 yX9_takesNumber := Or.inl (AW_in (List.mem_of_getElem? (i := 1211) (by decide +kernel)) rfl)
theorem lki_X9_whole : LKI yX9_whole cX9_whole 1 none 0 := ⟨AW_in (List.mem_of_getElem? (i := 1238) (by decide +kernel)) rfl, AW_in (List.mem_of_getElem? (i := 119) (by decide +kernel)) rfl, ⟨by decide +kernel, by decide +kernel⟩, by decide +kernel⟩
theorem lkv_X9_whole : LKV yX9_whole := ⟨AW_in (List.mem_of_getElem? (i := 1237) (by decide +kernel)) rfl, AW_in (List.mem_of_getElem? (i := 62) (by decide +kernel)) rfl⟩
theorem lkc_X9_275 : LKC RX9 275 yX9_whole := Or.inl (AW_in (List.mem_of_getElem? (i := 1235) (by decide +kernel)) rfl)
theorem lki_X9_settle : LKI yX9_settle cX9_settle 2 none 1 := ⟨AW_in (List.mem_of_getElem? (i := 1242) (by decide +kernel)) rfl, AW_in (List.mem_of_getElem? (i := 119) (by decide +kernel)) rfl, ⟨by decide +kernel, by decide +kernel⟩, by decide +kernel⟩
theorem lkv_X9_settle : LKV yX9_settle := ⟨AW_in (List.mem_of_getElem? (i := 1241) (by decide +kernel)) rfl, AW_in (List.mem_of_getElem? (i := 63) (by decide +kernel)) rfl⟩
theorem lkc_X9_281 : LKC RX9 281 yX9_settle := Or.inl (AW_in (List.mem_of_getElem? (i := 1239) (by decide +kernel)) rfl)
theorem lki_X9_takesTest : LKI yX9_takesTest cX9_takesTest 3 (some .boolean) 0 := ⟨AW_in (List.mem_of_getElem? (i := 1226) (by decide +kernel)) rfl, AW_in (List.mem_of_getElem? (i := 119) (by decide +kernel)) rfl, ⟨by decide +kernel, by decide +kernel⟩, by decide +kernel⟩
theorem lkv_X9_takesTest : LKV yX9_takesTest := ⟨AW_in (List.mem_of_getElem? (i := 1225) (by decide +kernel)) rfl, AW_in (List.mem_of_getElem? (i := 59) (by decide +kernel)) rfl⟩
theorem lkc_X9_278 : LKC RX9 278 yX9_takesTest := Or.inl (AW_in (List.mem_of_getElem? (i := 1223) (by decide +kernel)) rfl)
theorem lki_X9_takesWord : LKI yX9_takesWord cX9_takesWord 4 (some .boolean) 2 := ⟨AW_in (List.mem_of_getElem? (i := 1206) (by decide +kernel)) rfl, AW_in (List.mem_of_getElem? (i := 119) (by decide +kernel)) rfl, ⟨by decide +kernel, by decide +kernel⟩, by decide +kernel⟩
theorem lkv_X9_takesWord : LKV yX9_takesWord := ⟨AW_in (List.mem_of_getElem? (i := 1205) (by decide +kernel)) rfl, AW_in (List.mem_of_getElem? (i := 54) (by decide +kernel)) rfl⟩
theorem lkc_X9_284 : LKC RX9 284 yX9_takesWord := Or.inl (AW_in (List.mem_of_getElem? (i := 1203) (by decide +kernel)) rfl)
theorem lki_X9_takesHead : LKI yX9_takesHead cX9_takesHead 2 (some .boolean) 1 := ⟨AW_in (List.mem_of_getElem? (i := 1198) (by decide +kernel)) rfl, AW_in (List.mem_of_getElem? (i := 119) (by decide +kernel)) rfl, ⟨by decide +kernel, by decide +kernel⟩, by decide +kernel⟩
theorem lkv_X9_takesHead : LKV yX9_takesHead := ⟨AW_in (List.mem_of_getElem? (i := 1197) (by decide +kernel)) rfl, AW_in (List.mem_of_getElem? (i := 52) (by decide +kernel)) rfl⟩
theorem lkc_X9_287 : LKC RX9 287 yX9_takesHead := Or.inl (AW_in (List.mem_of_getElem? (i := 1195) (by decide +kernel)) rfl)
theorem lki_X9_takesE : LKI yX9_takesE cX9_takesE 4 (some .boolean) 1 := ⟨AW_in (List.mem_of_getElem? (i := 1222) (by decide +kernel)) rfl, AW_in (List.mem_of_getElem? (i := 119) (by decide +kernel)) rfl, ⟨by decide +kernel, by decide +kernel⟩, by decide +kernel⟩
theorem lkv_X9_takesE : LKV yX9_takesE := ⟨AW_in (List.mem_of_getElem? (i := 1221) (by decide +kernel)) rfl, AW_in (List.mem_of_getElem? (i := 58) (by decide +kernel)) rfl⟩
theorem lkc_X9_290 : LKC RX9 290 yX9_takesE := Or.inl (AW_in (List.mem_of_getElem? (i := 1219) (by decide +kernel)) rfl)
theorem lki_X9_takesClause : LKI yX9_takesClause cX9_takesClause 2 (some .boolean) 1 := ⟨AW_in (List.mem_of_getElem? (i := 1194) (by decide +kernel)) rfl, AW_in (List.mem_of_getElem? (i := 119) (by decide +kernel)) rfl, ⟨by decide +kernel, by decide +kernel⟩, by decide +kernel⟩
theorem lkv_X9_takesClause : LKV yX9_takesClause := ⟨AW_in (List.mem_of_getElem? (i := 1193) (by decide +kernel)) rfl, AW_in (List.mem_of_getElem? (i := 51) (by decide +kernel)) rfl⟩
theorem lkc_X9_293 : LKC RX9 293 yX9_takesClause := Or.inl (AW_in (List.mem_of_getElem? (i := 1191) (by decide +kernel)) rfl)
theorem lki_X9_goesText : LKI yX9_goesText cX9_goesText 3 (some .boolean) 1 := ⟨AW_in (List.mem_of_getElem? (i := 1190) (by decide +kernel)) rfl, AW_in (List.mem_of_getElem? (i := 119) (by decide +kernel)) rfl, ⟨by decide +kernel, by decide +kernel⟩, by decide +kernel⟩
theorem lkv_X9_goesText : LKV yX9_goesText := ⟨AW_in (List.mem_of_getElem? (i := 1189) (by decide +kernel)) rfl, AW_in (List.mem_of_getElem? (i := 50) (by decide +kernel)) rfl⟩
theorem lkc_X9_296 : LKC RX9 296 yX9_goesText := Or.inl (AW_in (List.mem_of_getElem? (i := 1187) (by decide +kernel)) rfl)
theorem lki_X9_begin : LKI yX9_begin cX9_begin 1 (some .int) 0 := ⟨AW_in (List.mem_of_getElem? (i := 1282) (by decide +kernel)) rfl, AW_in (List.mem_of_getElem? (i := 119) (by decide +kernel)) rfl, ⟨by decide +kernel, by decide +kernel⟩, by decide +kernel⟩
theorem lkv_X9_begin : LKV yX9_begin := ⟨AW_in (List.mem_of_getElem? (i := 1281) (by decide +kernel)) rfl, AW_in (List.mem_of_getElem? (i := 72) (by decide +kernel)) rfl⟩
theorem lkc_X9_299 : LKC RX9 299 yX9_begin := Or.inl (AW_in (List.mem_of_getElem? (i := 1279) (by decide +kernel)) rfl)
theorem lki_X9_behind : LKI yX9_behind cX9_behind 1 (some .int) 0 := ⟨AW_in (List.mem_of_getElem? (i := 1286) (by decide +kernel)) rfl, AW_in (List.mem_of_getElem? (i := 119) (by decide +kernel)) rfl, ⟨by decide +kernel, by decide +kernel⟩, by decide +kernel⟩
theorem lkv_X9_behind : LKV yX9_behind := ⟨AW_in (List.mem_of_getElem? (i := 1285) (by decide +kernel)) rfl, AW_in (List.mem_of_getElem? (i := 73) (by decide +kernel)) rfl⟩
theorem lkc_X9_302 : LKC RX9 302 yX9_behind := Or.inl (AW_in (List.mem_of_getElem? (i := 1283) (by decide +kernel)) rfl)
theorem lki_X9_lastOf : LKI yX9_lastOf cX9_lastOf 5 (some .int) 2 := ⟨AW_in (List.mem_of_getElem? (i := 1278) (by decide +kernel)) rfl, AW_in (List.mem_of_getElem? (i := 119) (by decide +kernel)) rfl, ⟨by decide +kernel, by decide +kernel⟩, by decide +kernel⟩
theorem lkv_X9_lastOf : LKV yX9_lastOf := ⟨AW_in (List.mem_of_getElem? (i := 1277) (by decide +kernel)) rfl, AW_in (List.mem_of_getElem? (i := 71) (by decide +kernel)) rfl⟩
theorem lkc_X9_305 : LKC RX9 305 yX9_lastOf := Or.inl (AW_in (List.mem_of_getElem? (i := 1275) (by decide +kernel)) rfl)
theorem lki_X9_least0 : LKI yX9_least0 cX9_least0 2 (some .int) 1 := ⟨AW_in (List.mem_of_getElem? (i := 1254) (by decide +kernel)) rfl, AW_in (List.mem_of_getElem? (i := 119) (by decide +kernel)) rfl, ⟨by decide +kernel, by decide +kernel⟩, by decide +kernel⟩
theorem lkv_X9_least0 : LKV yX9_least0 := ⟨AW_in (List.mem_of_getElem? (i := 1253) (by decide +kernel)) rfl, AW_in (List.mem_of_getElem? (i := 65) (by decide +kernel)) rfl⟩
theorem lkc_X9_308 : LKC RX9 308 yX9_least0 := Or.inl (AW_in (List.mem_of_getElem? (i := 1251) (by decide +kernel)) rfl)
theorem lki_X9_factOf : LKI yX9_factOf cX9_factOf 3 (some .int) 2 := ⟨AW_in (List.mem_of_getElem? (i := 1310) (by decide +kernel)) rfl, AW_in (List.mem_of_getElem? (i := 119) (by decide +kernel)) rfl, ⟨by decide +kernel, by decide +kernel⟩, by decide +kernel⟩
theorem lkv_X9_factOf : LKV yX9_factOf := ⟨AW_in (List.mem_of_getElem? (i := 1309) (by decide +kernel)) rfl, AW_in (List.mem_of_getElem? (i := 78) (by decide +kernel)) rfl⟩
theorem lkc_X9_311 : LKC RX9 311 yX9_factOf := Or.inl (AW_in (List.mem_of_getElem? (i := 1307) (by decide +kernel)) rfl)
theorem lki_X9_holds : LKI yX9_holds cX9_holds 8 (some .boolean) 2 := ⟨AW_in (List.mem_of_getElem? (i := 1306) (by decide +kernel)) rfl, AW_in (List.mem_of_getElem? (i := 119) (by decide +kernel)) rfl, ⟨by decide +kernel, by decide +kernel⟩, by decide +kernel⟩
theorem lkv_X9_holds : LKV yX9_holds := ⟨AW_in (List.mem_of_getElem? (i := 1305) (by decide +kernel)) rfl, AW_in (List.mem_of_getElem? (i := 77) (by decide +kernel)) rfl⟩
theorem lkc_X9_314 : LKC RX9 314 yX9_holds := Or.inl (AW_in (List.mem_of_getElem? (i := 1303) (by decide +kernel)) rfl)
theorem lki_X9_spoon : LKI yX9_spoon cX9_spoon 2 (some .int) 0 := ⟨AW_in (List.mem_of_getElem? (i := 1274) (by decide +kernel)) rfl, AW_in (List.mem_of_getElem? (i := 119) (by decide +kernel)) rfl, ⟨by decide +kernel, by decide +kernel⟩, by decide +kernel⟩
theorem lkv_X9_spoon : LKV yX9_spoon := ⟨AW_in (List.mem_of_getElem? (i := 1273) (by decide +kernel)) rfl, AW_in (List.mem_of_getElem? (i := 70) (by decide +kernel)) rfl⟩
theorem lkc_X9_317 : LKC RX9 317 yX9_spoon := Or.inl (AW_in (List.mem_of_getElem? (i := 1271) (by decide +kernel)) rfl)
theorem lki_X9_has : LKI yX9_has cX9_has 3 (some .boolean) 2 := ⟨AW_in (List.mem_of_getElem? (i := 1290) (by decide +kernel)) rfl, AW_in (List.mem_of_getElem? (i := 119) (by decide +kernel)) rfl, ⟨by decide +kernel, by decide +kernel⟩, by decide +kernel⟩
theorem lkv_X9_has : LKV yX9_has := ⟨AW_in (List.mem_of_getElem? (i := 1289) (by decide +kernel)) rfl, AW_in (List.mem_of_getElem? (i := 74) (by decide +kernel)) rfl⟩
theorem lkc_X9_320 : LKC RX9 320 yX9_has := Or.inl (AW_in (List.mem_of_getElem? (i := 1287) (by decide +kernel)) rfl)
theorem lki_X9_needs : LKI yX9_needs cX9_needs 4 (some .int) 2 := ⟨AW_in (List.mem_of_getElem? (i := 1250) (by decide +kernel)) rfl, AW_in (List.mem_of_getElem? (i := 119) (by decide +kernel)) rfl, ⟨by decide +kernel, by decide +kernel⟩, by decide +kernel⟩
theorem lkv_X9_needs : LKV yX9_needs := ⟨AW_in (List.mem_of_getElem? (i := 1249) (by decide +kernel)) rfl, AW_in (List.mem_of_getElem? (i := 64) (by decide +kernel)) rfl⟩
theorem lkc_X9_323 : LKC RX9 323 yX9_needs := Or.inl (AW_in (List.mem_of_getElem? (i := 1247) (by decide +kernel)) rfl)
theorem lki_X9_bears : LKI yX9_bears cX9_bears 3 (some .boolean) 2 := ⟨AW_in (List.mem_of_getElem? (i := 1270) (by decide +kernel)) rfl, AW_in (List.mem_of_getElem? (i := 119) (by decide +kernel)) rfl, ⟨by decide +kernel, by decide +kernel⟩, by decide +kernel⟩
theorem lkv_X9_bears : LKV yX9_bears := ⟨AW_in (List.mem_of_getElem? (i := 1269) (by decide +kernel)) rfl, AW_in (List.mem_of_getElem? (i := 69) (by decide +kernel)) rfl⟩
theorem lkc_X9_326 : LKC RX9 326 yX9_bears := Or.inl (AW_in (List.mem_of_getElem? (i := 1267) (by decide +kernel)) rfl)
theorem lki_X9_isStep : LKI yX9_isStep cX9_isStep 5 (some .boolean) 3 := ⟨AW_in (List.mem_of_getElem? (i := 1294) (by decide +kernel)) rfl, AW_in (List.mem_of_getElem? (i := 119) (by decide +kernel)) rfl, ⟨by decide +kernel, by decide +kernel⟩, by decide +kernel⟩
theorem lkv_X9_isStep : LKV yX9_isStep := ⟨AW_in (List.mem_of_getElem? (i := 1293) (by decide +kernel)) rfl, AW_in (List.mem_of_getElem? (i := 75) (by decide +kernel)) rfl⟩
theorem lkc_X9_329 : LKC RX9 329 yX9_isStep := Or.inl (AW_in (List.mem_of_getElem? (i := 1291) (by decide +kernel)) rfl)
theorem aw_152 : Cond.constant RX9 332 34952 ∈ AW := AW_in (List.mem_of_getElem? (i := 1388) (by decide +kernel)) rfl
theorem lki_X9_nearSide : LKI yX9_nearSide cX9_nearSide 1 (some .int) 0 := ⟨AW_in (List.mem_of_getElem? (i := 1262) (by decide +kernel)) rfl, AW_in (List.mem_of_getElem? (i := 119) (by decide +kernel)) rfl, ⟨by decide +kernel, by decide +kernel⟩, by decide +kernel⟩
theorem lkv_X9_nearSide : LKV yX9_nearSide := ⟨AW_in (List.mem_of_getElem? (i := 1261) (by decide +kernel)) rfl, AW_in (List.mem_of_getElem? (i := 67) (by decide +kernel)) rfl⟩
theorem lkc_X9_333 : LKC RX9 333 yX9_nearSide := Or.inl (AW_in (List.mem_of_getElem? (i := 1259) (by decide +kernel)) rfl)
theorem lki_X9_layFar : LKI yX9_layFar cX9_layFar 7 none 2 := ⟨AW_in (List.mem_of_getElem? (i := 1266) (by decide +kernel)) rfl, AW_in (List.mem_of_getElem? (i := 119) (by decide +kernel)) rfl, ⟨by decide +kernel, by decide +kernel⟩, by decide +kernel⟩
theorem lkv_X9_layFar : LKV yX9_layFar := ⟨AW_in (List.mem_of_getElem? (i := 1265) (by decide +kernel)) rfl, AW_in (List.mem_of_getElem? (i := 68) (by decide +kernel)) rfl⟩
theorem lkc_X9_336 : LKC RX9 336 yX9_layFar := Or.inl (AW_in (List.mem_of_getElem? (i := 1263) (by decide +kernel)) rfl)
theorem lki_X9_cross : LKI yX9_cross cX9_cross 4 (some .int) 1 := ⟨AW_in (List.mem_of_getElem? (i := 1258) (by decide +kernel)) rfl, AW_in (List.mem_of_getElem? (i := 119) (by decide +kernel)) rfl, ⟨by decide +kernel, by decide +kernel⟩, by decide +kernel⟩
theorem lkv_X9_cross : LKV yX9_cross := ⟨AW_in (List.mem_of_getElem? (i := 1257) (by decide +kernel)) rfl, AW_in (List.mem_of_getElem? (i := 66) (by decide +kernel)) rfl⟩
theorem lkc_X9_339 : LKC RX9 339 yX9_cross := Or.inl (AW_in (List.mem_of_getElem? (i := 1255) (by decide +kernel)) rfl)
theorem lki_X9_canCross : LKI yX9_canCross cX9_canCross 2 (some .boolean) 1 := ⟨AW_in (List.mem_of_getElem? (i := 1330) (by decide +kernel)) rfl, AW_in (List.mem_of_getElem? (i := 119) (by decide +kernel)) rfl, ⟨by decide +kernel, by decide +kernel⟩, by decide +kernel⟩
theorem lkv_X9_canCross : LKV yX9_canCross := ⟨AW_in (List.mem_of_getElem? (i := 1329) (by decide +kernel)) rfl, AW_in (List.mem_of_getElem? (i := 81) (by decide +kernel)) rfl⟩
theorem lkc_X9_342 : LKC RX9 342 yX9_canCross := Or.inl (AW_in (List.mem_of_getElem? (i := 1327) (by decide +kernel)) rfl)
theorem lki_X9_grows : LKI yX9_grows cX9_grows 4 (some .int) 1 := ⟨AW_in (List.mem_of_getElem? (i := 1302) (by decide +kernel)) rfl, AW_in (List.mem_of_getElem? (i := 119) (by decide +kernel)) rfl, ⟨by decide +kernel, by decide +kernel⟩, by decide +kernel⟩
theorem lkv_X9_grows : LKV yX9_grows := ⟨AW_in (List.mem_of_getElem? (i := 1301) (by decide +kernel)) rfl, AW_in (List.mem_of_getElem? (i := 76) (by decide +kernel)) rfl⟩
theorem lkc_X9_345 : LKC RX9 345 yX9_grows := Or.inl (AW_in (List.mem_of_getElem? (i := 1299) (by decide +kernel)) rfl)
theorem lki_X9_milkOf : LKI yX9_milkOf cX9_milkOf 2 (some .int) 1 := ⟨AW_in (List.mem_of_getElem? (i := 1318) (by decide +kernel)) rfl, AW_in (List.mem_of_getElem? (i := 119) (by decide +kernel)) rfl, ⟨by decide +kernel, by decide +kernel⟩, by decide +kernel⟩
theorem lkv_X9_milkOf : LKV yX9_milkOf := ⟨AW_in (List.mem_of_getElem? (i := 1317) (by decide +kernel)) rfl, AW_in (List.mem_of_getElem? (i := 79) (by decide +kernel)) rfl⟩
theorem lkc_X9_348 : LKC RX9 348 yX9_milkOf := Or.inl (AW_in (List.mem_of_getElem? (i := 1315) (by decide +kernel)) rfl)
theorem lki_X9_crossers : LKI yX9_crossers cX9_crossers 3 (some .int) 0 := ⟨AW_in (List.mem_of_getElem? (i := 1326) (by decide +kernel)) rfl, AW_in (List.mem_of_getElem? (i := 119) (by decide +kernel)) rfl, ⟨by decide +kernel, by decide +kernel⟩, by decide +kernel⟩
theorem lkv_X9_crossers : LKV yX9_crossers := ⟨AW_in (List.mem_of_getElem? (i := 1325) (by decide +kernel)) rfl, AW_in (List.mem_of_getElem? (i := 80) (by decide +kernel)) rfl⟩
theorem lkc_X9_351 : LKC RX9 351 yX9_crossers := Or.inl (AW_in (List.mem_of_getElem? (i := 1323) (by decide +kernel)) rfl)
theorem lki_X9_allStrong : LKI yX9_allStrong cX9_allStrong 3 (some .int) 0 := ⟨AW_in (List.mem_of_getElem? (i := 1334) (by decide +kernel)) rfl, AW_in (List.mem_of_getElem? (i := 119) (by decide +kernel)) rfl, ⟨by decide +kernel, by decide +kernel⟩, by decide +kernel⟩
theorem lkv_X9_allStrong : LKV yX9_allStrong := ⟨AW_in (List.mem_of_getElem? (i := 1333) (by decide +kernel)) rfl, AW_in (List.mem_of_getElem? (i := 82) (by decide +kernel)) rfl⟩
theorem lkc_X9_354 : LKC RX9 354 yX9_allStrong := Or.inl (AW_in (List.mem_of_getElem? (i := 1331) (by decide +kernel)) rfl)
theorem lki_X9_whose : LKI yX9_whose cX9_whose 5 (some .int) 0 := ⟨AW_in (List.mem_of_getElem? (i := 1338) (by decide +kernel)) rfl, AW_in (List.mem_of_getElem? (i := 119) (by decide +kernel)) rfl, ⟨by decide +kernel, by decide +kernel⟩, by decide +kernel⟩
theorem lkv_X9_whose : LKV yX9_whose := ⟨AW_in (List.mem_of_getElem? (i := 1337) (by decide +kernel)) rfl, AW_in (List.mem_of_getElem? (i := 83) (by decide +kernel)) rfl⟩
theorem lkc_X9_357 : LKC RX9 357 yX9_whose := Or.inl (AW_in (List.mem_of_getElem? (i := 1335) (by decide +kernel)) rfl)
theorem aw_153 : Cond.constant RX9 360 65535 ∈ AW := AW_in (List.mem_of_getElem? (i := 1343) (by decide +kernel)) rfl
theorem lki_X9_goCell : LKI yX9_goCell cX9_goCell 3 none 1 := ⟨AW_in (List.mem_of_getElem? (i := 1363) (by decide +kernel)) rfl, AW_in (List.mem_of_getElem? (i := 119) (by decide +kernel)) rfl, ⟨by decide +kernel, by decide +kernel⟩, by decide +kernel⟩
theorem lkv_X9_goCell : LKV yX9_goCell := ⟨AW_in (List.mem_of_getElem? (i := 1362) (by decide +kernel)) rfl, AW_in (List.mem_of_getElem? (i := 87) (by decide +kernel)) rfl⟩
theorem lkc_X9_361 : LKC RX9 361 yX9_goCell := Or.inl (AW_in (List.mem_of_getElem? (i := 1360) (by decide +kernel)) rfl)
theorem lki_X9_goMinute : LKI yX9_goMinute cX9_goMinute 2 none 0 := ⟨AW_in (List.mem_of_getElem? (i := 1359) (by decide +kernel)) rfl, AW_in (List.mem_of_getElem? (i := 119) (by decide +kernel)) rfl, ⟨by decide +kernel, by decide +kernel⟩, by decide +kernel⟩
theorem lkv_X9_goMinute : LKV yX9_goMinute := ⟨AW_in (List.mem_of_getElem? (i := 1358) (by decide +kernel)) rfl, AW_in (List.mem_of_getElem? (i := 86) (by decide +kernel)) rfl⟩
theorem lkc_X9_364 : LKC RX9 364 yX9_goMinute := Or.inl (AW_in (List.mem_of_getElem? (i := 1356) (by decide +kernel)) rfl)
theorem lki_X9_isMinutes : LKI yX9_isMinutes cX9_isMinutes 2 (some .boolean) 1 := ⟨AW_in (List.mem_of_getElem? (i := 1351) (by decide +kernel)) rfl, AW_in (List.mem_of_getElem? (i := 119) (by decide +kernel)) rfl, ⟨by decide +kernel, by decide +kernel⟩, by decide +kernel⟩
theorem lkv_X9_isMinutes : LKV yX9_isMinutes := ⟨AW_in (List.mem_of_getElem? (i := 1350) (by decide +kernel)) rfl, AW_in (List.mem_of_getElem? (i := 84) (by decide +kernel)) rfl⟩
theorem lkc_X9_367 : LKC RX9 367 yX9_isMinutes := Or.inl (AW_in (List.mem_of_getElem? (i := 1348) (by decide +kernel)) rfl)
theorem lki_X9_goMinutes : LKI yX9_goMinutes cX9_goMinutes 3 none 1 := ⟨AW_in (List.mem_of_getElem? (i := 1355) (by decide +kernel)) rfl, AW_in (List.mem_of_getElem? (i := 119) (by decide +kernel)) rfl, ⟨by decide +kernel, by decide +kernel⟩, by decide +kernel⟩
theorem lkv_X9_goMinutes : LKV yX9_goMinutes := ⟨AW_in (List.mem_of_getElem? (i := 1354) (by decide +kernel)) rfl, AW_in (List.mem_of_getElem? (i := 85) (by decide +kernel)) rfl⟩
theorem lkc_X9_370 : LKC RX9 370 yX9_goMinutes := Or.inl (AW_in (List.mem_of_getElem? (i := 1352) (by decide +kernel)) rfl)
theorem lki_X9_save : LKI yX9_save cX9_save 2 none 0 := ⟨AW_in (List.mem_of_getElem? (i := 1371) (by decide +kernel)) rfl, AW_in (List.mem_of_getElem? (i := 119) (by decide +kernel)) rfl, ⟨by decide +kernel, by decide +kernel⟩, by decide +kernel⟩
theorem lkv_X9_save : LKV yX9_save := ⟨AW_in (List.mem_of_getElem? (i := 1370) (by decide +kernel)) rfl, AW_in (List.mem_of_getElem? (i := 88) (by decide +kernel)) rfl⟩
theorem lkc_X9_373 : LKC RX9 373 yX9_save := Or.inl (AW_in (List.mem_of_getElem? (i := 1368) (by decide +kernel)) rfl)
theorem lki_X9_putBack : LKI yX9_putBack cX9_putBack 2 none 0 := ⟨AW_in (List.mem_of_getElem? (i := 1375) (by decide +kernel)) rfl, AW_in (List.mem_of_getElem? (i := 119) (by decide +kernel)) rfl, ⟨by decide +kernel, by decide +kernel⟩, by decide +kernel⟩
theorem lkv_X9_putBack : LKV yX9_putBack := ⟨AW_in (List.mem_of_getElem? (i := 1374) (by decide +kernel)) rfl, AW_in (List.mem_of_getElem? (i := 89) (by decide +kernel)) rfl⟩
theorem lkc_X9_376 : LKC RX9 376 yX9_putBack := Or.inl (AW_in (List.mem_of_getElem? (i := 1372) (by decide +kernel)) rfl)
theorem lki_X9_farSide : LKI yX9_farSide cX9_farSide 1 (some .int) 0 := ⟨AW_in (List.mem_of_getElem? (i := 1387) (by decide +kernel)) rfl, AW_in (List.mem_of_getElem? (i := 119) (by decide +kernel)) rfl, ⟨by decide +kernel, by decide +kernel⟩, by decide +kernel⟩
theorem lkv_X9_farSide : LKV yX9_farSide := ⟨AW_in (List.mem_of_getElem? (i := 1386) (by decide +kernel)) rfl, AW_in (List.mem_of_getElem? (i := 90) (by decide +kernel)) rfl⟩
theorem lkc_X9_379 : LKC RX9 379 yX9_farSide := Or.inl (AW_in (List.mem_of_getElem? (i := 1384) (by decide +kernel)) rfl)
theorem lki_X9_isCutBy : LKI yX9_isCutBy cX9_isCutBy 4 (some .boolean) 2 := ⟨AW_in (List.mem_of_getElem? (i := 1408) (by decide +kernel)) rfl, AW_in (List.mem_of_getElem? (i := 119) (by decide +kernel)) rfl, ⟨by decide +kernel, by decide +kernel⟩, by decide +kernel⟩
theorem lkv_X9_isCutBy : LKV yX9_isCutBy := ⟨AW_in (List.mem_of_getElem? (i := 1407) (by decide +kernel)) rfl, AW_in (List.mem_of_getElem? (i := 92) (by decide +kernel)) rfl⟩
theorem lkc_X9_382 : LKC RX9 382 yX9_isCutBy := Or.inl (AW_in (List.mem_of_getElem? (i := 1405) (by decide +kernel)) rfl)
theorem lki_X9_leastCut : LKI yX9_leastCut cX9_leastCut 8 (some .int) 2 := ⟨AW_in (List.mem_of_getElem? (i := 1404) (by decide +kernel)) rfl, AW_in (List.mem_of_getElem? (i := 119) (by decide +kernel)) rfl, ⟨by decide +kernel, by decide +kernel⟩, by decide +kernel⟩
theorem lkv_X9_leastCut : LKV yX9_leastCut := ⟨AW_in (List.mem_of_getElem? (i := 1403) (by decide +kernel)) rfl, AW_in (List.mem_of_getElem? (i := 91) (by decide +kernel)) rfl⟩
theorem lkc_X9_385 : LKC RX9 385 yX9_leastCut := Or.inl (AW_in (List.mem_of_getElem? (i := 1401) (by decide +kernel)) rfl)
theorem lki_X9_layThen : LKI yX9_layThen cX9_layThen 3 none 0 := ⟨AW_in (List.mem_of_getElem? (i := 1428) (by decide +kernel)) rfl, AW_in (List.mem_of_getElem? (i := 119) (by decide +kernel)) rfl, ⟨by decide +kernel, by decide +kernel⟩, by decide +kernel⟩
theorem lkv_X9_layThen : LKV yX9_layThen := ⟨AW_in (List.mem_of_getElem? (i := 1427) (by decide +kernel)) rfl, AW_in (List.mem_of_getElem? (i := 93) (by decide +kernel)) rfl⟩
theorem lkc_X9_388 : LKC RX9 388 yX9_layThen := Or.inl (AW_in (List.mem_of_getElem? (i := 1425) (by decide +kernel)) rfl)
theorem lki_X9_isSeen : LKI yX9_isSeen cX9_isSeen 4 (some .boolean) 0 := ⟨AW_in (List.mem_of_getElem? (i := 1432) (by decide +kernel)) rfl, AW_in (List.mem_of_getElem? (i := 119) (by decide +kernel)) rfl, ⟨by decide +kernel, by decide +kernel⟩, by decide +kernel⟩
theorem lkv_X9_isSeen : LKV yX9_isSeen := ⟨AW_in (List.mem_of_getElem? (i := 1431) (by decide +kernel)) rfl, AW_in (List.mem_of_getElem? (i := 94) (by decide +kernel)) rfl⟩
theorem lkc_X9_391 : LKC RX9 391 yX9_isSeen := Or.inl (AW_in (List.mem_of_getElem? (i := 1429) (by decide +kernel)) rfl)
theorem lki_X9_strongThen : LKI yX9_strongThen cX9_strongThen 5 (some .int) 3 := ⟨AW_in (List.mem_of_getElem? (i := 1444) (by decide +kernel)) rfl, AW_in (List.mem_of_getElem? (i := 119) (by decide +kernel)) rfl, ⟨by decide +kernel, by decide +kernel⟩, by decide +kernel⟩
theorem lkv_X9_strongThen : LKV yX9_strongThen := ⟨AW_in (List.mem_of_getElem? (i := 1443) (by decide +kernel)) rfl, AW_in (List.mem_of_getElem? (i := 95) (by decide +kernel)) rfl⟩
theorem lkc_X9_394 : LKC RX9 394 yX9_strongThen := Or.inl (AW_in (List.mem_of_getElem? (i := 1441) (by decide +kernel)) rfl)
theorem lki_X9_divisor : LKI yX9_divisor cX9_divisor 6 (some .int) 2 := ⟨AW_in (List.mem_of_getElem? (i := 1457) (by decide +kernel)) rfl, AW_in (List.mem_of_getElem? (i := 119) (by decide +kernel)) rfl, ⟨by decide +kernel, by decide +kernel⟩, by decide +kernel⟩
theorem lkv_X9_divisor : LKV yX9_divisor := ⟨AW_in (List.mem_of_getElem? (i := 1456) (by decide +kernel)) rfl, AW_in (List.mem_of_getElem? (i := 97) (by decide +kernel)) rfl⟩
theorem lkc_X9_398 : LKC RX9 398 yX9_divisor := Or.inl (AW_in (List.mem_of_getElem? (i := 1454) (by decide +kernel)) rfl)
theorem aw_154 : Cond.constantLong RX9 401 (-9223372036854775808) ∈ AW := AW_in (List.mem_of_getElem? (i := 1449) (by decide +kernel)) rfl
theorem lki_X9_lowest : LKI yX9_lowest cX9_lowest 5 (some .long) 3 := ⟨AW_in (List.mem_of_getElem? (i := 1453) (by decide +kernel)) rfl, AW_in (List.mem_of_getElem? (i := 119) (by decide +kernel)) rfl, ⟨by decide +kernel, by decide +kernel⟩, by decide +kernel⟩
theorem lkv_X9_lowest : LKV yX9_lowest := ⟨AW_in (List.mem_of_getElem? (i := 1452) (by decide +kernel)) rfl, AW_in (List.mem_of_getElem? (i := 96) (by decide +kernel)) rfl⟩
theorem lkc_X9_403 : LKC RX9 403 yX9_lowest := Or.inl (AW_in (List.mem_of_getElem? (i := 1450) (by decide +kernel)) rfl)
theorem lki_X9_goAfternoon : LKI yX9_goAfternoon cX9_goAfternoon 3 none 2 := ⟨AW_in (List.mem_of_getElem? (i := 1473) (by decide +kernel)) rfl, AW_in (List.mem_of_getElem? (i := 119) (by decide +kernel)) rfl, ⟨by decide +kernel, by decide +kernel⟩, by decide +kernel⟩
theorem lkv_X9_goAfternoon : LKV yX9_goAfternoon := ⟨AW_in (List.mem_of_getElem? (i := 1472) (by decide +kernel)) rfl, AW_in (List.mem_of_getElem? (i := 98) (by decide +kernel)) rfl⟩
theorem lkc_X9_407 : LKC RX9 407 yX9_goAfternoon := Or.inl (AW_in (List.mem_of_getElem? (i := 1470) (by decide +kernel)) rfl)
theorem lki_X9_isTape : LKI yX9_isTape cX9_isTape 2 (some .boolean) 1 := ⟨AW_in (List.mem_of_getElem? (i := 1489) (by decide +kernel)) rfl, AW_in (List.mem_of_getElem? (i := 119) (by decide +kernel)) rfl, ⟨by decide +kernel, by decide +kernel⟩, by decide +kernel⟩
theorem lkv_X9_isTape : LKV yX9_isTape := ⟨AW_in (List.mem_of_getElem? (i := 1488) (by decide +kernel)) rfl, AW_in (List.mem_of_getElem? (i := 99) (by decide +kernel)) rfl⟩
theorem lkc_X9_410 : LKC RX9 410 yX9_isTape := Or.inl (AW_in (List.mem_of_getElem? (i := 1486) (by decide +kernel)) rfl)
theorem lki_X9_body : LKI yX9_body cX9_body 2 none 1 := ⟨AW_in (List.mem_of_getElem? (i := 1509) (by decide +kernel)) rfl, AW_in (List.mem_of_getElem? (i := 119) (by decide +kernel)) rfl, ⟨by decide +kernel, by decide +kernel⟩, by decide +kernel⟩
theorem lkv_X9_body : LKV yX9_body := ⟨AW_in (List.mem_of_getElem? (i := 1508) (by decide +kernel)) rfl, AW_in (List.mem_of_getElem? (i := 101) (by decide +kernel)) rfl⟩
theorem lkc_X9_413 : LKC RX9 413 yX9_body := Or.inl (AW_in (List.mem_of_getElem? (i := 1506) (by decide +kernel)) rfl)
theorem lki_X9_walkerWalks : LKI yX9_walkerWalks cX9_walkerWalks 3 (some .int) 2 := ⟨AW_in (List.mem_of_getElem? (i := 1513) (by decide +kernel)) rfl, AW_in (List.mem_of_getElem? (i := 119) (by decide +kernel)) rfl, ⟨by decide +kernel, by decide +kernel⟩, by decide +kernel⟩
theorem lkv_X9_walkerWalks : LKV yX9_walkerWalks := ⟨AW_in (List.mem_of_getElem? (i := 1512) (by decide +kernel)) rfl, AW_in (List.mem_of_getElem? (i := 102) (by decide +kernel)) rfl⟩
theorem lkc_X9_416 : LKC RX9 416 yX9_walkerWalks := Or.inl (AW_in (List.mem_of_getElem? (i := 1510) (by decide +kernel)) rfl)
theorem lki_X9_walksAct : LKI yX9_walksAct cX9_walksAct 3 (some .int) 2 := ⟨AW_in (List.mem_of_getElem? (i := 1505) (by decide +kernel)) rfl, AW_in (List.mem_of_getElem? (i := 119) (by decide +kernel)) rfl, ⟨by decide +kernel, by decide +kernel⟩, by decide +kernel⟩
theorem lkv_X9_walksAct : LKV yX9_walksAct := ⟨AW_in (List.mem_of_getElem? (i := 1504) (by decide +kernel)) rfl, AW_in (List.mem_of_getElem? (i := 100) (by decide +kernel)) rfl⟩
theorem lkc_X9_419 : LKC RX9 419 yX9_walksAct := Or.inl (AW_in (List.mem_of_getElem? (i := 1502) (by decide +kernel)) rfl)
theorem lki_X9_walkerSinks : LKI yX9_walkerSinks cX9_walkerSinks 3 (some .int) 2 := ⟨AW_in (List.mem_of_getElem? (i := 1525) (by decide +kernel)) rfl, AW_in (List.mem_of_getElem? (i := 119) (by decide +kernel)) rfl, ⟨by decide +kernel, by decide +kernel⟩, by decide +kernel⟩
theorem lkv_X9_walkerSinks : LKV yX9_walkerSinks := ⟨AW_in (List.mem_of_getElem? (i := 1524) (by decide +kernel)) rfl, AW_in (List.mem_of_getElem? (i := 105) (by decide +kernel)) rfl⟩
theorem lkc_X9_422 : LKC RX9 422 yX9_walkerSinks := Or.inl (AW_in (List.mem_of_getElem? (i := 1522) (by decide +kernel)) rfl)
theorem lki_X9_shrewSinks : LKI yX9_shrewSinks cX9_shrewSinks 3 (some .int) 2 := ⟨AW_in (List.mem_of_getElem? (i := 1521) (by decide +kernel)) rfl, AW_in (List.mem_of_getElem? (i := 119) (by decide +kernel)) rfl, ⟨by decide +kernel, by decide +kernel⟩, by decide +kernel⟩
theorem lkv_X9_shrewSinks : LKV yX9_shrewSinks := ⟨AW_in (List.mem_of_getElem? (i := 1520) (by decide +kernel)) rfl, AW_in (List.mem_of_getElem? (i := 104) (by decide +kernel)) rfl⟩
theorem lkc_X9_425 : LKC RX9 425 yX9_shrewSinks := Or.inl (AW_in (List.mem_of_getElem? (i := 1518) (by decide +kernel)) rfl)
theorem lki_X9_sinksAct : LKI yX9_sinksAct cX9_sinksAct 4 (some .int) 2 := ⟨AW_in (List.mem_of_getElem? (i := 1517) (by decide +kernel)) rfl, AW_in (List.mem_of_getElem? (i := 119) (by decide +kernel)) rfl, ⟨by decide +kernel, by decide +kernel⟩, by decide +kernel⟩
theorem lkv_X9_sinksAct : LKV yX9_sinksAct := ⟨AW_in (List.mem_of_getElem? (i := 1516) (by decide +kernel)) rfl, AW_in (List.mem_of_getElem? (i := 103) (by decide +kernel)) rfl⟩
theorem lkc_X9_428 : LKC RX9 428 yX9_sinksAct := Or.inl (AW_in (List.mem_of_getElem? (i := 1514) (by decide +kernel)) rfl)
theorem lki_X9_walkerTells : LKI yX9_walkerTells cX9_walkerTells 3 (some .int) 2 := ⟨AW_in (List.mem_of_getElem? (i := 1533) (by decide +kernel)) rfl, AW_in (List.mem_of_getElem? (i := 119) (by decide +kernel)) rfl, ⟨by decide +kernel, by decide +kernel⟩, by decide +kernel⟩
theorem lkv_X9_walkerTells : LKV yX9_walkerTells := ⟨AW_in (List.mem_of_getElem? (i := 1532) (by decide +kernel)) rfl, AW_in (List.mem_of_getElem? (i := 107) (by decide +kernel)) rfl⟩
theorem lkc_X9_431 : LKC RX9 431 yX9_walkerTells := Or.inl (AW_in (List.mem_of_getElem? (i := 1530) (by decide +kernel)) rfl)
theorem lki_X9_tellsAct : LKI yX9_tellsAct cX9_tellsAct 4 (some .int) 2 := ⟨AW_in (List.mem_of_getElem? (i := 1529) (by decide +kernel)) rfl, AW_in (List.mem_of_getElem? (i := 119) (by decide +kernel)) rfl, ⟨by decide +kernel, by decide +kernel⟩, by decide +kernel⟩
theorem lkv_X9_tellsAct : LKV yX9_tellsAct := ⟨AW_in (List.mem_of_getElem? (i := 1528) (by decide +kernel)) rfl, AW_in (List.mem_of_getElem? (i := 106) (by decide +kernel)) rfl⟩
theorem lkc_X9_434 : LKC RX9 434 yX9_tellsAct := Or.inl (AW_in (List.mem_of_getElem? (i := 1526) (by decide +kernel)) rfl)
theorem lki_X9_narrow : LKI yX9_narrow cX9_narrow 4 (some .long) 2 := ⟨AW_in (List.mem_of_getElem? (i := 1557) (by decide +kernel)) rfl, AW_in (List.mem_of_getElem? (i := 119) (by decide +kernel)) rfl, ⟨by decide +kernel, by decide +kernel⟩, by decide +kernel⟩
theorem lkv_X9_narrow : LKV yX9_narrow := ⟨AW_in (List.mem_of_getElem? (i := 1556) (by decide +kernel)) rfl, AW_in (List.mem_of_getElem? (i := 108) (by decide +kernel)) rfl⟩
theorem lkc_X9_437 : LKC RX9 437 yX9_narrow := Or.inl (AW_in (List.mem_of_getElem? (i := 1554) (by decide +kernel)) rfl)
