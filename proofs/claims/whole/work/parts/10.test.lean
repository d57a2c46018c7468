theorem kb_m5 : (Int8.ofInt (-5)).toInt32 = (-5) := by decide
theorem kb_8 : (Int8.ofInt 8).toInt32 = 8 := by decide
theorem kb_16 : (Int8.ofInt 16).toInt32 = 16 := by decide
theorem kb_63 : (Int8.ofInt 63).toInt32 = 63 := by decide
theorem ki_m1 : Int32.ofInt (-1) = (-1) := by decide
theorem ki_0 : Int32.ofInt 0 = 0 := by decide
theorem ki_1 : Int32.ofInt 1 = 1 := by decide
theorem ki_2 : Int32.ofInt 2 = 2 := by decide
theorem ki_4 : Int32.ofInt 4 = 4 := by decide
theorem ks_m4370 : (Int16.ofInt (-4370)).toInt32 = (-4370) := by decide
theorem ks_4369 : (Int16.ofInt 4369).toInt32 = 4369 := by decide
theorem ks_13107 : (Int16.ofInt 13107).toInt32 = 13107 := by decide
theorem aw_0 : Cond.constant RX8 318 (-34953) ∈ AW := AW_in (by decide +kernel) (by decide)
theorem aw_1 : Cond.constant RX8 220 65535 ∈ AW := AW_in (by decide +kernel) (by decide)
theorem aw_2 : Cond.constant RX8 319 52428 ∈ AW := AW_in (by decide +kernel) (by decide)
theorem lki_X8_around : LKI yX8_around cX8_around 3 (some .int) 2 := ⟨AW_in (by decide +kernel) (by decide), AW_in (by decide +kernel) (by decide), ⟨by decide +kernel, by decide +kernel⟩, by decide +kernel⟩
theorem lkv_X8_around : Cond.static yX8_around ∈ AW := AW_in (by decide +kernel) (by decide)
theorem lkc_X8_138 : LKC RX8 138 yX8_around := Or.inl (AW_in (by decide +kernel) (by decide))
theorem aw_3 : Cond.constant RJ6 265 1431655765 ∈ AW := AW_in (by decide +kernel) (by decide)
theorem aw_4 : Cond.constant RJ6 266 858993459 ∈ AW := AW_in (by decide +kernel) (by decide)
theorem aw_5 : Cond.constant RJ6 267 252645135 ∈ AW := AW_in (by decide +kernel) (by decide)
theorem lki_J6_bitCount_0f7a4 : LKI yJ6_bitCount_0f7a4 cJ6_bitCount_0f7a4 1 (some .int) 1 := ⟨AW_in (by decide +kernel) (by decide), AW_in (by decide +kernel) (by decide), ⟨by decide +kernel, by decide +kernel⟩, by decide +kernel⟩
theorem lkv_J6_bitCount_0f7a4 : Cond.static yJ6_bitCount_0f7a4 ∈ AW := AW_in (by decide +kernel) (by decide)
theorem lkc_X8_215 : LKC RX8 215 yJ6_bitCount_0f7a4 := Or.inl (AW_in (by decide +kernel) (by decide))
theorem aw_6 : Cond.constant RX8 196 34952 ∈ AW := AW_in (by decide +kernel) (by decide)
theorem lki_X8_fewest : LKI yX8_fewest cX8_fewest 7 (some .int) 4 := ⟨AW_in (by decide +kernel) (by decide), AW_in (by decide +kernel) (by decide), ⟨by decide +kernel, by decide +kernel⟩, by decide +kernel⟩
theorem lkv_X8_fewest : Cond.static yX8_fewest ∈ AW := AW_in (by decide +kernel) (by decide)
theorem lkc_X8_201 : LKC RX8 201 yX8_fewest := Or.inl (AW_in (by decide +kernel) (by decide))
theorem lki_X8_isLess : LKI yX8_isLess cX8_isLess 3 (some .boolean) 2 := ⟨AW_in (by decide +kernel) (by decide), AW_in (by decide +kernel) (by decide), ⟨by decide +kernel, by decide +kernel⟩, by decide +kernel⟩
theorem lkv_X8_isLess : Cond.static yX8_isLess ∈ AW := AW_in (by decide +kernel) (by decide)
theorem lkc_X8_320 : LKC RX8 320 yX8_isLess := Or.inl (AW_in (by decide +kernel) (by decide))
abbrev rm_X8_isBelow : Room := { frames := 1, cells := 0, slots := 0, locals := 40 }
def fn_X8_isBelow (p0 : Int32) (p1 : Int32) : Int32 :=
  if p0 < 0 then
    0
  else
    if p1 ≤ p0 then
      0
    else
      1
set_option maxRecDepth 100000 in
set_option maxHeartbeats 4000000 in
theorem ct_X8_isBelow (Γ : GT) (l : Launch) (M : QM) (p0 : Int32) (p1 : Int32) : CT Γ l yX8_isBelow cX8_isBelow 2 (some .boolean) rm_X8_isBelow [.int p0, .int p1] M (some (.int (fn_X8_isBelow p0 p1))) M := by
  generalize h : fn_X8_isBelow p0 p1 = z
  refine ct_intro (own := RX8) (L := [(0, .int p0), (1, .int p1)]) (by decide +kernel) rfl (Nat.le_of_ble_eq_true rfl) rfl ?_
  intro p e s m args below meth c Q hQ cx hnm
  unfold fn_X8_isBelow at h
  refine q_iload_n cx (pc' := 1) 0 rfl dX8_isBelow_0 rfl ?_
  refine q_if_lt cx (pc' := 4) (tgt := 13) dX8_isBelow_1 (by decide) rfl (fun c1 => ?_) (fun c1 => ?_)
  · replace h := ip c1 h
    refine q_iconst cx (pc' := 14) ki_0 dX8_isBelow_13 rfl ?_
    subst h
    rw [hQ]
    exact q_nret cx rfl dX8_isBelow_14
  · replace h := ine c1 h
    refine q_iload_n cx (pc' := 5) 0 rfl dX8_isBelow_4 rfl ?_
    refine q_iload_n cx (pc' := 6) 1 rfl dX8_isBelow_5 rfl ?_
    refine q_icmp_ge cx (pc' := 9) (tgt := 13) dX8_isBelow_6 (by decide) rfl (fun c6 => ?_) (fun c6 => ?_)
    · replace h := ip c6 h
      refine q_iconst cx (pc' := 14) ki_0 dX8_isBelow_13 rfl ?_
      subst h
      rw [hQ]
      exact q_nret cx rfl dX8_isBelow_14
    · replace h := ine c6 h
      refine q_iconst cx (pc' := 10) ki_1 dX8_isBelow_9 rfl ?_
      refine q_goto cx dX8_isBelow_10 (tgt := 14) (by decide) ?_
      subst h
      rw [hQ]
      exact q_nret cx rfl dX8_isBelow_14

abbrev rm_X8_isUpTo : Room := { frames := 1, cells := 0, slots := 0, locals := 40 }
def fn_X8_isUpTo (p0 : Int32) (p1 : Int32) : Int32 :=
  if p0 < 0 then
    0
  else
    if p1 < p0 then
      0
    else
      1
set_option maxRecDepth 100000 in
set_option maxHeartbeats 4000000 in
theorem ct_X8_isUpTo (Γ : GT) (l : Launch) (M : QM) (p0 : Int32) (p1 : Int32) : CT Γ l yX8_isUpTo cX8_isUpTo 2 (some .boolean) rm_X8_isUpTo [.int p0, .int p1] M (some (.int (fn_X8_isUpTo p0 p1))) M := by
  generalize h : fn_X8_isUpTo p0 p1 = z
  refine ct_intro (own := RX8) (L := [(0, .int p0), (1, .int p1)]) (by decide +kernel) rfl (Nat.le_of_ble_eq_true rfl) rfl ?_
  intro p e s m args below meth c Q hQ cx hnm
  unfold fn_X8_isUpTo at h
  refine q_iload_n cx (pc' := 1) 0 rfl dX8_isUpTo_0 rfl ?_
  refine q_if_lt cx (pc' := 4) (tgt := 13) dX8_isUpTo_1 (by decide) rfl (fun c1 => ?_) (fun c1 => ?_)
  · replace h := ip c1 h
    refine q_iconst cx (pc' := 14) ki_0 dX8_isUpTo_13 rfl ?_
    subst h
    rw [hQ]
    exact q_nret cx rfl dX8_isUpTo_14
  · replace h := ine c1 h
    refine q_iload_n cx (pc' := 5) 0 rfl dX8_isUpTo_4 rfl ?_
    refine q_iload_n cx (pc' := 6) 1 rfl dX8_isUpTo_5 rfl ?_
    refine q_icmp_gt cx (pc' := 9) (tgt := 13) dX8_isUpTo_6 (by decide) rfl (fun c6 => ?_) (fun c6 => ?_)
    · replace h := ip c6 h
      refine q_iconst cx (pc' := 14) ki_0 dX8_isUpTo_13 rfl ?_
      subst h
      rw [hQ]
      exact q_nret cx rfl dX8_isUpTo_14
    · replace h := ine c6 h
      refine q_iconst cx (pc' := 10) ki_1 dX8_isUpTo_9 rfl ?_
      refine q_goto cx dX8_isUpTo_10 (tgt := 14) (by decide) ?_
      subst h
      rw [hQ]
      exact q_nret cx rfl dX8_isUpTo_14

abbrev rm_X8_rowOf : Room := { frames := 1, cells := 0, slots := 0, locals := 40 }
def fn_X8_rowOf (p0 : Int32) : Int32 :=
  (p0 / 4)
set_option maxRecDepth 100000 in
set_option maxHeartbeats 4000000 in
theorem ct_X8_rowOf (Γ : GT) (l : Launch) (M : QM) (p0 : Int32) : CT Γ l yX8_rowOf cX8_rowOf 1 (some .int) rm_X8_rowOf [.int p0] M (some (.int (fn_X8_rowOf p0))) M := by
  generalize h : fn_X8_rowOf p0 = z
  refine ct_intro (own := RX8) (L := [(0, .int p0)]) (by decide +kernel) rfl (Nat.le_of_ble_eq_true rfl) rfl ?_
  intro p e s m args below meth c Q hQ cx hnm
  unfold fn_X8_rowOf at h
  refine q_iload_n cx (pc' := 1) 0 rfl dX8_rowOf_0 rfl ?_
  refine q_iconst cx (pc' := 2) ki_4 dX8_rowOf_1 rfl ?_
  refine q_idiv cx (pc' := 3) (by decide) dX8_rowOf_2 rfl ?_
  subst h
  rw [hQ]
  exact q_iret cx dX8_rowOf_3

abbrev rm_X8_around : Room := { frames := 1, cells := 0, slots := 0, locals := 40 }
def fn_X8_around (p0 : Int32) (p1 : Int32) : Int32 :=
  nm ((((p0 <<< (4 &&& 31)) ||| (ushr p0 4)) ||| ((p0 &&& (-34953)) <<< (1 &&& 31))) ||| (ushr (p0 &&& (-4370)) 1)) fun v2_23 =>
  if p1 = 0 then
    (v2_23 &&& 65535)
  else
    nm (v2_23 ||| ((((p0 <<< (8 &&& 31)) ||| (ushr p0 8)) ||| ((p0 &&& 13107) <<< (2 &&& 31))) ||| (ushr (p0 &&& 52428) 2))) fun v2_55 =>
    (v2_55 &&& 65535)
set_option maxRecDepth 100000 in
set_option maxHeartbeats 4000000 in
theorem ct_X8_around (Γ : GT) (l : Launch) (M : QM) (p0 : Int32) (p1 : Int32) : CT Γ l yX8_around cX8_around 3 (some .int) rm_X8_around [.int p0, .int p1] M (some (.int (fn_X8_around p0 p1))) M := by
  generalize h : fn_X8_around p0 p1 = z
  refine ct_intro (own := RX8) (L := [(0, .int p0), (1, .int p1)]) (by decide +kernel) rfl (Nat.le_of_ble_eq_true rfl) rfl ?_
  intro p e s m args below meth c Q hQ cx hnm
  unfold fn_X8_around at h
  refine q_iload_n cx (pc' := 1) 0 rfl dX8_around_0 rfl ?_
  refine q_iconst cx (pc' := 2) ki_4 dX8_around_1 rfl ?_
  refine q_ishl cx (pc' := 3) dX8_around_2 rfl ?_
  refine q_iload_n cx (pc' := 4) 0 rfl dX8_around_3 rfl ?_
  refine q_iconst cx (pc' := 5) ki_4 dX8_around_4 rfl ?_
  refine q_iushr cx (pc' := 6) dX8_around_5 rfl ?_
  refine q_ior cx (pc' := 7) dX8_around_6 rfl ?_
  refine q_iload_n cx (pc' := 8) 0 rfl dX8_around_7 rfl ?_
  refine q_ldcw cx (pc' := 11) aw_0 dX8_around_8 rfl ?_
  refine q_iand cx (pc' := 12) dX8_around_11 rfl ?_
  refine q_iconst cx (pc' := 13) ki_1 dX8_around_12 rfl ?_
  refine q_ishl cx (pc' := 14) dX8_around_13 rfl ?_
  refine q_ior cx (pc' := 15) dX8_around_14 rfl ?_
  refine q_iload_n cx (pc' := 16) 0 rfl dX8_around_15 rfl ?_
  refine q_sipush cx (pc' := 19) ks_m4370 dX8_around_16 rfl ?_
  refine q_iand cx (pc' := 20) dX8_around_19 rfl ?_
  refine q_iconst cx (pc' := 21) ki_1 dX8_around_20 rfl ?_
  refine q_iushr cx (pc' := 22) dX8_around_21 rfl ?_
  refine q_ior cx (pc' := 23) dX8_around_22 rfl ?_
  obtain ⟨v2_23, ev2_23, h⟩ := nm_i h
  refine q_istore_n cx (pc' := 24) rfl ev2_23 (by decide) (L' := [(2, .int v2_23), (0, .int p0), (1, .int p1)]) rfl dX8_around_23 rfl ?_
  refine q_iload_n cx (pc' := 25) 2 rfl dX8_around_24 rfl ?_
  refine q_if_eq cx (pc' := 28) (tgt := 56) dX8_around_25 (by decide) rfl (fun c25 => ?_) (fun c25 => ?_)
  · replace h := ip c25 h
    refine q_iload_n cx (pc' := 57) 0 rfl dX8_around_56 rfl ?_
    refine q_ldc cx (pc' := 59) aw_1 dX8_around_57 rfl ?_
    refine q_iand cx (pc' := 60) dX8_around_59 rfl ?_
    subst h
    rw [hQ]
    exact q_iret cx dX8_around_60
  · replace h := ine c25 h
    refine q_iload_n cx (pc' := 29) 0 rfl dX8_around_28 rfl ?_
    refine q_iload_n cx (pc' := 30) 1 rfl dX8_around_29 rfl ?_
    refine q_bipush cx (pc' := 32) kb_8 dX8_around_30 rfl ?_
    refine q_ishl cx (pc' := 33) dX8_around_32 rfl ?_
    refine q_iload_n cx (pc' := 34) 1 rfl dX8_around_33 rfl ?_
    refine q_bipush cx (pc' := 36) kb_8 dX8_around_34 rfl ?_
    refine q_iushr cx (pc' := 37) dX8_around_36 rfl ?_
    refine q_ior cx (pc' := 38) dX8_around_37 rfl ?_
    refine q_iload_n cx (pc' := 39) 1 rfl dX8_around_38 rfl ?_
    refine q_sipush cx (pc' := 42) ks_13107 dX8_around_39 rfl ?_
    refine q_iand cx (pc' := 43) dX8_around_42 rfl ?_
    refine q_iconst cx (pc' := 44) ki_2 dX8_around_43 rfl ?_
    refine q_ishl cx (pc' := 45) dX8_around_44 rfl ?_
    refine q_ior cx (pc' := 46) dX8_around_45 rfl ?_
    refine q_iload_n cx (pc' := 47) 1 rfl dX8_around_46 rfl ?_
    refine q_ldcw cx (pc' := 50) aw_2 dX8_around_47 rfl ?_
    refine q_iand cx (pc' := 51) dX8_around_50 rfl ?_
    refine q_iconst cx (pc' := 52) ki_2 dX8_around_51 rfl ?_
    refine q_iushr cx (pc' := 53) dX8_around_52 rfl ?_
    refine q_ior cx (pc' := 54) dX8_around_53 rfl ?_
    refine q_ior cx (pc' := 55) dX8_around_54 rfl ?_
    obtain ⟨v2_55, ev2_55, h⟩ := nm_i h
    refine q_istore_n cx (pc' := 56) rfl ev2_55 (by decide) (L' := [(2, .int v2_55), (0, .int p0), (1, .int p1)]) rfl dX8_around_55 rfl ?_
    refine q_iload_n cx (pc' := 57) 0 rfl dX8_around_56 rfl ?_
    refine q_ldc cx (pc' := 59) aw_1 dX8_around_57 rfl ?_
    refine q_iand cx (pc' := 60) dX8_around_59 rfl ?_
    subst h
    rw [hQ]
    exact q_iret cx dX8_around_60

abbrev rm_X8_fewest : Room := { frames := 2, cells := 0, slots := 0, locals := 62 }
def lp_X8_fewest_12 (p1 : Int32) (p2 : Int32) (p3 : Int32) (w4_12 : Int32) (w5_12 : Int32) (w6_12 : Int32) : Option ((Int32 × Int32 × Int32) ⊕ (Int32)) :=
  if 16 ≤ w6_12 then
    some (.inr (-5))
  else
    if w5_12 = 0 then
      some (.inr (-5))
    else
      if (w5_12 &&& p1) = 0 then
        nm (((fn_X8_around w5_12 p3) &&& p2) &&& (w4_12 ^^^ (-1))) fun v5_47 =>
        nm (w4_12 ||| v5_47) fun v4_54 =>
        nm (w6_12 + 1) fun v6_56 =>
        some (.inl (v4_54, v5_47, v6_56))
      else
        some (.inr w6_12)
def fn_X8_fewest (p0 : Int32) (p1 : Int32) (p2 : Int32) (p3 : Int32) : Option Int32 :=
  nm (p0 &&& p2) fun v4_3 =>
  bnd (itr (fun s12 : Int32 × Int32 × Int32 => lp_X8_fewest_12 p1 p2 p3 s12.1 s12.2.1 s12.2.2) FU (v4_3, v4_3, 0)) fun re_12 =>
  some re_12
set_option maxRecDepth 100000 in
set_option maxHeartbeats 4000000 in
theorem ct_X8_fewest (Γ : GT) (l : Launch) (M : QM) (p0 : Int32) (p1 : Int32) (p2 : Int32) (p3 : Int32) (z : Int32) (h : fn_X8_fewest p0 p1 p2 p3 = some z) : CT Γ l yX8_fewest cX8_fewest 7 (some .int) rm_X8_fewest [.int p0, .int p1, .int p2, .int p3] M (some (.int z)) M := by
  refine ct_intro (own := RX8) (L := [(0, .int p0), (1, .int p1), (2, .int p2), (3, .int p3)]) (by decide +kernel) rfl (Nat.le_of_ble_eq_true rfl) rfl ?_
  intro p e s m args below meth c Q hQ cx hnm
  unfold fn_X8_fewest at h
  refine q_iload_n cx (pc' := 1) 0 rfl dX8_fewest_0 rfl ?_
  refine q_iload_n cx (pc' := 2) 2 rfl dX8_fewest_1 rfl ?_
  refine q_iand cx (pc' := 3) dX8_fewest_2 rfl ?_
  obtain ⟨v4_3, ev4_3, h⟩ := nm_i h
  refine q_istore cx (pc' := 5) ev4_3 (by decide) (L' := [(4, .int v4_3), (0, .int p0), (1, .int p1), (2, .int p2), (3, .int p3)]) rfl dX8_fewest_3 rfl ?_
  refine q_iload cx (pc' := 7) 0 rfl dX8_fewest_5 rfl ?_
  refine q_istore cx (pc' := 9) rfl (by decide) (L' := [(5, .int v4_3), (4, .int v4_3), (0, .int p0), (1, .int p1), (2, .int p2), (3, .int p3)]) rfl dX8_fewest_7 rfl ?_
  refine q_iconst cx (pc' := 10) ki_0 dX8_fewest_9 rfl ?_
  refine q_istore cx (pc' := 12) rfl (by decide) (L' := [(6, .int 0), (5, .int v4_3), (4, .int v4_3), (0, .int p0), (1, .int p1), (2, .int p2), (3, .int p3)]) rfl dX8_fewest_10 rfl ?_
  obtain ⟨r12, hL12, h⟩ := bnd_i h
  have hk12_r : ∀ (re_12 : Int32), re_12 = r12 → some re_12 = some z := by
    intro re_12 hp
    subst hp
    exact h
  have key12 : ∀ (n : Nat) (w4_12 : Int32) (w5_12 : Int32) (w6_12 : Int32), itr (fun s12 : Int32 × Int32 × Int32 => lp_X8_fewest_12 p1 p2 p3 s12.1 s12.2.1 s12.2.2) n (w4_12, w5_12, w6_12) = some r12 → EE p l e rm_X8_fewest s m args below meth c Q Γ 7 0 0 12 [(1, .int p1), (2, .int p2), (3, .int p3), (4, .int w4_12), (5, .int w5_12), (6, .int w6_12)] [] M := by
    intro n
    induction n with
    | zero => intro _ _ _ h; exact (itr_0 h).elim
    | succ n ih =>
      intro w4_12 w5_12 w6_12 h
      obtain ⟨z12, h, hz12⟩ := itr_i h
      replace h : lp_X8_fewest_12 p1 p2 p3 w4_12 w5_12 w6_12 = some z12 := h
      unfold lp_X8_fewest_12 at h
      refine q_iload cx (pc' := 14) 5 rfl dX8_fewest_12 rfl ?_
      refine q_bipush cx (pc' := 16) kb_16 dX8_fewest_14 rfl ?_
      refine q_icmp_ge cx (pc' := 19) (tgt := 62) dX8_fewest_16 (by decide) rfl (fun c16 => ?_) (fun c16 => ?_)
      · replace h := ip c16 h
        refine q_bipush cx (pc' := 64) kb_m5 dX8_fewest_62 rfl ?_
        replace h := hk12_r _ (hz12.2 _ h)
        cases h
        rw [hQ]
        exact q_iret cx dX8_fewest_64
      · replace h := ine c16 h
        refine q_iload cx (pc' := 21) 4 rfl dX8_fewest_19 rfl ?_
        refine q_if_eq cx (pc' := 24) (tgt := 62) dX8_fewest_21 (by decide) rfl (fun c21 => ?_) (fun c21 => ?_)
        · replace h := ip c21 h
          refine q_bipush cx (pc' := 64) kb_m5 dX8_fewest_62 rfl ?_
          replace h := hk12_r _ (hz12.2 _ h)
          cases h
          rw [hQ]
          exact q_iret cx dX8_fewest_64
        · replace h := ine c21 h
          refine q_iload cx (pc' := 26) 4 rfl dX8_fewest_24 rfl ?_
          refine q_iload_n cx (pc' := 27) 0 rfl dX8_fewest_26 rfl ?_
          refine q_iand cx (pc' := 28) dX8_fewest_27 rfl ?_
          refine q_if_eq cx (pc' := 31) (tgt := 34) dX8_fewest_28 (by decide) rfl (fun c28 => ?_) (fun c28 => ?_)
          · replace h := ip c28 h
            refine q_iload cx (pc' := 36) 4 rfl dX8_fewest_34 rfl ?_
            refine q_iload_n cx (pc' := 37) 2 rfl dX8_fewest_36 rfl ?_
            refine q_callS cx (pc' := 40) (S := []) (S1 := [.int (fn_X8_around w5_12 p3)]) (kc' := 0) (ks' := 0) (ct_X8_around Γ l M w5_12 p3) lki_X8_around lkv_X8_around lkc_X8_138 rfl rfl (Nat.le_of_ble_eq_true rfl) ⟨(Nat.le_of_ble_eq_true rfl), (Nat.le_of_ble_eq_true rfl)⟩ ⟨(Nat.le_of_ble_eq_true rfl), (Nat.le_of_ble_eq_true rfl)⟩ dX8_fewest_37 rfl rfl rfl ?_
            refine q_iload_n cx (pc' := 41) 1 rfl dX8_fewest_40 rfl ?_
            refine q_iand cx (pc' := 42) dX8_fewest_41 rfl ?_
            refine q_iload cx (pc' := 44) 3 rfl dX8_fewest_42 rfl ?_
            refine q_iconst cx (pc' := 45) ki_m1 dX8_fewest_44 rfl ?_
            refine q_ixor cx (pc' := 46) dX8_fewest_45 rfl ?_
            refine q_iand cx (pc' := 47) dX8_fewest_46 rfl ?_
            obtain ⟨v5_47, ev5_47, h⟩ := nm_i h
            refine q_istore cx (pc' := 49) ev5_47 (by decide) (L' := [(5, .int v5_47), (1, .int p1), (2, .int p2), (3, .int p3), (4, .int w4_12), (6, .int w6_12)]) rfl dX8_fewest_47 rfl ?_
            refine q_iload cx (pc' := 51) 4 rfl dX8_fewest_49 rfl ?_
            refine q_iload cx (pc' := 53) 0 rfl dX8_fewest_51 rfl ?_
            refine q_ior cx (pc' := 54) dX8_fewest_53 rfl ?_
            obtain ⟨v4_54, ev4_54, h⟩ := nm_i h
            refine q_istore cx (pc' := 56) ev4_54 (by decide) (L' := [(4, .int v4_54), (5, .int v5_47), (1, .int p1), (2, .int p2), (3, .int p3), (6, .int w6_12)]) rfl dX8_fewest_54 rfl ?_
            obtain ⟨v6_56, ev6_56, h⟩ := nm_i h
            refine q_iinc cx (pc' := 59) 5 rfl ki_1 ev6_56 (by decide) (L' := [(6, .int v6_56), (4, .int v4_54), (5, .int v5_47), (1, .int p1), (2, .int p2), (3, .int p3)]) rfl dX8_fewest_56 rfl ?_
            refine q_goto cx dX8_fewest_59 (tgt := 12) (by decide) ?_
            refine q_sub cx [3, 4, 5, 1, 2, 0] rfl ?_
            exact ih _ _ _ (hz12.1 _ h)
          · replace h := ine c28 h
            refine q_iload cx (pc' := 33) 5 rfl dX8_fewest_31 rfl ?_
            replace h := hk12_r _ (hz12.2 _ h)
            cases h
            rw [hQ]
            exact q_iret cx dX8_fewest_33
  refine q_sub cx [4, 5, 6, 2, 1, 0] rfl ?_
  exact key12 FU _ _ _ hL12

abbrev rm_J6_bitCount_0f7a4 : Room := { frames := 1, cells := 0, slots := 0, locals := 40 }
def fn_J6_bitCount_0f7a4 (p0 : Int32) : Int32 :=
  nm (p0 - ((ushr p0 1) &&& 1431655765)) fun v0_9 =>
  nm ((v0_9 &&& 858993459) + ((ushr v0_9 2) &&& 858993459)) fun v0_23 =>
  nm ((v0_23 + (ushr v0_23 4)) &&& 252645135) fun v0_33 =>
  nm (v0_33 + (ushr v0_33 8)) fun v0_40 =>
  nm (v0_40 + (ushr v0_40 16)) fun v0_47 =>
  (v0_47 &&& 63)
set_option maxRecDepth 100000 in
set_option maxHeartbeats 4000000 in
theorem ct_J6_bitCount_0f7a4 (Γ : GT) (l : Launch) (M : QM) (p0 : Int32) : CT Γ l yJ6_bitCount_0f7a4 cJ6_bitCount_0f7a4 1 (some .int) rm_J6_bitCount_0f7a4 [.int p0] M (some (.int (fn_J6_bitCount_0f7a4 p0))) M := by
  generalize h : fn_J6_bitCount_0f7a4 p0 = z
  refine ct_intro (own := RJ6) (L := [(0, .int p0)]) (by decide +kernel) rfl (Nat.le_of_ble_eq_true rfl) rfl ?_
  intro p e s m args below meth c Q hQ cx hnm
  unfold fn_J6_bitCount_0f7a4 at h
  refine q_iload_n cx (pc' := 1) 0 rfl dJ6_bitCount_0f7a4_0 rfl ?_
  refine q_iload_n cx (pc' := 2) 0 rfl dJ6_bitCount_0f7a4_1 rfl ?_
  refine q_iconst cx (pc' := 3) ki_1 dJ6_bitCount_0f7a4_2 rfl ?_
  refine q_iushr cx (pc' := 4) dJ6_bitCount_0f7a4_3 rfl ?_
  refine q_ldcw cx (pc' := 7) aw_3 dJ6_bitCount_0f7a4_4 rfl ?_
  refine q_iand cx (pc' := 8) dJ6_bitCount_0f7a4_7 rfl ?_
  refine q_isub cx (pc' := 9) dJ6_bitCount_0f7a4_8 rfl ?_
  obtain ⟨v0_9, ev0_9, h⟩ := nm_i h
  refine q_istore_n cx (pc' := 10) rfl ev0_9 (by decide) (L' := [(0, .int v0_9)]) rfl dJ6_bitCount_0f7a4_9 rfl ?_
  refine q_iload_n cx (pc' := 11) 0 rfl dJ6_bitCount_0f7a4_10 rfl ?_
  refine q_ldcw cx (pc' := 14) aw_4 dJ6_bitCount_0f7a4_11 rfl ?_
  refine q_iand cx (pc' := 15) dJ6_bitCount_0f7a4_14 rfl ?_
  refine q_iload_n cx (pc' := 16) 0 rfl dJ6_bitCount_0f7a4_15 rfl ?_
  refine q_iconst cx (pc' := 17) ki_2 dJ6_bitCount_0f7a4_16 rfl ?_
  refine q_iushr cx (pc' := 18) dJ6_bitCount_0f7a4_17 rfl ?_
  refine q_ldcw cx (pc' := 21) aw_4 dJ6_bitCount_0f7a4_18 rfl ?_
  refine q_iand cx (pc' := 22) dJ6_bitCount_0f7a4_21 rfl ?_
  refine q_iadd cx (pc' := 23) dJ6_bitCount_0f7a4_22 rfl ?_
  obtain ⟨v0_23, ev0_23, h⟩ := nm_i h
  refine q_istore_n cx (pc' := 24) rfl ev0_23 (by decide) (L' := [(0, .int v0_23)]) rfl dJ6_bitCount_0f7a4_23 rfl ?_
  refine q_iload_n cx (pc' := 25) 0 rfl dJ6_bitCount_0f7a4_24 rfl ?_
  refine q_iload_n cx (pc' := 26) 0 rfl dJ6_bitCount_0f7a4_25 rfl ?_
  refine q_iconst cx (pc' := 27) ki_4 dJ6_bitCount_0f7a4_26 rfl ?_
  refine q_iushr cx (pc' := 28) dJ6_bitCount_0f7a4_27 rfl ?_
  refine q_iadd cx (pc' := 29) dJ6_bitCount_0f7a4_28 rfl ?_
  refine q_ldcw cx (pc' := 32) aw_5 dJ6_bitCount_0f7a4_29 rfl ?_
  refine q_iand cx (pc' := 33) dJ6_bitCount_0f7a4_32 rfl ?_
  obtain ⟨v0_33, ev0_33, h⟩ := nm_i h
  refine q_istore_n cx (pc' := 34) rfl ev0_33 (by decide) (L' := [(0, .int v0_33)]) rfl dJ6_bitCount_0f7a4_33 rfl ?_
  refine q_iload_n cx (pc' := 35) 0 rfl dJ6_bitCount_0f7a4_34 rfl ?_
  refine q_iload_n cx (pc' := 36) 0 rfl dJ6_bitCount_0f7a4_35 rfl ?_
  refine q_bipush cx (pc' := 38) kb_8 dJ6_bitCount_0f7a4_36 rfl ?_
  refine q_iushr cx (pc' := 39) dJ6_bitCount_0f7a4_38 rfl ?_
  refine q_iadd cx (pc' := 40) dJ6_bitCount_0f7a4_39 rfl ?_
  obtain ⟨v0_40, ev0_40, h⟩ := nm_i h
  refine q_istore_n cx (pc' := 41) rfl ev0_40 (by decide) (L' := [(0, .int v0_40)]) rfl dJ6_bitCount_0f7a4_40 rfl ?_
  refine q_iload_n cx (pc' := 42) 0 rfl dJ6_bitCount_0f7a4_41 rfl ?_
  refine q_iload_n cx (pc' := 43) 0 rfl dJ6_bitCount_0f7a4_42 rfl ?_
  refine q_bipush cx (pc' := 45) kb_16 dJ6_bitCount_0f7a4_43 rfl ?_
  refine q_iushr cx (pc' := 46) dJ6_bitCount_0f7a4_45 rfl ?_
  refine q_iadd cx (pc' := 47) dJ6_bitCount_0f7a4_46 rfl ?_
  obtain ⟨v0_47, ev0_47, h⟩ := nm_i h
  refine q_istore_n cx (pc' := 48) rfl ev0_47 (by decide) (L' := [(0, .int v0_47)]) rfl dJ6_bitCount_0f7a4_47 rfl ?_
  refine q_iload_n cx (pc' := 49) 0 rfl dJ6_bitCount_0f7a4_48 rfl ?_
  refine q_bipush cx (pc' := 51) kb_63 dJ6_bitCount_0f7a4_49 rfl ?_
  refine q_iand cx (pc' := 52) dJ6_bitCount_0f7a4_51 rfl ?_
  subst h
  rw [hQ]
  exact q_iret cx dJ6_bitCount_0f7a4_52

abbrev rm_X8_isLess : Room := { frames := 2, cells := 0, slots := 0, locals := 60 }
def fn_X8_isLess (p0 : Int32) (p1 : Int32) : Int32 :=
  if 0 ≤ p1 then
    nm ((fn_J6_bitCount_0f7a4 p0) - (fn_J6_bitCount_0f7a4 p1)) fun v2_15 =>
    if v2_15 < 0 then
      1
    else
      if v2_15 = 0 then
        if p1 ≤ p0 then
          0
        else
          1
      else
        0
  else
    1
set_option maxRecDepth 100000 in
set_option maxHeartbeats 4000000 in
theorem ct_X8_isLess (Γ : GT) (l : Launch) (M : QM) (p0 : Int32) (p1 : Int32) : CT Γ l yX8_isLess cX8_isLess 3 (some .boolean) rm_X8_isLess [.int p0, .int p1] M (some (.int (fn_X8_isLess p0 p1))) M := by
  generalize h : fn_X8_isLess p0 p1 = z
  refine ct_intro (own := RX8) (L := [(0, .int p0), (1, .int p1)]) (by decide +kernel) rfl (Nat.le_of_ble_eq_true rfl) rfl ?_
  intro p e s m args below meth c Q hQ cx hnm
  unfold fn_X8_isLess at h
  refine q_iload_n cx (pc' := 1) 1 rfl dX8_isLess_0 rfl ?_
  refine q_if_ge cx (pc' := 4) (tgt := 6) dX8_isLess_1 (by decide) rfl (fun c1 => ?_) (fun c1 => ?_)
  · replace h := ip c1 h
    refine q_iload_n cx (pc' := 7) 0 rfl dX8_isLess_6 rfl ?_
    refine q_callS cx (pc' := 10) (S := []) (S1 := [.int (fn_J6_bitCount_0f7a4 p0)]) (kc' := 0) (ks' := 0) (ct_J6_bitCount_0f7a4 Γ l M p0) lki_J6_bitCount_0f7a4 lkv_J6_bitCount_0f7a4 lkc_X8_215 rfl rfl (Nat.le_of_ble_eq_true rfl) ⟨(Nat.le_of_ble_eq_true rfl), (Nat.le_of_ble_eq_true rfl)⟩ ⟨(Nat.le_of_ble_eq_true rfl), (Nat.le_of_ble_eq_true rfl)⟩ dX8_isLess_7 rfl rfl rfl ?_
    refine q_iload_n cx (pc' := 11) 1 rfl dX8_isLess_10 rfl ?_
    refine q_callS cx (pc' := 14) (S := [.int (fn_J6_bitCount_0f7a4 p0)]) (S1 := [.int (fn_J6_bitCount_0f7a4 p1), .int (fn_J6_bitCount_0f7a4 p0)]) (kc' := 0) (ks' := 0) (ct_J6_bitCount_0f7a4 Γ l M p1) lki_J6_bitCount_0f7a4 lkv_J6_bitCount_0f7a4 lkc_X8_215 rfl rfl (Nat.le_of_ble_eq_true rfl) ⟨(Nat.le_of_ble_eq_true rfl), (Nat.le_of_ble_eq_true rfl)⟩ ⟨(Nat.le_of_ble_eq_true rfl), (Nat.le_of_ble_eq_true rfl)⟩ dX8_isLess_11 rfl rfl rfl ?_
    refine q_isub cx (pc' := 15) dX8_isLess_14 rfl ?_
    obtain ⟨v2_15, ev2_15, h⟩ := nm_i h
    refine q_istore_n cx (pc' := 16) rfl ev2_15 (by decide) (L' := [(2, .int v2_15), (0, .int p0), (1, .int p1)]) rfl dX8_isLess_15 rfl ?_
    refine q_iload_n cx (pc' := 17) 0 rfl dX8_isLess_16 rfl ?_
    refine q_if_lt cx (pc' := 20) (tgt := 29) dX8_isLess_17 (by decide) rfl (fun c17 => ?_) (fun c17 => ?_)
    · replace h := ip c17 h
      refine q_iconst cx (pc' := 30) ki_1 dX8_isLess_29 rfl ?_
      refine q_goto cx dX8_isLess_30 (tgt := 34) (by decide) ?_
      subst h
      rw [hQ]
      exact q_nret cx rfl dX8_isLess_34
    · replace h := ine c17 h
      refine q_iload_n cx (pc' := 21) 0 rfl dX8_isLess_20 rfl ?_
      refine q_if_ne cx (pc' := 24) (tgt := 33) dX8_isLess_21 (by decide) rfl (fun c21 => ?_) (fun c21 => ?_)
      · replace h := ine c21 h
        refine q_iconst cx (pc' := 34) ki_0 dX8_isLess_33 rfl ?_
        subst h
        rw [hQ]
        exact q_nret cx rfl dX8_isLess_34
      · replace h := ip c21 h
        refine q_iload_n cx (pc' := 25) 1 rfl dX8_isLess_24 rfl ?_
        refine q_iload_n cx (pc' := 26) 2 rfl dX8_isLess_25 rfl ?_
        refine q_icmp_ge cx (pc' := 29) (tgt := 33) dX8_isLess_26 (by decide) rfl (fun c26 => ?_) (fun c26 => ?_)
        · replace h := ip c26 h
          refine q_iconst cx (pc' := 34) ki_0 dX8_isLess_33 rfl ?_
          subst h
          rw [hQ]
          exact q_nret cx rfl dX8_isLess_34
        · replace h := ine c26 h
          refine q_iconst cx (pc' := 30) ki_1 dX8_isLess_29 rfl ?_
          refine q_goto cx dX8_isLess_30 (tgt := 34) (by decide) ?_
          subst h
          rw [hQ]
          exact q_nret cx rfl dX8_isLess_34
  · replace h := ine c1 h
    refine q_iconst cx (pc' := 5) ki_1 dX8_isLess_4 rfl ?_
    subst h
    rw [hQ]
    exact q_nret cx rfl dX8_isLess_5

abbrev rm_X8_leastCut : Room := { frames := 3, cells := 0, slots := 0, locals := 88 }
def lp_X8_leastCut_38 (p0 : Int32) (p1 : Int32) (w3_20 : Int32) (w4_29 : Int32) (w2_38 : Int32) (w5_38 : Int32) : Option ((Int32 × Int32) ⊕ (Int32)) :=
  if w4_29 < w5_38 then
    some (.inr w2_38)
  else
    nm (((1 <<< (w3_20 &&& 31)) ||| (1 <<< (w4_29 &&& 31))) ||| (1 <<< (w5_38 &&& 31))) fun v6_58 =>
    if (fn_X8_isLess v6_58 w2_38) = 0 then
      nm (w5_38 + 1) fun v5_90 =>
      some (.inl (w2_38, v5_90))
    else
      bnd (fn_X8_fewest 4369 34952 (p0 &&& (v6_58 ^^^ (-1))) p1) fun c81 =>
      if 0 ≤ c81 then
        nm (w5_38 + 1) fun v5_90 =>
        some (.inl (w2_38, v5_90))
      else
        nm (w5_38 + 1) fun v5_90 =>
        some (.inl (v6_58, v5_90))
def lp_X8_leastCut_29 (p0 : Int32) (p1 : Int32) (w3_20 : Int32) (w2_29 : Int32) (w4_29 : Int32) : Option ((Int32 × Int32) ⊕ (Int32)) :=
  if w3_20 < w4_29 then
    some (.inr w2_29)
  else
    bnd (itr (fun s38 : Int32 × Int32 => lp_X8_leastCut_38 p0 p1 w3_20 w4_29 s38.1 s38.2) FU (w2_29, 0)) fun e2_38 =>
    nm (w4_29 + 1) fun v4_96 =>
    some (.inl (e2_38, v4_96))
def lp_X8_leastCut_20 (p0 : Int32) (p1 : Int32) (w2_20 : Int32) (w3_20 : Int32) : Option ((Int32 × Int32) ⊕ (Int32)) :=
  if 16 ≤ w3_20 then
    some (.inr w2_20)
  else
    bnd (itr (fun s29 : Int32 × Int32 => lp_X8_leastCut_29 p0 p1 w3_20 s29.1 s29.2) FU (w2_20, 0)) fun e2_29 =>
    nm (w3_20 + 1) fun v3_102 =>
    some (.inl (e2_29, v3_102))
def fn_X8_leastCut (p0 : Int32) (p1 : Int32) : Option Int32 :=
  bnd (fn_X8_fewest 4369 34952 p0 p1) fun c7 =>
  if 0 ≤ c7 then
    bnd (itr (fun s20 : Int32 × Int32 => lp_X8_leastCut_20 p0 p1 s20.1 s20.2) FU ((-5), 0)) fun re_20 =>
    some re_20
  else
    some 0
set_option maxRecDepth 100000 in
set_option maxHeartbeats 4000000 in
theorem ct_X8_leastCut (Γ : GT) (l : Launch) (M : QM) (p0 : Int32) (p1 : Int32) (z : Int32) (h : fn_X8_leastCut p0 p1 = some z) : CT Γ l yX8_leastCut cX8_leastCut 7 (some .int) rm_X8_leastCut [.int p0, .int p1] M (some (.int z)) M := by
  refine ct_intro (own := RX8) (L := [(0, .int p0), (1, .int p1)]) (by decide +kernel) rfl (Nat.le_of_ble_eq_true rfl) rfl ?_
  intro p e s m args below meth c Q hQ cx hnm
  unfold fn_X8_leastCut at h
  refine q_sipush cx (pc' := 3) ks_4369 dX8_leastCut_0 rfl ?_
  refine q_ldc cx (pc' := 5) aw_6 dX8_leastCut_3 rfl ?_
  refine q_iload_n cx (pc' := 6) 0 rfl dX8_leastCut_5 rfl ?_
  refine q_iload_n cx (pc' := 7) 1 rfl dX8_leastCut_6 rfl ?_
  obtain ⟨c7, hc7, h⟩ := bnd_i h
  refine q_callS cx (pc' := 10) (S := []) (S1 := [.int c7]) (kc' := 0) (ks' := 0) (ct_X8_fewest Γ l M 4369 34952 p0 p1 _ hc7) lki_X8_fewest lkv_X8_fewest lkc_X8_201 rfl rfl (Nat.le_of_ble_eq_true rfl) ⟨(Nat.le_of_ble_eq_true rfl), (Nat.le_of_ble_eq_true rfl)⟩ ⟨(Nat.le_of_ble_eq_true rfl), (Nat.le_of_ble_eq_true rfl)⟩ dX8_leastCut_7 rfl rfl rfl ?_
  refine q_if_ge cx (pc' := 13) (tgt := 15) dX8_leastCut_10 (by decide) rfl (fun c10 => ?_) (fun c10 => ?_)
  · replace h := ip c10 h
    refine q_bipush cx (pc' := 17) kb_m5 dX8_leastCut_15 rfl ?_
    refine q_istore_n cx (pc' := 18) rfl rfl (by decide) (L' := [(2, .int (-5)), (0, .int p0), (1, .int p1)]) rfl dX8_leastCut_17 rfl ?_
    refine q_iconst cx (pc' := 19) ki_0 dX8_leastCut_18 rfl ?_
    refine q_istore_n cx (pc' := 20) rfl rfl (by decide) (L' := [(3, .int 0), (2, .int (-5)), (0, .int p0), (1, .int p1)]) rfl dX8_leastCut_19 rfl ?_
    obtain ⟨r20, hL20, h⟩ := bnd_i h
    have hk20_r : ∀ (re_20 : Int32), re_20 = r20 → some re_20 = some z := by
      intro re_20 hp
      subst hp
      exact h
    have key20 : ∀ (n : Nat) (w2_20 : Int32) (w3_20 : Int32), itr (fun s20 : Int32 × Int32 => lp_X8_leastCut_20 p0 p1 s20.1 s20.2) n (w2_20, w3_20) = some r20 → EE p l e rm_X8_leastCut s m args below meth c Q Γ 7 0 0 20 [(0, .int p0), (1, .int p1), (2, .int w2_20), (3, .int w3_20)] [] M := by
      intro n
      induction n with
      | zero => intro _ _ h; exact (itr_0 h).elim
      | succ n ih =>
        intro w2_20 w3_20 h
        obtain ⟨z20, h, hz20⟩ := itr_i h
        replace h : lp_X8_leastCut_20 p0 p1 w2_20 w3_20 = some z20 := h
        unfold lp_X8_leastCut_20 at h
        refine q_iload_n cx (pc' := 21) 3 rfl dX8_leastCut_20 rfl ?_
        refine q_bipush cx (pc' := 23) kb_16 dX8_leastCut_21 rfl ?_
        refine q_icmp_ge cx (pc' := 26) (tgt := 108) dX8_leastCut_23 (by decide) rfl (fun c23 => ?_) (fun c23 => ?_)
        · replace h := ip c23 h
          refine q_iload_n cx (pc' := 109) 2 rfl dX8_leastCut_108 rfl ?_
          replace h := hk20_r _ (hz20.2 _ h)
          cases h
          rw [hQ]
          exact q_iret cx dX8_leastCut_109
        · replace h := ine c23 h
          refine q_iconst cx (pc' := 27) ki_0 dX8_leastCut_26 rfl ?_
          refine q_istore cx (pc' := 29) rfl (by decide) (L' := [(4, .int 0), (0, .int p0), (1, .int p1), (2, .int w2_20), (3, .int w3_20)]) rfl dX8_leastCut_27 rfl ?_
          obtain ⟨r29, hL29, h⟩ := bnd_i h
          have hk29_0 : ∀ (e2_29 : Int32), e2_29 = r29 → EE p l e rm_X8_leastCut s m args below meth c Q Γ 7 0 0 102 [(0, .int p0), (1, .int p1), (2, .int e2_29), (3, .int w3_20)] [] M := by
            intro e2_29 hp
            subst hp
            obtain ⟨v3_102, ev3_102, h⟩ := nm_i h
            refine q_iinc cx (pc' := 105) 3 rfl ki_1 ev3_102 (by decide) (L' := [(3, .int v3_102), (0, .int p0), (1, .int p1), (2, .int e2_29)]) rfl dX8_leastCut_102 rfl ?_
            refine q_goto cx dX8_leastCut_105 (tgt := 20) (by decide) ?_
            refine q_sub cx [1, 2, 3, 0] rfl ?_
            exact ih _ _ (hz20.1 _ h)
          have key29 : ∀ (n : Nat) (w2_29 : Int32) (w4_29 : Int32), itr (fun s29 : Int32 × Int32 => lp_X8_leastCut_29 p0 p1 w3_20 s29.1 s29.2) n (w2_29, w4_29) = some r29 → EE p l e rm_X8_leastCut s m args below meth c Q Γ 7 0 0 29 [(0, .int p0), (1, .int p1), (2, .int w2_29), (3, .int w3_20), (4, .int w4_29)] [] M := by
            intro n
            induction n with
            | zero => intro _ _ h; exact (itr_0 h).elim
            | succ n ih =>
              intro w2_29 w4_29 h
              obtain ⟨z29, h, hz29⟩ := itr_i h
              replace h : lp_X8_leastCut_29 p0 p1 w3_20 w2_29 w4_29 = some z29 := h
              unfold lp_X8_leastCut_29 at h
              refine q_iload cx (pc' := 31) 4 rfl dX8_leastCut_29 rfl ?_
              refine q_iload_n cx (pc' := 32) 3 rfl dX8_leastCut_31 rfl ?_
              refine q_icmp_gt cx (pc' := 35) (tgt := 102) dX8_leastCut_32 (by decide) rfl (fun c32 => ?_) (fun c32 => ?_)
              · replace h := ip c32 h
                refine q_sub cx [0, 1, 2, 3] rfl ?_
                exact hk29_0 _ (hz29.2 _ h)
              · replace h := ine c32 h
                refine q_iconst cx (pc' := 36) ki_0 dX8_leastCut_35 rfl ?_
                refine q_istore cx (pc' := 38) rfl (by decide) (L' := [(5, .int 0), (0, .int p0), (1, .int p1), (2, .int w2_29), (3, .int w3_20), (4, .int w4_29)]) rfl dX8_leastCut_36 rfl ?_
                obtain ⟨r38, hL38, h⟩ := bnd_i h
                have hk38_0 : ∀ (e2_38 : Int32), e2_38 = r38 → EE p l e rm_X8_leastCut s m args below meth c Q Γ 7 0 0 96 [(0, .int p0), (1, .int p1), (2, .int e2_38), (3, .int w3_20), (4, .int w4_29)] [] M := by
                  intro e2_38 hp
                  subst hp
                  obtain ⟨v4_96, ev4_96, h⟩ := nm_i h
                  refine q_iinc cx (pc' := 99) 4 rfl ki_1 ev4_96 (by decide) (L' := [(4, .int v4_96), (0, .int p0), (1, .int p1), (2, .int e2_38), (3, .int w3_20)]) rfl dX8_leastCut_96 rfl ?_
                  refine q_goto cx dX8_leastCut_99 (tgt := 29) (by decide) ?_
                  refine q_sub cx [1, 2, 3, 4, 0] rfl ?_
                  exact ih _ _ (hz29.1 _ h)
                have key38 : ∀ (n : Nat) (w2_38 : Int32) (w5_38 : Int32), itr (fun s38 : Int32 × Int32 => lp_X8_leastCut_38 p0 p1 w3_20 w4_29 s38.1 s38.2) n (w2_38, w5_38) = some r38 → EE p l e rm_X8_leastCut s m args below meth c Q Γ 7 0 0 38 [(0, .int p0), (1, .int p1), (2, .int w2_38), (3, .int w3_20), (4, .int w4_29), (5, .int w5_38)] [] M := by
                  intro n
                  induction n with
                  | zero => intro _ _ h; exact (itr_0 h).elim
                  | succ n ih =>
                    intro w2_38 w5_38 h
                    obtain ⟨z38, h, hz38⟩ := itr_i h
                    replace h : lp_X8_leastCut_38 p0 p1 w3_20 w4_29 w2_38 w5_38 = some z38 := h
                    unfold lp_X8_leastCut_38 at h
                    refine q_iload cx (pc' := 40) 5 rfl dX8_leastCut_38 rfl ?_
                    refine q_iload cx (pc' := 42) 4 rfl dX8_leastCut_40 rfl ?_
                    refine q_icmp_gt cx (pc' := 45) (tgt := 96) dX8_leastCut_42 (by decide) rfl (fun c42 => ?_) (fun c42 => ?_)
                    · replace h := ip c42 h
                      refine q_sub cx [0, 1, 2, 3, 4] rfl ?_
                      exact hk38_0 _ (hz38.2 _ h)
                    · replace h := ine c42 h
                      refine q_iconst cx (pc' := 46) ki_1 dX8_leastCut_45 rfl ?_
                      refine q_iload_n cx (pc' := 47) 3 rfl dX8_leastCut_46 rfl ?_
                      refine q_ishl cx (pc' := 48) dX8_leastCut_47 rfl ?_
                      refine q_iconst cx (pc' := 49) ki_1 dX8_leastCut_48 rfl ?_
                      refine q_iload cx (pc' := 51) 4 rfl dX8_leastCut_49 rfl ?_
                      refine q_ishl cx (pc' := 52) dX8_leastCut_51 rfl ?_
                      refine q_ior cx (pc' := 53) dX8_leastCut_52 rfl ?_
                      refine q_iconst cx (pc' := 54) ki_1 dX8_leastCut_53 rfl ?_
                      refine q_iload cx (pc' := 56) 5 rfl dX8_leastCut_54 rfl ?_
                      refine q_ishl cx (pc' := 57) dX8_leastCut_56 rfl ?_
                      refine q_ior cx (pc' := 58) dX8_leastCut_57 rfl ?_
                      obtain ⟨v6_58, ev6_58, h⟩ := nm_i h
                      refine q_istore cx (pc' := 60) ev6_58 (by decide) (L' := [(6, .int v6_58), (0, .int p0), (1, .int p1), (2, .int w2_38), (3, .int w3_20), (4, .int w4_29), (5, .int w5_38)]) rfl dX8_leastCut_58 rfl ?_
                      refine q_iload cx (pc' := 62) 0 rfl dX8_leastCut_60 rfl ?_
                      refine q_iload_n cx (pc' := 63) 3 rfl dX8_leastCut_62 rfl ?_
                      refine q_callS cx (pc' := 66) (S := []) (S1 := [.int (fn_X8_isLess v6_58 w2_38)]) (kc' := 0) (ks' := 0) (ct_X8_isLess Γ l M v6_58 w2_38) lki_X8_isLess lkv_X8_isLess lkc_X8_320 rfl rfl (Nat.le_of_ble_eq_true rfl) ⟨(Nat.le_of_ble_eq_true rfl), (Nat.le_of_ble_eq_true rfl)⟩ ⟨(Nat.le_of_ble_eq_true rfl), (Nat.le_of_ble_eq_true rfl)⟩ dX8_leastCut_63 rfl rfl rfl ?_
                      refine q_if_eq cx (pc' := 69) (tgt := 90) dX8_leastCut_66 (by decide) rfl (fun c66 => ?_) (fun c66 => ?_)
                      · replace h := ip c66 h
                        obtain ⟨v5_90, ev5_90, h⟩ := nm_i h
                        refine q_iinc cx (pc' := 93) 6 rfl ki_1 ev5_90 (by decide) (L' := [(5, .int v5_90), (6, .int v6_58), (0, .int p0), (1, .int p1), (2, .int w2_38), (3, .int w3_20), (4, .int w4_29)]) rfl dX8_leastCut_90 rfl ?_
                        refine q_goto cx dX8_leastCut_93 (tgt := 38) (by decide) ?_
                        refine q_sub cx [2, 3, 4, 5, 6, 0] rfl ?_
                        exact ih _ _ (hz38.1 _ h)
                      · replace h := ine c66 h
                        refine q_sipush cx (pc' := 72) ks_4369 dX8_leastCut_69 rfl ?_
                        refine q_ldc cx (pc' := 74) aw_6 dX8_leastCut_72 rfl ?_
                        refine q_iload_n cx (pc' := 75) 1 rfl dX8_leastCut_74 rfl ?_
                        refine q_iload cx (pc' := 77) 0 rfl dX8_leastCut_75 rfl ?_
                        refine q_iconst cx (pc' := 78) ki_m1 dX8_leastCut_77 rfl ?_
                        refine q_ixor cx (pc' := 79) dX8_leastCut_78 rfl ?_
                        refine q_iand cx (pc' := 80) dX8_leastCut_79 rfl ?_
                        refine q_iload_n cx (pc' := 81) 2 rfl dX8_leastCut_80 rfl ?_
                        obtain ⟨c81, hc81, h⟩ := bnd_i h
                        refine q_callS cx (pc' := 84) (S := []) (S1 := [.int c81]) (kc' := 0) (ks' := 0) (ct_X8_fewest Γ l M 4369 34952 (p0 &&& (v6_58 ^^^ (-1))) p1 _ hc81) lki_X8_fewest lkv_X8_fewest lkc_X8_201 rfl rfl (Nat.le_of_ble_eq_true rfl) ⟨(Nat.le_of_ble_eq_true rfl), (Nat.le_of_ble_eq_true rfl)⟩ ⟨(Nat.le_of_ble_eq_true rfl), (Nat.le_of_ble_eq_true rfl)⟩ dX8_leastCut_81 rfl rfl rfl ?_
                        refine q_if_ge cx (pc' := 87) (tgt := 90) dX8_leastCut_84 (by decide) rfl (fun c84 => ?_) (fun c84 => ?_)
                        · replace h := ip c84 h
                          obtain ⟨v5_90, ev5_90, h⟩ := nm_i h
                          refine q_iinc cx (pc' := 93) 6 rfl ki_1 ev5_90 (by decide) (L' := [(5, .int v5_90), (6, .int v6_58), (0, .int p0), (1, .int p1), (2, .int w2_38), (3, .int w3_20), (4, .int w4_29)]) rfl dX8_leastCut_90 rfl ?_
                          refine q_goto cx dX8_leastCut_93 (tgt := 38) (by decide) ?_
                          refine q_sub cx [2, 3, 4, 5, 6, 0] rfl ?_
                          exact ih _ _ (hz38.1 _ h)
                        · replace h := ine c84 h
                          refine q_iload cx (pc' := 89) 0 rfl dX8_leastCut_87 rfl ?_
                          refine q_istore_n cx (pc' := 90) rfl rfl (by decide) (L' := [(2, .int v6_58), (6, .int v6_58), (0, .int p0), (1, .int p1), (3, .int w3_20), (4, .int w4_29), (5, .int w5_38)]) rfl dX8_leastCut_89 rfl ?_
                          obtain ⟨v5_90, ev5_90, h⟩ := nm_i h
                          refine q_iinc cx (pc' := 93) 6 rfl ki_1 ev5_90 (by decide) (L' := [(5, .int v5_90), (2, .int v6_58), (6, .int v6_58), (0, .int p0), (1, .int p1), (3, .int w3_20), (4, .int w4_29)]) rfl dX8_leastCut_90 rfl ?_
                          refine q_goto cx dX8_leastCut_93 (tgt := 38) (by decide) ?_
                          refine q_sub cx [3, 4, 1, 5, 6, 0] rfl ?_
                          exact ih _ _ (hz38.1 _ h)
                refine q_sub cx [1, 2, 3, 4, 5, 0] rfl ?_
                exact key38 FU _ _ hL38
          refine q_sub cx [1, 2, 3, 4, 0] rfl ?_
          exact key29 FU _ _ hL29
    refine q_sub cx [2, 3, 1, 0] rfl ?_
    exact key20 FU _ _ hL20
  · replace h := ine c10 h
    refine q_iconst cx (pc' := 14) ki_0 dX8_leastCut_13 rfl ?_
    cases h
    rw [hQ]
    exact q_iret cx dX8_leastCut_14

abbrev rm_X8_partOfSixteenths : Room := { frames := 1, cells := 0, slots := 0, locals := 40 }
def lp_X8_partOfSixteenths_5 (w0_5 : Int32) (w2_5 : Int32) (w3_5 : Int32) : Option ((Int32 × Int32 × Int32) ⊕ (Int32 × Int32)) :=
  if 4 ≤ w3_5 then
    some (.inr (w0_5, w2_5))
  else
    if (w0_5 - w0_5 / 2 * 2) = 0 then
      if w2_5 ≤ 1 then
        some (.inr (w0_5, w2_5))
      else
        nm (w0_5 / 2) fun v0_24 =>
        nm (w2_5 / 2) fun v2_28 =>
        nm (w3_5 + 1) fun v3_29 =>
        some (.inl (v0_24, v2_28, v3_29))
    else
      some (.inr (w0_5, w2_5))
def fn_X8_partOfSixteenths (p0 : Int32) (p1 : Int32) : Option Int64 :=
  bnd (itr (fun s5 : Int32 × Int32 × Int32 => lp_X8_partOfSixteenths_5 s5.1 s5.2.1 s5.2.2) FU (p0, 16, 0)) fun r5 =>
  pr2 r5 fun e0_5 e2_5 =>
  if p1 = 0 then
    some e0_5.toInt64
  else
    some e2_5.toInt64
set_option maxRecDepth 100000 in
set_option maxHeartbeats 4000000 in
theorem ct_X8_partOfSixteenths (Γ : GT) (l : Launch) (M : QM) (p0 : Int32) (p1 : Int32) (z : Int64) (h : fn_X8_partOfSixteenths p0 p1 = some z) : CT Γ l yX8_partOfSixteenths cX8_partOfSixteenths 4 (some .long) rm_X8_partOfSixteenths [.int p0, .int p1] M (some (.long z)) M := by
  refine ct_intro (own := RX8) (L := [(0, .int p0), (1, .int p1)]) (by decide +kernel) rfl (Nat.le_of_ble_eq_true rfl) rfl ?_
  intro p e s m args below meth c Q hQ cx hnm
  unfold fn_X8_partOfSixteenths at h
  refine q_bipush cx (pc' := 2) kb_16 dX8_partOfSixteenths_0 rfl ?_
  refine q_istore_n cx (pc' := 3) rfl rfl (by decide) (L' := [(2, .int 16), (0, .int p0), (1, .int p1)]) rfl dX8_partOfSixteenths_2 rfl ?_
  refine q_iconst cx (pc' := 4) ki_0 dX8_partOfSixteenths_3 rfl ?_
  refine q_istore_n cx (pc' := 5) rfl rfl (by decide) (L' := [(3, .int 0), (2, .int 16), (0, .int p0), (1, .int p1)]) rfl dX8_partOfSixteenths_4 rfl ?_
  obtain ⟨r5, hL5, h⟩ := bnd_i h
  have hk5_0 : ∀ (e0_5 : Int32) (e2_5 : Int32), (e0_5, e2_5) = r5 → EE p l e rm_X8_partOfSixteenths s m args below meth c Q Γ 4 0 0 35 [(0, .int e0_5), (1, .int p1), (2, .int e2_5)] [] M := by
    intro e0_5 e2_5 hp
    subst hp
    replace h := pr2_i h
    refine q_iload_n cx (pc' := 36) 1 rfl dX8_partOfSixteenths_35 rfl ?_
    refine q_if_ne cx (pc' := 39) (tgt := 44) dX8_partOfSixteenths_36 (by decide) rfl (fun c36 => ?_) (fun c36 => ?_)
    · replace h := ine c36 h
      refine q_iload_n cx (pc' := 45) 2 rfl dX8_partOfSixteenths_44 rfl ?_
      refine q_i2l cx (pc' := 46) dX8_partOfSixteenths_45 rfl ?_
      cases h
      rw [hQ]
      exact q_lret cx dX8_partOfSixteenths_46
    · replace h := ip c36 h
      refine q_iload_n cx (pc' := 40) 0 rfl dX8_partOfSixteenths_39 rfl ?_
      refine q_i2l cx (pc' := 41) dX8_partOfSixteenths_40 rfl ?_
      refine q_goto cx dX8_partOfSixteenths_41 (tgt := 46) (by decide) ?_
      cases h
      rw [hQ]
      exact q_lret cx dX8_partOfSixteenths_46
  have key5 : ∀ (n : Nat) (w0_5 : Int32) (w2_5 : Int32) (w3_5 : Int32), itr (fun s5 : Int32 × Int32 × Int32 => lp_X8_partOfSixteenths_5 s5.1 s5.2.1 s5.2.2) n (w0_5, w2_5, w3_5) = some r5 → EE p l e rm_X8_partOfSixteenths s m args below meth c Q Γ 4 0 0 5 [(0, .int w0_5), (1, .int p1), (2, .int w2_5), (3, .int w3_5)] [] M := by
    intro n
    induction n with
    | zero => intro _ _ _ h; exact (itr_0 h).elim
    | succ n ih =>
      intro w0_5 w2_5 w3_5 h
      obtain ⟨z5, h, hz5⟩ := itr_i h
      replace h : lp_X8_partOfSixteenths_5 w0_5 w2_5 w3_5 = some z5 := h
      unfold lp_X8_partOfSixteenths_5 at h
      refine q_iload_n cx (pc' := 6) 3 rfl dX8_partOfSixteenths_5 rfl ?_
      refine q_iconst cx (pc' := 7) ki_4 dX8_partOfSixteenths_6 rfl ?_
      refine q_icmp_ge cx (pc' := 10) (tgt := 35) dX8_partOfSixteenths_7 (by decide) rfl (fun c7 => ?_) (fun c7 => ?_)
      · replace h := ip c7 h
        refine q_sub cx [0, 1, 2] rfl ?_
        exact hk5_0 _ _ (hz5.2 _ h)
      · replace h := ine c7 h
        refine q_iload_n cx (pc' := 11) 0 rfl dX8_partOfSixteenths_10 rfl ?_
        refine q_iconst cx (pc' := 12) ki_2 dX8_partOfSixteenths_11 rfl ?_
        refine q_irem cx (pc' := 13) (by decide) dX8_partOfSixteenths_12 rfl ?_
        refine q_if_ne cx (pc' := 16) (tgt := 35) dX8_partOfSixteenths_13 (by decide) rfl (fun c13 => ?_) (fun c13 => ?_)
        · replace h := ine c13 h
          refine q_sub cx [0, 1, 2] rfl ?_
          exact hk5_0 _ _ (hz5.2 _ h)
        · replace h := ip c13 h
          refine q_iload_n cx (pc' := 17) 2 rfl dX8_partOfSixteenths_16 rfl ?_
          refine q_iconst cx (pc' := 18) ki_1 dX8_partOfSixteenths_17 rfl ?_
          refine q_icmp_le cx (pc' := 21) (tgt := 35) dX8_partOfSixteenths_18 (by decide) rfl (fun c18 => ?_) (fun c18 => ?_)
          · replace h := ip c18 h
            refine q_sub cx [0, 1, 2] rfl ?_
            exact hk5_0 _ _ (hz5.2 _ h)
          · replace h := ine c18 h
            refine q_iload_n cx (pc' := 22) 0 rfl dX8_partOfSixteenths_21 rfl ?_
            refine q_iconst cx (pc' := 23) ki_2 dX8_partOfSixteenths_22 rfl ?_
            refine q_idiv cx (pc' := 24) (by decide) dX8_partOfSixteenths_23 rfl ?_
            obtain ⟨v0_24, ev0_24, h⟩ := nm_i h
            refine q_istore_n cx (pc' := 25) rfl ev0_24 (by decide) (L' := [(0, .int v0_24), (1, .int p1), (2, .int w2_5), (3, .int w3_5)]) rfl dX8_partOfSixteenths_24 rfl ?_
            refine q_iload_n cx (pc' := 26) 2 rfl dX8_partOfSixteenths_25 rfl ?_
            refine q_iconst cx (pc' := 27) ki_2 dX8_partOfSixteenths_26 rfl ?_
            refine q_idiv cx (pc' := 28) (by decide) dX8_partOfSixteenths_27 rfl ?_
            obtain ⟨v2_28, ev2_28, h⟩ := nm_i h
            refine q_istore_n cx (pc' := 29) rfl ev2_28 (by decide) (L' := [(2, .int v2_28), (0, .int v0_24), (1, .int p1), (3, .int w3_5)]) rfl dX8_partOfSixteenths_28 rfl ?_
            obtain ⟨v3_29, ev3_29, h⟩ := nm_i h
            refine q_iinc cx (pc' := 32) 3 rfl ki_1 ev3_29 (by decide) (L' := [(3, .int v3_29), (2, .int v2_28), (0, .int v0_24), (1, .int p1)]) rfl dX8_partOfSixteenths_29 rfl ?_
            refine q_goto cx dX8_partOfSixteenths_32 (tgt := 5) (by decide) ?_
            refine q_sub cx [2, 3, 1, 0] rfl ?_
            exact ih _ _ _ (hz5.1 _ h)
  refine q_sub cx [2, 3, 1, 0] rfl ?_
  exact key5 FU _ _ _ hL5

abbrev rm_X8_firstAt : Room := { frames := 3, cells := 0, slots := 0, locals := 88 }
def lp_X8_firstAt_3 (p0 : Int32) (p1 : Int32) (p2 : Int32) (p3 : Int32) (w4_3 : Int32) : Option ((Int32) ⊕ (Int32)) :=
  if 16 ≤ w4_3 then
    some (.inr (-5))
  else
    if (p0 &&& (1 <<< (w4_3 &&& 31))) = 0 then
      nm (w4_3 + 1) fun v4_37 =>
      some (.inl v4_37)
    else
      bnd (fn_X8_fewest (1 <<< (w4_3 &&& 31)) 34952 p2 p3) fun c27 =>
      if c27 = p1 then
        some (.inr w4_3)
      else
        nm (w4_3 + 1) fun v4_37 =>
        some (.inl v4_37)
def fn_X8_firstAt (p0 : Int32) (p1 : Int32) (p2 : Int32) (p3 : Int32) : Option Int32 :=
  bnd (itr (fun s3 : Int32 => lp_X8_firstAt_3 p0 p1 p2 p3 s3) FU 0) fun re_3 =>
  some re_3
set_option maxRecDepth 100000 in
set_option maxHeartbeats 4000000 in
theorem ct_X8_firstAt (Γ : GT) (l : Launch) (M : QM) (p0 : Int32) (p1 : Int32) (p2 : Int32) (p3 : Int32) (z : Int32) (h : fn_X8_firstAt p0 p1 p2 p3 = some z) : CT Γ l yX8_firstAt cX8_firstAt 5 (some .int) rm_X8_firstAt [.int p0, .int p1, .int p2, .int p3] M (some (.int z)) M := by
  refine ct_intro (own := RX8) (L := [(0, .int p0), (1, .int p1), (2, .int p2), (3, .int p3)]) (by decide +kernel) rfl (Nat.le_of_ble_eq_true rfl) rfl ?_
  intro p e s m args below meth c Q hQ cx hnm
  unfold fn_X8_firstAt at h
  refine q_iconst cx (pc' := 1) ki_0 dX8_firstAt_0 rfl ?_
  refine q_istore cx (pc' := 3) rfl (by decide) (L' := [(4, .int 0), (0, .int p0), (1, .int p1), (2, .int p2), (3, .int p3)]) rfl dX8_firstAt_1 rfl ?_
  obtain ⟨r3, hL3, h⟩ := bnd_i h
  have hk3_r : ∀ (re_3 : Int32), re_3 = r3 → some re_3 = some z := by
    intro re_3 hp
    subst hp
    exact h
  have key3 : ∀ (n : Nat) (w4_3 : Int32), itr (fun s3 : Int32 => lp_X8_firstAt_3 p0 p1 p2 p3 s3) n w4_3 = some r3 → EE p l e rm_X8_firstAt s m args below meth c Q Γ 5 0 0 3 [(0, .int p0), (1, .int p1), (2, .int p2), (3, .int p3), (4, .int w4_3)] [] M := by
    intro n
    induction n with
    | zero => intro _ h; exact (itr_0 h).elim
    | succ n ih =>
      intro w4_3 h
      obtain ⟨z3, h, hz3⟩ := itr_i h
      replace h : lp_X8_firstAt_3 p0 p1 p2 p3 w4_3 = some z3 := h
      unfold lp_X8_firstAt_3 at h
      refine q_iload cx (pc' := 5) 4 rfl dX8_firstAt_3 rfl ?_
      refine q_bipush cx (pc' := 7) kb_16 dX8_firstAt_5 rfl ?_
      refine q_icmp_ge cx (pc' := 10) (tgt := 43) dX8_firstAt_7 (by decide) rfl (fun c7 => ?_) (fun c7 => ?_)
      · replace h := ip c7 h
        refine q_bipush cx (pc' := 45) kb_m5 dX8_firstAt_43 rfl ?_
        replace h := hk3_r _ (hz3.2 _ h)
        cases h
        rw [hQ]
        exact q_iret cx dX8_firstAt_45
      · replace h := ine c7 h
        refine q_iload_n cx (pc' := 11) 0 rfl dX8_firstAt_10 rfl ?_
        refine q_iconst cx (pc' := 12) ki_1 dX8_firstAt_11 rfl ?_
        refine q_iload cx (pc' := 14) 4 rfl dX8_firstAt_12 rfl ?_
        refine q_ishl cx (pc' := 15) dX8_firstAt_14 rfl ?_
        refine q_iand cx (pc' := 16) dX8_firstAt_15 rfl ?_
        refine q_if_eq cx (pc' := 19) (tgt := 37) dX8_firstAt_16 (by decide) rfl (fun c16 => ?_) (fun c16 => ?_)
        · replace h := ip c16 h
          obtain ⟨v4_37, ev4_37, h⟩ := nm_i h
          refine q_iinc cx (pc' := 40) 4 rfl ki_1 ev4_37 (by decide) (L' := [(4, .int v4_37), (0, .int p0), (1, .int p1), (2, .int p2), (3, .int p3)]) rfl dX8_firstAt_37 rfl ?_
          refine q_goto cx dX8_firstAt_40 (tgt := 3) (by decide) ?_
          refine q_sub cx [1, 2, 3, 4, 0] rfl ?_
          exact ih _ (hz3.1 _ h)
        · replace h := ine c16 h
          refine q_iconst cx (pc' := 20) ki_1 dX8_firstAt_19 rfl ?_
          refine q_iload cx (pc' := 22) 4 rfl dX8_firstAt_20 rfl ?_
          refine q_ishl cx (pc' := 23) dX8_firstAt_22 rfl ?_
          refine q_ldc cx (pc' := 25) aw_6 dX8_firstAt_23 rfl ?_
          refine q_iload_n cx (pc' := 26) 2 rfl dX8_firstAt_25 rfl ?_
          refine q_iload_n cx (pc' := 27) 3 rfl dX8_firstAt_26 rfl ?_
          obtain ⟨c27, hc27, h⟩ := bnd_i h
          refine q_callS cx (pc' := 30) (S := []) (S1 := [.int c27]) (kc' := 0) (ks' := 0) (ct_X8_fewest Γ l M (1 <<< (w4_3 &&& 31)) 34952 p2 p3 _ hc27) lki_X8_fewest lkv_X8_fewest lkc_X8_201 rfl rfl (Nat.le_of_ble_eq_true rfl) ⟨(Nat.le_of_ble_eq_true rfl), (Nat.le_of_ble_eq_true rfl)⟩ ⟨(Nat.le_of_ble_eq_true rfl), (Nat.le_of_ble_eq_true rfl)⟩ dX8_firstAt_27 rfl rfl rfl ?_
          refine q_iload_n cx (pc' := 31) 1 rfl dX8_firstAt_30 rfl ?_
          refine q_icmp_ne cx (pc' := 34) (tgt := 37) dX8_firstAt_31 (by decide) rfl (fun c31 => ?_) (fun c31 => ?_)
          · replace h := ine c31 h
            obtain ⟨v4_37, ev4_37, h⟩ := nm_i h
            refine q_iinc cx (pc' := 40) 4 rfl ki_1 ev4_37 (by decide) (L' := [(4, .int v4_37), (0, .int p0), (1, .int p1), (2, .int p2), (3, .int p3)]) rfl dX8_firstAt_37 rfl ?_
            refine q_goto cx dX8_firstAt_40 (tgt := 3) (by decide) ?_
            refine q_sub cx [1, 2, 3, 4, 0] rfl ?_
            exact ih _ (hz3.1 _ h)
          · replace h := ip c31 h
            refine q_iload cx (pc' := 36) 4 rfl dX8_firstAt_34 rfl ?_
            replace h := hk3_r _ (hz3.2 _ h)
            cases h
            rw [hQ]
            exact q_iret cx dX8_firstAt_36
  refine q_sub cx [1, 2, 3, 4, 0] rfl ?_
  exact key3 FU _ hL3
