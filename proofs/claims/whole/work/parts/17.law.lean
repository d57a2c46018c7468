def jn_L_law_885_18 (NL : Nat) (xs : Nat → Int32) (j3_885 : Int32) (js0_885 : Int32) (js1_885 : Int32) (js2_885 : Nat) (js3_885 : Int32) (Mj_885 : QM) : Option ((Int32 × QM) ⊕ (Int32 × QM)) :=
  scA NL xs (j3_885 + 3) fun x889 =>
  ck Mj_885 js2_885 9 <|
  bnd (fn_X9_see Mj_885 js2_885 js1_885 js0_885 x889) fun y890 =>
  pr2 y890 fun c890 M890 =>
  if js3_885 = c890 then
    nm (j3_885 + 6) fun v3_1581 =>
    some (.inl (v3_1581, M890))
  else
    some (.inr (0, M890))
def jn_L_law_858_18 (NL : Nat) (xs : Nat → Int32) (r8 : Nat) (j3_858 : Int32) (js0_858 : Int32) (js1_858 : Int32) (js2_858 : Nat) (Mj_858 : QM) : Option ((Int32 × QM) ⊕ (Int32 × QM)) :=
  scA NL xs (j3_858 + 3) fun x862 =>
  ck Mj_858 js2_858 8 <|
  bnd (fn_X8_see Mj_858 js2_858 js1_858 js0_858 x862) fun y863 =>
  pr2 y863 fun c863 M863 =>
  scA NL xs (j3_858 + 1) fun x871 =>
  scA NL xs (j3_858 + 2) fun x876 =>
  if x876 = 0 then
    jn_L_law_885_18 NL xs j3_858 0 x871 r8 c863 M863
  else
    jn_L_law_885_18 NL xs j3_858 1 x871 r8 c863 M863
def lp_L_law_18 (NL : Nat) (xs : Nat → Int32) (r0 : Nat) (r8 : Nat) (w3_18 : Int32) (Mw_18 : QM) : Option ((Int32 × QM) ⊕ (Int32 × QM)) :=
  if ((Int32.ofNat NL) - 6) < w3_18 then
    some (.inr (1, Mw_18))
  else
    scA NL xs w3_18 fun x29 =>
    nm (x29 &&& 63) fun s33 =>
    if s33 = 0 then
      scA NL xs (w3_18 + 1) fun x221 =>
      scA NL xs (w3_18 + 2) fun x226 =>
      scA NL xs (w3_18 + 3) fun x231 =>
      ck Mw_18 r0 8 <|
      bnd (fn_X8_walker Mw_18 r0 x221 x226 x231) fun y232 =>
      pr2 y232 fun c232 M232 =>
      scA NL xs (w3_18 + 1) fun x240 =>
      scA NL xs (w3_18 + 2) fun x245 =>
      scA NL xs (w3_18 + 3) fun x250 =>
      ck M232 r8 9 <|
      bnd (fn_X9_walker M232 r8 x240 x245 x250) fun y251 =>
      pr2 y251 fun c251 M251 =>
      if c232 = c251 then
        nm (w3_18 + 6) fun v3_1581 =>
        some (.inl (v3_1581, M251))
      else
        some (.inr (0, M251))
    else if s33 = 1 then
      scA NL xs (w3_18 + 1) fun x264 =>
      scA NL xs (w3_18 + 2) fun x269 =>
      ck Mw_18 r0 8 <|
      bnd (fn_X8_of Mw_18 r0 x264 x269) fun c270 =>
      scA NL xs (w3_18 + 1) fun x278 =>
      scA NL xs (w3_18 + 2) fun x283 =>
      ck Mw_18 r8 9 <|
      bnd (fn_X9_of Mw_18 r8 x278 x283) fun y284 =>
      pr2 y284 fun c284 M284 =>
      if c270 = c284 then
        nm (w3_18 + 6) fun v3_1581 =>
        some (.inl (v3_1581, M284))
      else
        some (.inr (0, M284))
    else if s33 = 2 then
      scA NL xs (w3_18 + 1) fun x297 =>
      scA NL xs (w3_18 + 2) fun x302 =>
      ck Mw_18 r0 8 <|
      bnd (fn_X8_at Mw_18 r0 x297 x302) fun c303 =>
      scA NL xs (w3_18 + 1) fun x311 =>
      scA NL xs (w3_18 + 2) fun x316 =>
      ck Mw_18 r8 9 <|
      bnd (fn_X9_at Mw_18 r8 x311 x316) fun y317 =>
      pr2 y317 fun c317 M317 =>
      if c303 = c317 then
        nm (w3_18 + 6) fun v3_1581 =>
        some (.inl (v3_1581, M317))
      else
        some (.inr (0, M317))
    else if s33 = 3 then
      scA NL xs (w3_18 + 1) fun x330 =>
      scA NL xs (w3_18 + 2) fun x335 =>
      ck Mw_18 r0 8 <|
      bnd (fn_X8_set Mw_18 r0 x330 x335) fun y336 =>
      pr2 y336 fun c336 M336 =>
      scA NL xs (w3_18 + 1) fun x344 =>
      scA NL xs (w3_18 + 2) fun x349 =>
      ck M336 r8 9 <|
      bnd (fn_X9_set M336 r8 x344 x349) fun y350 =>
      pr2 y350 fun c350 M350 =>
      if c336 = c350 then
        nm (w3_18 + 6) fun v3_1581 =>
        some (.inl (v3_1581, M350))
      else
        some (.inr (0, M350))
    else if s33 = 4 then
      scA NL xs (w3_18 + 1) fun x363 =>
      scA NL xs (w3_18 + 2) fun x368 =>
      ck Mw_18 r0 8 <|
      bnd (fn_X8_weigh Mw_18 r0 x363 x368) fun y369 =>
      pr2 y369 fun c369 M369 =>
      scA NL xs (w3_18 + 1) fun x377 =>
      scA NL xs (w3_18 + 2) fun x382 =>
      ck M369 r8 9 <|
      bnd (fn_X9_weigh M369 r8 x377 x382) fun y383 =>
      pr2 y383 fun c383 M383 =>
      if c369 = c383 then
        nm (w3_18 + 6) fun v3_1581 =>
        some (.inl (v3_1581, M383))
      else
        some (.inr (0, M383))
    else if s33 = 5 then
      scA NL xs (w3_18 + 1) fun x396 =>
      scA NL xs (w3_18 + 2) fun x401 =>
      scA NL xs (w3_18 + 3) fun x406 =>
      ck Mw_18 r0 8 <|
      bnd (fn_X8_line Mw_18 r0 x396 x401 x406) fun y407 =>
      pr2 y407 fun c407 M407 =>
      scA NL xs (w3_18 + 1) fun x415 =>
      scA NL xs (w3_18 + 2) fun x420 =>
      scA NL xs (w3_18 + 3) fun x425 =>
      ck M407 r8 9 <|
      bnd (fn_X9_line M407 r8 x415 x420 x425) fun y426 =>
      pr2 y426 fun c426 M426 =>
      if c407 = c426 then
        nm (w3_18 + 6) fun v3_1581 =>
        some (.inl (v3_1581, M426))
      else
        some (.inr (0, M426))
    else if s33 = 6 then
      scA NL xs (w3_18 + 1) fun x439 =>
      ck Mw_18 r0 8 <|
      bnd (fn_X8_milk Mw_18 r0 x439) fun y440 =>
      pr2 y440 fun c440 M440 =>
      scA NL xs (w3_18 + 1) fun x448 =>
      ck M440 r8 9 <|
      bnd (fn_X9_milk M440 r8 x448) fun y449 =>
      pr2 y449 fun c449 M449 =>
      if c440 = c449 then
        nm (w3_18 + 6) fun v3_1581 =>
        some (.inl (v3_1581, M449))
      else
        some (.inr (0, M449))
    else if s33 = 7 then
      scA NL xs (w3_18 + 1) fun x462 =>
      scA NL xs (w3_18 + 2) fun x467 =>
      ck Mw_18 r0 8 <|
      bnd (fn_X8_stir Mw_18 r0 x462 x467) fun y468 =>
      pr2 y468 fun c468 M468 =>
      scA NL xs (w3_18 + 1) fun x476 =>
      scA NL xs (w3_18 + 2) fun x481 =>
      ck M468 r8 9 <|
      bnd (fn_X9_stir M468 r8 x476 x481) fun y482 =>
      pr2 y482 fun c482 M482 =>
      if c468 = c482 then
        nm (w3_18 + 6) fun v3_1581 =>
        some (.inl (v3_1581, M482))
      else
        some (.inr (0, M482))
    else if s33 = 8 then
      scA NL xs (w3_18 + 1) fun x495 =>
      ck Mw_18 r0 8 <|
      bnd (fn_X8_feed Mw_18 r0 x495) fun y496 =>
      pr2 y496 fun c496 M496 =>
      scA NL xs (w3_18 + 1) fun x504 =>
      ck M496 r8 9 <|
      bnd (fn_X9_feed M496 r8 x504) fun y505 =>
      pr2 y505 fun c505 M505 =>
      if c496 = c505 then
        nm (w3_18 + 6) fun v3_1581 =>
        some (.inl (v3_1581, M505))
      else
        some (.inr (0, M505))
    else if s33 = 9 then
      ck Mw_18 r0 8 <|
      bnd (fn_X8_brew Mw_18 r0) fun y514 =>
      pr2 y514 fun c514 M514 =>
      ck M514 r8 9 <|
      bnd (fn_X9_brew M514 r8) fun y518 =>
      pr2 y518 fun c518 M518 =>
      if c514 = c518 then
        nm (w3_18 + 6) fun v3_1581 =>
        some (.inl (v3_1581, M518))
      else
        some (.inr (0, M518))
    else if s33 = 10 then
      scA NL xs (w3_18 + 1) fun x531 =>
      ck Mw_18 r0 8 <|
      bnd (fn_X8_told Mw_18 r0 x531) fun c532 =>
      scA NL xs (w3_18 + 1) fun x540 =>
      ck Mw_18 r8 9 <|
      bnd (fn_X9_told Mw_18 r8 x540) fun y541 =>
      pr2 y541 fun c541 M541 =>
      if c532 = c541 then
        nm (w3_18 + 6) fun v3_1581 =>
        some (.inl (v3_1581, M541))
      else
        some (.inr (0, M541))
    else if s33 = 11 then
      scA NL xs (w3_18 + 1) fun x554 =>
      ck Mw_18 r0 8 <|
      bnd (fn_X8_pass Mw_18 r0 x554) fun y555 =>
      pr2 y555 fun c555 M555 =>
      scA NL xs (w3_18 + 1) fun x563 =>
      ck M555 r8 9 <|
      bnd (fn_X9_pass M555 r8 x563) fun y564 =>
      pr2 y564 fun c564 M564 =>
      if c555 = c564 then
        nm (w3_18 + 6) fun v3_1581 =>
        some (.inl (v3_1581, M564))
      else
        some (.inr (0, M564))
    else if s33 = 12 then
      scA NL xs (w3_18 + 1) fun x577 =>
      scA NL xs (w3_18 + 2) fun x582 =>
      ck Mw_18 r0 8 <|
      bnd (fn_X8_on Mw_18 r0 x577 x582) fun y583 =>
      pr2 y583 fun c583 M583 =>
      scA NL xs (w3_18 + 1) fun x591 =>
      scA NL xs (w3_18 + 2) fun x596 =>
      ck M583 r8 9 <|
      bnd (fn_X9_on M583 r8 x591 x596) fun y597 =>
      pr2 y597 fun c597 M597 =>
      if c583 = c597 then
        nm (w3_18 + 6) fun v3_1581 =>
        some (.inl (v3_1581, M597))
      else
        some (.inr (0, M597))
    else if s33 = 13 then
      scA NL xs (w3_18 + 1) fun x610 =>
      ck Mw_18 r0 8 <|
      bnd (fn_X8_soon Mw_18 r0 x610) fun y611 =>
      pr2 y611 fun c611 M611 =>
      scA NL xs (w3_18 + 1) fun x619 =>
      ck M611 r8 9 <|
      bnd (fn_X9_soon M611 r8 x619) fun y620 =>
      pr2 y620 fun c620 M620 =>
      if c611 = c620 then
        nm (w3_18 + 6) fun v3_1581 =>
        some (.inl (v3_1581, M620))
      else
        some (.inr (0, M620))
    else if s33 = 14 then
      scA NL xs (w3_18 + 1) fun x633 =>
      scA NL xs (w3_18 + 2) fun x638 =>
      ck Mw_18 r0 8 <|
      bnd (fn_X8_way Mw_18 r0 x633 x638) fun c639 =>
      scA NL xs (w3_18 + 1) fun x647 =>
      scA NL xs (w3_18 + 2) fun x652 =>
      ck Mw_18 r8 9 <|
      bnd (fn_X9_way Mw_18 r8 x647 x652) fun y653 =>
      pr2 y653 fun c653 M653 =>
      if c639 = c653 then
        nm (w3_18 + 6) fun v3_1581 =>
        some (.inl (v3_1581, M653))
      else
        some (.inr (0, M653))
    else if s33 = 15 then
      scA NL xs (w3_18 + 1) fun x666 =>
      scA NL xs (w3_18 + 2) fun x671 =>
      scA NL xs (w3_18 + 3) fun x676 =>
      ck Mw_18 r0 8 <|
      bnd (fn_X8_reach Mw_18 r0 x666 x671 x676) fun c677 =>
      scA NL xs (w3_18 + 1) fun x685 =>
      scA NL xs (w3_18 + 2) fun x690 =>
      scA NL xs (w3_18 + 3) fun x695 =>
      ck Mw_18 r8 9 <|
      bnd (fn_X9_reach Mw_18 r8 x685 x690 x695) fun y696 =>
      pr2 y696 fun c696 M696 =>
      if c677 = c696 then
        nm (w3_18 + 6) fun v3_1581 =>
        some (.inl (v3_1581, M696))
      else
        some (.inr (0, M696))
    else if s33 = 16 then
      scA NL xs (w3_18 + 1) fun x709 =>
      ck Mw_18 r0 8 <|
      bnd (fn_X8_heaviest Mw_18 r0 x709) fun y710 =>
      pr2 y710 fun c710 M710 =>
      scA NL xs (w3_18 + 1) fun x718 =>
      ck M710 r8 9 <|
      bnd (fn_X9_heaviest M710 r8 x718) fun y719 =>
      pr2 y719 fun c719 M719 =>
      if c710 = c719 then
        nm (w3_18 + 6) fun v3_1581 =>
        some (.inl (v3_1581, M719))
      else
        some (.inr (0, M719))
    else if s33 = 17 then
      scA NL xs (w3_18 + 1) fun x732 =>
      scA NL xs (w3_18 + 2) fun x737 =>
      ck Mw_18 r0 8 <|
      bnd (fn_X8_cut Mw_18 r0 x732 x737) fun c738 =>
      scA NL xs (w3_18 + 1) fun x746 =>
      scA NL xs (w3_18 + 2) fun x751 =>
      ck Mw_18 r8 9 <|
      bnd (fn_X9_cut Mw_18 r8 x746 x751) fun y752 =>
      pr2 y752 fun c752 M752 =>
      if c738 = c752 then
        nm (w3_18 + 6) fun v3_1581 =>
        some (.inl (v3_1581, M752))
      else
        some (.inr (0, M752))
    else if s33 = 18 then
      scA NL xs (w3_18 + 1) fun x765 =>
      ck Mw_18 r0 8 <|
      bnd (fn_X8_stirred Mw_18 r0 x765) fun y766 =>
      pr2 y766 fun c766 M766 =>
      scA NL xs (w3_18 + 1) fun x774 =>
      ck M766 r8 9 <|
      bnd (fn_X9_stirred M766 r8 x774) fun y775 =>
      pr2 y775 fun c775 M775 =>
      if c766 = c775 then
        nm (w3_18 + 6) fun v3_1581 =>
        some (.inl (v3_1581, M775))
      else
        some (.inr (0, M775))
    else if s33 = 19 then
      scA NL xs (w3_18 + 1) fun x788 =>
      scA NL xs (w3_18 + 2) fun x793 =>
      ck Mw_18 r0 8 <|
      bnd (fn_X8_meet Mw_18 r0 x788 x793) fun c794 =>
      scA NL xs (w3_18 + 1) fun x802 =>
      scA NL xs (w3_18 + 2) fun x807 =>
      ck Mw_18 r8 9 <|
      bnd (fn_X9_meet Mw_18 r8 x802 x807) fun y808 =>
      pr2 y808 fun c808 M808 =>
      if c794 = c808 then
        nm (w3_18 + 6) fun v3_1581 =>
        some (.inl (v3_1581, M808))
      else
        some (.inr (0, M808))
    else if s33 = 20 then
      scA NL xs (w3_18 + 1) fun x821 =>
      ck Mw_18 r0 8 <|
      bnd (fn_X8_print Mw_18 r0 x821) fun y822 =>
      pr2 y822 fun c822 M822 =>
      scA NL xs (w3_18 + 1) fun x830 =>
      ck M822 r8 9 <|
      bnd (fn_X9_print M822 r8 x830) fun y831 =>
      pr2 y831 fun c831 M831 =>
      if c822 = c831 then
        nm (w3_18 + 6) fun v3_1581 =>
        some (.inl (v3_1581, M831))
      else
        some (.inr (0, M831))
    else if s33 = 21 then
      scA NL xs (w3_18 + 1) fun x844 =>
      scA NL xs (w3_18 + 2) fun x849 =>
      if x849 = 0 then
        jn_L_law_858_18 NL xs r8 w3_18 0 x844 r0 Mw_18
      else
        jn_L_law_858_18 NL xs r8 w3_18 1 x844 r0 Mw_18
    else if s33 = 22 then
      scA NL xs (w3_18 + 1) fun x903 =>
      scA NL xs (w3_18 + 2) fun x908 =>
      ck Mw_18 r0 8 <|
      bnd (fn_X8_heft Mw_18 r0 x903 x908) fun y909 =>
      pr2 y909 fun c909 M909 =>
      scA NL xs (w3_18 + 1) fun x917 =>
      scA NL xs (w3_18 + 2) fun x922 =>
      ck M909 r8 9 <|
      bnd (fn_X9_heft M909 r8 x917 x922) fun y923 =>
      pr2 y923 fun c923 M923 =>
      if c909 = c923 then
        nm (w3_18 + 6) fun v3_1581 =>
        some (.inl (v3_1581, M923))
      else
        some (.inr (0, M923))
    else if s33 = 23 then
      scA NL xs (w3_18 + 1) fun x936 =>
      scA NL xs (w3_18 + 2) fun x941 =>
      ck Mw_18 r0 8 <|
      bnd (fn_X8_can Mw_18 r0 x936 x941) fun y942 =>
      pr2 y942 fun c942 M942 =>
      scA NL xs (w3_18 + 1) fun x950 =>
      scA NL xs (w3_18 + 2) fun x955 =>
      ck M942 r8 9 <|
      bnd (fn_X9_can M942 r8 x950 x955) fun y956 =>
      pr2 y956 fun c956 M956 =>
      if c942 = c956 then
        nm (w3_18 + 6) fun v3_1581 =>
        some (.inl (v3_1581, M956))
      else
        some (.inr (0, M956))
    else if s33 = 24 then
      scA NL xs (w3_18 + 1) fun x969 =>
      scA NL xs (w3_18 + 2) fun x974 =>
      scA NL xs (w3_18 + 3) fun x979 =>
      scA NL xs (w3_18 + 4) fun x984 =>
      ck Mw_18 r0 8 <|
      bnd (fn_X8_was Mw_18 r0 x969 x974 x979 x984) fun y985 =>
      pr2 y985 fun c985 M985 =>
      scA NL xs (w3_18 + 1) fun x993 =>
      scA NL xs (w3_18 + 2) fun x998 =>
      scA NL xs (w3_18 + 3) fun x1003 =>
      scA NL xs (w3_18 + 4) fun x1008 =>
      ck M985 r8 9 <|
      bnd (fn_X9_was M985 r8 x993 x998 x1003 x1008) fun y1009 =>
      pr2 y1009 fun c1009 M1009 =>
      if c985 = c1009 then
        nm (w3_18 + 6) fun v3_1581 =>
        some (.inl (v3_1581, M1009))
      else
        some (.inr (0, M1009))
    else if s33 = 25 then
      scA NL xs (w3_18 + 1) fun x1022 =>
      scA NL xs (w3_18 + 2) fun x1027 =>
      ck Mw_18 r0 8 <|
      bnd (fn_X8_odds Mw_18 r0 x1022 x1027) fun y1028 =>
      pr2 y1028 fun c1028 M1028 =>
      scA NL xs (w3_18 + 1) fun x1036 =>
      scA NL xs (w3_18 + 2) fun x1041 =>
      ck M1028 r8 9 <|
      bnd (fn_X9_odds M1028 r8 x1036 x1041) fun y1042 =>
      pr2 y1042 fun c1042 M1042 =>
      if (lg_cmp c1028 c1042) = 0 then
        nm (w3_18 + 6) fun v3_1581 =>
        some (.inl (v3_1581, M1042))
      else
        some (.inr (0, M1042))
    else if s33 = 26 then
      scA NL xs (w3_18 + 1) fun x1056 =>
      scA NL xs (w3_18 + 2) fun x1061 =>
      ck Mw_18 r0 8 <|
      bnd (fn_X8_mean Mw_18 r0 x1056 x1061) fun y1062 =>
      pr2 y1062 fun c1062 M1062 =>
      scA NL xs (w3_18 + 1) fun x1070 =>
      scA NL xs (w3_18 + 2) fun x1075 =>
      ck M1062 r8 9 <|
      bnd (fn_X9_mean M1062 r8 x1070 x1075) fun y1076 =>
      pr2 y1076 fun c1076 M1076 =>
      if (lg_cmp c1062 c1076) = 0 then
        nm (w3_18 + 6) fun v3_1581 =>
        some (.inl (v3_1581, M1076))
      else
        some (.inr (0, M1076))
    else if s33 = 27 then
      scA NL xs (w3_18 + 1) fun x1090 =>
      scA NL xs (w3_18 + 2) fun x1095 =>
      ck Mw_18 r0 8 <|
      bnd (fn_X8_afternoon Mw_18 r0 x1090 x1095) fun y1096 =>
      pr2 y1096 fun c1096 M1096 =>
      scA NL xs (w3_18 + 1) fun x1104 =>
      scA NL xs (w3_18 + 2) fun x1109 =>
      ck M1096 r8 9 <|
      bnd (fn_X9_afternoon M1096 r8 x1104 x1109) fun y1110 =>
      pr2 y1110 fun c1110 M1110 =>
      if c1096 = c1110 then
        nm (w3_18 + 6) fun v3_1581 =>
        some (.inl (v3_1581, M1110))
      else
        some (.inr (0, M1110))
    else if s33 = 28 then
      scA NL xs (w3_18 + 1) fun x1123 =>
      ck Mw_18 r0 8 <|
      bnd (fn_X8_ends Mw_18 r0 x1123) fun y1124 =>
      pr2 y1124 fun c1124 M1124 =>
      scA NL xs (w3_18 + 1) fun x1132 =>
      ck M1124 r8 9 <|
      bnd (fn_X9_ends M1124 r8 x1132) fun y1133 =>
      pr2 y1133 fun c1133 M1133 =>
      if c1124 = c1133 then
        nm (w3_18 + 6) fun v3_1581 =>
        some (.inl (v3_1581, M1133))
      else
        some (.inr (0, M1133))
    else if s33 = 29 then
      scA NL xs (w3_18 + 1) fun x1146 =>
      scA NL xs (w3_18 + 2) fun x1151 =>
      ck Mw_18 r0 8 <|
      bnd (fn_X8_book Mw_18 r0 x1146 x1151) fun y1152 =>
      pr2 y1152 fun c1152 M1152 =>
      scA NL xs (w3_18 + 1) fun x1160 =>
      scA NL xs (w3_18 + 2) fun x1165 =>
      ck M1152 r8 9 <|
      bnd (fn_X9_book M1152 r8 x1160 x1165) fun y1166 =>
      pr2 y1166 fun c1166 M1166 =>
      if c1152 = c1166 then
        nm (w3_18 + 6) fun v3_1581 =>
        some (.inl (v3_1581, M1166))
      else
        some (.inr (0, M1166))
    else if s33 = 30 then
      ck Mw_18 r0 8 <|
      bnd (fn_X8_looked Mw_18 r0) fun c1175 =>
      ck Mw_18 r8 9 <|
      bnd (fn_X9_looked Mw_18 r8) fun c1179 =>
      if c1175 = c1179 then
        nm (w3_18 + 6) fun v3_1581 =>
        some (.inl (v3_1581, Mw_18))
      else
        some (.inr (0, Mw_18))
    else if s33 = 31 then
      scA NL xs (w3_18 + 1) fun x1192 =>
      scA NL xs (w3_18 + 2) fun x1197 =>
      ck Mw_18 r0 8 <|
      bnd (fn_X8_judge Mw_18 r0 x1192 x1197) fun c1198 =>
      scA NL xs (w3_18 + 1) fun x1206 =>
      scA NL xs (w3_18 + 2) fun x1211 =>
      ck Mw_18 r8 9 <|
      bnd (fn_X9_judge Mw_18 r8 x1206 x1211) fun c1212 =>
      if c1198 = c1212 then
        nm (w3_18 + 6) fun v3_1581 =>
        some (.inl (v3_1581, Mw_18))
      else
        some (.inr (0, Mw_18))
    else if s33 = 32 then
      ck Mw_18 r0 8 <|
      bnd (fn_X8_image Mw_18 r0) fun y1221 =>
      pr2 y1221 fun c1221 M1221 =>
      ck M1221 r8 9 <|
      bnd (fn_X9_image M1221 r8) fun y1225 =>
      pr2 y1225 fun c1225 M1225 =>
      if c1221 = c1225 then
        nm (w3_18 + 6) fun v3_1581 =>
        some (.inl (v3_1581, M1225))
      else
        some (.inr (0, M1225))
    else if s33 = 33 then
      ck Mw_18 r0 8 <|
      bnd (fn_X8_undo Mw_18 r0) fun y1234 =>
      pr2 y1234 fun c1234 M1234 =>
      ck M1234 r8 9 <|
      bnd (fn_X9_undo M1234 r8) fun y1238 =>
      pr2 y1238 fun c1238 M1238 =>
      if c1234 = c1238 then
        nm (w3_18 + 6) fun v3_1581 =>
        some (.inl (v3_1581, M1238))
      else
        some (.inr (0, M1238))
    else if s33 = 34 then
      scA NL xs (w3_18 + 1) fun x1251 =>
      scA NL xs (w3_18 + 2) fun x1256 =>
      scA NL xs (w3_18 + 3) fun x1261 =>
      ck Mw_18 r0 8 <|
      bnd (fn_X8_act Mw_18 r0 x1251 x1256 x1261) fun y1262 =>
      pr2 y1262 fun c1262 M1262 =>
      scA NL xs (w3_18 + 1) fun x1270 =>
      scA NL xs (w3_18 + 2) fun x1275 =>
      scA NL xs (w3_18 + 3) fun x1280 =>
      ck M1262 r8 9 <|
      bnd (fn_X9_act M1262 r8 x1270 x1275 x1280) fun y1281 =>
      pr2 y1281 fun c1281 M1281 =>
      if c1262 = c1281 then
        nm (w3_18 + 6) fun v3_1581 =>
        some (.inl (v3_1581, M1281))
      else
        some (.inr (0, M1281))
    else if s33 = 35 then
      scA NL xs (w3_18 + 1) fun x1294 =>
      ck Mw_18 r0 8 <|
      bnd (fn_X8_trace Mw_18 r0 x1294) fun c1295 =>
      scA NL xs (w3_18 + 1) fun x1303 =>
      ck Mw_18 r8 9 <|
      bnd (fn_X9_trace Mw_18 r8 x1303) fun c1304 =>
      if c1295 = c1304 then
        nm (w3_18 + 6) fun v3_1581 =>
        some (.inl (v3_1581, Mw_18))
      else
        some (.inr (0, Mw_18))
    else if s33 = 36 then
      scA NL xs (w3_18 + 1) fun x1317 =>
      scA NL xs (w3_18 + 2) fun x1322 =>
      ck Mw_18 r0 8 <|
      bnd (fn_X8_taken Mw_18 r0 x1317 x1322) fun c1323 =>
      scA NL xs (w3_18 + 1) fun x1331 =>
      scA NL xs (w3_18 + 2) fun x1336 =>
      ck Mw_18 r8 9 <|
      bnd (fn_X9_taken Mw_18 r8 x1331 x1336) fun c1337 =>
      if c1323 = c1337 then
        nm (w3_18 + 6) fun v3_1581 =>
        some (.inl (v3_1581, Mw_18))
      else
        some (.inr (0, Mw_18))
    else if s33 = 37 then
      scA NL xs (w3_18 + 1) fun x1350 =>
      ck Mw_18 r0 8 <|
      bnd (fn_X8_count Mw_18 r0 x1350) fun c1351 =>
      scA NL xs (w3_18 + 1) fun x1359 =>
      ck Mw_18 r8 9 <|
      bnd (fn_X9_count Mw_18 r8 x1359) fun c1360 =>
      if c1351 = c1360 then
        nm (w3_18 + 6) fun v3_1581 =>
        some (.inl (v3_1581, Mw_18))
      else
        some (.inr (0, Mw_18))
    else if s33 = 38 then
      scA NL xs (w3_18 + 1) fun x1373 =>
      scA NL xs (w3_18 + 2) fun x1378 =>
      scA NL xs (w3_18 + 3) fun x1383 =>
      ck Mw_18 r0 8 <|
      bnd (fn_X8_tape Mw_18 r0 x1373 x1378 x1383) fun y1384 =>
      pr2 y1384 fun c1384 M1384 =>
      scA NL xs (w3_18 + 1) fun x1392 =>
      scA NL xs (w3_18 + 2) fun x1397 =>
      scA NL xs (w3_18 + 3) fun x1402 =>
      ck M1384 r8 9 <|
      bnd (fn_X9_tape M1384 r8 x1392 x1397 x1402) fun y1403 =>
      pr2 y1403 fun c1403 M1403 =>
      if c1384 = c1403 then
        nm (w3_18 + 6) fun v3_1581 =>
        some (.inl (v3_1581, M1403))
      else
        some (.inr (0, M1403))
    else if s33 = 39 then
      scA NL xs (w3_18 + 1) fun x1416 =>
      scA NL xs (w3_18 + 2) fun x1421 =>
      scA NL xs (w3_18 + 3) fun x1426 =>
      scA NL xs (w3_18 + 4) fun x1435 =>
      ck Mw_18 r0 8 <|
      bnd (fn_X8_item Mw_18 r0 x1416 x1421 ((x1426.toInt64 <<< ((32 : Int32).toInt64 &&& 63)) ||| (x1435.toInt64 &&& 4294967295))) fun y1442 =>
      pr2 y1442 fun c1442 M1442 =>
      scA NL xs (w3_18 + 1) fun x1450 =>
      scA NL xs (w3_18 + 2) fun x1455 =>
      scA NL xs (w3_18 + 3) fun x1460 =>
      scA NL xs (w3_18 + 4) fun x1469 =>
      ck M1442 r8 9 <|
      bnd (fn_X9_item M1442 r8 x1450 x1455 ((x1460.toInt64 <<< ((32 : Int32).toInt64 &&& 63)) ||| (x1469.toInt64 &&& 4294967295))) fun y1476 =>
      pr2 y1476 fun c1476 M1476 =>
      if c1442 = c1476 then
        nm (w3_18 + 6) fun v3_1581 =>
        some (.inl (v3_1581, M1476))
      else
        some (.inr (0, M1476))
    else if s33 = 40 then
      scA NL xs (w3_18 + 1) fun x1489 =>
      scA NL xs (w3_18 + 2) fun x1494 =>
      ck Mw_18 r0 8 <|
      bnd (fn_X8_read Mw_18 r0 x1489 x1494) fun c1495 =>
      scA NL xs (w3_18 + 1) fun x1503 =>
      scA NL xs (w3_18 + 2) fun x1508 =>
      ck Mw_18 r8 9 <|
      bnd (fn_X9_read Mw_18 r8 x1503 x1508) fun c1509 =>
      if (lg_cmp c1495 c1509) = 0 then
        nm (w3_18 + 6) fun v3_1581 =>
        some (.inl (v3_1581, Mw_18))
      else
        some (.inr (0, Mw_18))
    else if s33 = 41 then
      scA NL xs (w3_18 + 1) fun x1523 =>
      scA NL xs (w3_18 + 2) fun x1528 =>
      scA NL xs (w3_18 + 3) fun x1533 =>
      scA NL xs (w3_18 + 4) fun x1538 =>
      scA NL xs (w3_18 + 5) fun x1543 =>
      ck Mw_18 r0 8 <|
      bnd (fn_X8_shift Mw_18 r0 x1523 x1528 x1533 x1538 x1543) fun y1544 =>
      pr2 y1544 fun c1544 M1544 =>
      scA NL xs (w3_18 + 1) fun x1552 =>
      scA NL xs (w3_18 + 2) fun x1557 =>
      scA NL xs (w3_18 + 3) fun x1562 =>
      scA NL xs (w3_18 + 4) fun x1567 =>
      scA NL xs (w3_18 + 5) fun x1572 =>
      ck M1544 r8 9 <|
      bnd (fn_X9_shift M1544 r8 x1552 x1557 x1562 x1567 x1572) fun y1573 =>
      pr2 y1573 fun c1573 M1573 =>
      if c1544 = c1573 then
        nm (w3_18 + 6) fun v3_1581 =>
        some (.inl (v3_1581, M1573))
      else
        some (.inr (0, M1573))
    else 
      nm (w3_18 + 6) fun v3_1581 =>
      some (.inl (v3_1581, Mw_18))
def fn_L_law (M : QM) (NL : Nat) (xs : Nat → Int32) : Option (Int32 × QM) :=
  nO M 8 fun M0 r0 =>
  ck M0 r0 8 <|
  bnd (fn_X8_init M0 r0) fun M4 =>
  nO M4 9 fun M8 r8 =>
  ck M8 r8 9 <|
  bnd (fn_X9_init M8 r8) fun M12 =>
  bnd (itr (fun s18 : Int32 × QM => lp_L_law_18 NL xs r0 r8 s18.1 s18.2) FU (0, M12)) fun r18 =>
  pr2 r18 fun re_18 Mr_18 =>
  some (re_18, Mr_18)
set_option maxRecDepth 100000 in
set_option maxHeartbeats 40000000 in
theorem ct_L_law {p : Program} {e : Env} {s : State} {m : MethodId} {args : Array Value} {below : List Frame} {meth : Method} {c : Code} {Q : State → Prop} (Γ : GT) (l : Launch) {b NL : Nat} {xs : Nat → Int32} (hX : va_X b NL xs s s.heap ∧ b < s.heap.size ∧ ¬ gFr Γ b) (M : QM) (z : Int32) (M' : QM) (hargs : args = #[Value.ref b]) (hQ : Q = lw_Z below #[Value.ref b] s) (cx : CX Γ p s m args meth c RL code 4 ret) (hgo : go Γ = s.heap.size) (hz1 : z = 1) (h : fn_L_law M NL xs = some (z, M')) : EE p l e room_1 s m args below meth c Q Γ 4 0 0 0 [(0, .ref b)] [] M := by
  unfold fn_L_law at h
  obtain ⟨M0, r0, eM0, er0, h⟩ := nO_i h
  refine q_new cx (pc' := 3) 8 (by decide) (r := (RX8, TX8, 10)) rfl rfl aw_155 aw_156 aw_157 (Nat.le_of_ble_eq_true rfl) (Nat.le_of_ble_eq_true rfl) eM0 dL_law_0 rfl ?_
  rw [← er0]
  refine q_dup cx (pc' := 4) rfl dL_law_3 rfl ?_
  obtain ⟨hk4, h⟩ := ck_i h
  obtain ⟨M4, hc4, h⟩ := bnd_i h
  refine q_callI cx (pc' := 7) (S := [.ref r0]) (kc' := 12334) (ks' := 164067) (ct_X8_init Γ l M0 r0 hk4 _ hc4) lki_X8_init lkv_X8_init lkc_L_9 rfl (Nat.le_of_ble_eq_true rfl) ⟨(Nat.le_of_ble_eq_true rfl), (Nat.le_of_ble_eq_true rfl)⟩ ⟨(Nat.le_of_ble_eq_true rfl), (Nat.le_of_ble_eq_true rfl)⟩ dL_law_4 rfl rfl rfl ?_
  refine q_astore_n cx (pc' := 8) rfl rfl (by decide) (L' := [(1, .ref r0), (0, .ref b)]) rfl dL_law_7 rfl ?_
  obtain ⟨M8, r8, eM8, er8, h⟩ := nO_i h
  refine q_new cx (pc' := 11) 9 (by decide) (r := (RX9, TX9, 70)) rfl rfl aw_158 aw_159 aw_160 (Nat.le_of_ble_eq_true rfl) (Nat.le_of_ble_eq_true rfl) eM8 dL_law_8 rfl ?_
  rw [← er8]
  refine q_dup cx (pc' := 12) rfl dL_law_11 rfl ?_
  obtain ⟨hk12, h⟩ := ck_i h
  obtain ⟨M12, hc12, h⟩ := bnd_i h
  refine q_callI cx (pc' := 15) (S := [.ref r8]) (kc' := 12380) (ks' := 166118) (ct_X9_init Γ l M8 r8 hk12 _ hc12) lki_X9_init lkv_X9_init lkc_L_12 rfl (Nat.le_of_ble_eq_true rfl) ⟨(Nat.le_of_ble_eq_true rfl), (Nat.le_of_ble_eq_true rfl)⟩ ⟨(Nat.le_of_ble_eq_true rfl), (Nat.le_of_ble_eq_true rfl)⟩ dL_law_12 rfl rfl rfl ?_
  refine q_astore_n cx (pc' := 16) rfl rfl (by decide) (L' := [(2, .ref r8), (1, .ref r0), (0, .ref b)]) rfl dL_law_15 rfl ?_
  refine q_iconst cx (pc' := 17) ki_0 dL_law_16 rfl ?_
  refine q_istore_n cx (pc' := 18) rfl rfl (by decide) (L' := [(3, .int 0), (2, .ref r8), (1, .ref r0), (0, .ref b)]) rfl dL_law_17 rfl ?_
  obtain ⟨r18, hL18, h⟩ := bnd_i h
  have hk18_r : ∀ (re_18 : Int32) (Mr_18 : QM), (re_18, Mr_18) = r18 → some (re_18, Mr_18) = some (z, M') := by
    intro re_18 Mr_18 hp
    subst hp
    replace h := pr2_i h
    exact h
  have key18 : ∀ (n kq18 sq18 : Nat) (w3_18 : Int32) (Mw_18 : QM), kq18 + 2 * n ≤ 16476 → sq18 + 1603 * n ≤ 3449062 → itr (fun s18 : Int32 × QM => lp_L_law_18 NL xs r0 r8 s18.1 s18.2) n (w3_18, Mw_18) = some r18 → EE p l e room_1 s m args below meth c Q Γ 4 kq18 sq18 18 [(0, .ref b), (1, .ref r0), (2, .ref r8), (3, .int w3_18)] [] Mw_18 := by
    intro n
    induction n with
    | zero => intro _ _ _ _ _ _ h; exact (itr_0 h).elim
    | succ n ih =>
      intro kq18 sq18 w3_18 Mw_18 hkq18 hsq18 h
      obtain ⟨z18, h, hz18⟩ := itr_i h
      replace h : lp_L_law_18 NL xs r0 r8 w3_18 Mw_18 = some z18 := h
      unfold lp_L_law_18 at h
      have hj885 : ∀ (j3_885 : Int32) (js0_885 : Int32) (js1_885 : Int32) (js2_885 : Nat) (js3_885 : Int32) (Mj_885 : QM), jn_L_law_885_18 NL xs j3_885 js0_885 js1_885 js2_885 js3_885 Mj_885 = some z18 → EE p l e room_1 s m args below meth c Q Γ 4 kq18 sq18 885 [(0, .ref b), (1, .ref r0), (2, .ref r8), (3, .int j3_885)] [.int js0_885, .int js1_885, .ref js2_885, .int js3_885] Mj_885 := by
        intro j3_885 js0_885 js1_885 js2_885 js3_885 Mj_885 h
        unfold jn_L_law_885_18 at h
        refine q_aload_n cx (pc' := 886) 0 rfl dL_law_885 rfl ?_
        refine q_iload_n cx (pc' := 887) 3 rfl dL_law_886 rfl ?_
        refine q_iconst cx (pc' := 888) ki_3 dL_law_887 rfl ?_
        refine q_iadd cx (pc' := 889) dL_law_888 rfl ?_
        obtain ⟨hi889, x889, ex889, h⟩ := scA_i h
        refine q_sld cx (pc' := 890) hX hi889 ex889 dL_law_889 rfl ?_
        obtain ⟨hk890, h⟩ := ck_i h
        obtain ⟨⟨c890, M890⟩, hc890, h⟩ := bnd_i h
        replace h := pr2_i h
        refine q_callV cx (pc' := 893) (S := [.int js3_885]) (S1 := [.int c890, .int js3_885]) (kc' := kq18) (ks' := sq18) 9 (ct_X9_see Γ l Mj_885 js2_885 js1_885 js0_885 x889 hk890 _ _ hc890) lki_X9_see lkv_X9_see lkc_L_105 hk890 (r := (RX9, TX9, 70)) ⟨rfl, by decide, rfl⟩ rfl rfl (Nat.le_of_ble_eq_true rfl) ⟨(Nat.le_of_ble_eq_true rfl), (Nat.le_of_ble_eq_true rfl)⟩ ⟨(by show kq18 + 0 ≤ 600000; omega), (by show sq18 + 0 ≤ 7302250; omega)⟩ dL_law_890 rfl rfl rfl ?_
        refine q_icmp_eq cx (pc' := 896) (tgt := 1581) dL_law_893 (by decide) rfl (fun c893 => ?_) (fun c893 => ?_)
        · replace h := ip c893 h
          obtain ⟨v3_1581, ev3_1581, h⟩ := nm_i h
          refine q_iinc cx (pc' := 1584) 3 rfl ki_6 ev3_1581 (by decide) (L' := [(3, .int v3_1581), (0, .ref b), (1, .ref r0), (2, .ref r8)]) rfl dL_law_1581 rfl ?_
          refine q_goto cx dL_law_1584 (tgt := 18) (by decide) ?_
          refine q_sub cx [1, 2, 3, 0] rfl ?_
          exact ih _ _ _ _ (by omega) (by omega) (hz18.1 _ h)
        · replace h := ine c893 h
          refine q_iconst cx (pc' := 897) ki_0 dL_law_896 rfl ?_
          replace h := hk18_r _ _ (hz18.2 _ h)
          obtain ⟨rfl, rfl⟩ := o2_i h
          exact absurd hz1 (by decide)
      have hj858 : ∀ (j3_858 : Int32) (js0_858 : Int32) (js1_858 : Int32) (js2_858 : Nat) (Mj_858 : QM), jn_L_law_858_18 NL xs r8 j3_858 js0_858 js1_858 js2_858 Mj_858 = some z18 → EE p l e room_1 s m args below meth c Q Γ 4 kq18 sq18 858 [(0, .ref b), (1, .ref r0), (2, .ref r8), (3, .int j3_858)] [.int js0_858, .int js1_858, .ref js2_858] Mj_858 := by
        intro j3_858 js0_858 js1_858 js2_858 Mj_858 h
        unfold jn_L_law_858_18 at h
        refine q_aload_n cx (pc' := 859) 0 rfl dL_law_858 rfl ?_
        refine q_iload_n cx (pc' := 860) 3 rfl dL_law_859 rfl ?_
        refine q_iconst cx (pc' := 861) ki_3 dL_law_860 rfl ?_
        refine q_iadd cx (pc' := 862) dL_law_861 rfl ?_
        obtain ⟨hi862, x862, ex862, h⟩ := scA_i h
        refine q_sld cx (pc' := 863) hX hi862 ex862 dL_law_862 rfl ?_
        obtain ⟨hk863, h⟩ := ck_i h
        obtain ⟨⟨c863, M863⟩, hc863, h⟩ := bnd_i h
        replace h := pr2_i h
        refine q_callV cx (pc' := 866) (S := []) (S1 := [.int c863]) (kc' := kq18) (ks' := sq18) 8 (ct_X8_see Γ l Mj_858 js2_858 js1_858 js0_858 x862 hk863 _ _ hc863) lki_X8_see lkv_X8_see lkc_L_101 hk863 (r := (RX8, TX8, 10)) ⟨rfl, by decide, rfl⟩ rfl rfl (Nat.le_of_ble_eq_true rfl) ⟨(Nat.le_of_ble_eq_true rfl), (Nat.le_of_ble_eq_true rfl)⟩ ⟨(by show kq18 + 0 ≤ 600000; omega), (by show sq18 + 0 ≤ 7302250; omega)⟩ dL_law_863 rfl rfl rfl ?_
        refine q_aload_n cx (pc' := 867) 2 rfl dL_law_866 rfl ?_
        refine q_aload_n cx (pc' := 868) 0 rfl dL_law_867 rfl ?_
        refine q_iload_n cx (pc' := 869) 3 rfl dL_law_868 rfl ?_
        refine q_iconst cx (pc' := 870) ki_1 dL_law_869 rfl ?_
        refine q_iadd cx (pc' := 871) dL_law_870 rfl ?_
        obtain ⟨hi871, x871, ex871, h⟩ := scA_i h
        refine q_sld cx (pc' := 872) hX hi871 ex871 dL_law_871 rfl ?_
        refine q_aload_n cx (pc' := 873) 0 rfl dL_law_872 rfl ?_
        refine q_iload_n cx (pc' := 874) 3 rfl dL_law_873 rfl ?_
        refine q_iconst cx (pc' := 875) ki_2 dL_law_874 rfl ?_
        refine q_iadd cx (pc' := 876) dL_law_875 rfl ?_
        obtain ⟨hi876, x876, ex876, h⟩ := scA_i h
        refine q_sld cx (pc' := 877) hX hi876 ex876 dL_law_876 rfl ?_
        refine q_if_eq cx (pc' := 880) (tgt := 884) dL_law_877 (by decide) rfl (fun c877 => ?_) (fun c877 => ?_)
        · replace h := ip c877 h
          refine q_iconst cx (pc' := 885) ki_0 dL_law_884 rfl ?_
          refine q_sub cx [0, 1, 2, 3] rfl ?_
          exact hj885 _ _ _ _ _ _ h
        · replace h := ine c877 h
          refine q_iconst cx (pc' := 881) ki_1 dL_law_880 rfl ?_
          refine q_goto cx dL_law_881 (tgt := 885) (by decide) ?_
          refine q_sub cx [0, 1, 2, 3] rfl ?_
          exact hj885 _ _ _ _ _ _ h
      refine q_iload_n cx (pc' := 19) 3 rfl dL_law_18 rfl ?_
      refine q_aload_n cx (pc' := 20) 0 rfl dL_law_19 rfl ?_
      refine q_slen cx (pc' := 21) hX dL_law_20 rfl ?_
      refine q_bipush cx (pc' := 23) kb_6 dL_law_21 rfl ?_
      refine q_isub cx (pc' := 24) dL_law_23 rfl ?_
      refine q_icmp_gt cx (pc' := 27) (tgt := 1587) dL_law_24 (by decide) rfl (fun c24 => ?_) (fun c24 => ?_)
      · replace h := ip c24 h
        refine q_iconst cx (pc' := 1588) ki_1 dL_law_1587 rfl ?_
        replace h := hk18_r _ _ (hz18.2 _ h)
        obtain ⟨rfl, rfl⟩ := o2_i h
        exact q_lawret cx hargs hQ hgo (by show kq18 ≤ 600000; omega) (by show sq18 ≤ 7302250; omega) dL_law_1588
      · replace h := ine c24 h
        refine q_aload_n cx (pc' := 28) 0 rfl dL_law_27 rfl ?_
        refine q_iload_n cx (pc' := 29) 3 rfl dL_law_28 rfl ?_
        obtain ⟨hi29, x29, ex29, h⟩ := scA_i h
        refine q_sld cx (pc' := 30) hX hi29 ex29 dL_law_29 rfl ?_
        refine q_bipush cx (pc' := 32) kb_63 dL_law_30 rfl ?_
        refine q_iand cx (pc' := 33) dL_law_32 rfl ?_
        obtain ⟨s33, es33, h⟩ := nm_i h
        rcases Decidable.em (s33 = 0) with c33_0 | c33_0
        · replace h := ip c33_0 h
          refine q_tabIn cx (off := 183) (tgt := 216) (es33.symm.trans c33_0) dL_law_33 (by decide) (by decide) ?_
          refine q_aload_n cx (pc' := 217) 1 rfl dL_law_216 rfl ?_
          refine q_aload_n cx (pc' := 218) 0 rfl dL_law_217 rfl ?_
          refine q_iload_n cx (pc' := 219) 3 rfl dL_law_218 rfl ?_
          refine q_iconst cx (pc' := 220) ki_1 dL_law_219 rfl ?_
          refine q_iadd cx (pc' := 221) dL_law_220 rfl ?_
          obtain ⟨hi221, x221, ex221, h⟩ := scA_i h
          refine q_sld cx (pc' := 222) hX hi221 ex221 dL_law_221 rfl ?_
          refine q_aload_n cx (pc' := 223) 0 rfl dL_law_222 rfl ?_
          refine q_iload_n cx (pc' := 224) 3 rfl dL_law_223 rfl ?_
          refine q_iconst cx (pc' := 225) ki_2 dL_law_224 rfl ?_
          refine q_iadd cx (pc' := 226) dL_law_225 rfl ?_
          obtain ⟨hi226, x226, ex226, h⟩ := scA_i h
          refine q_sld cx (pc' := 227) hX hi226 ex226 dL_law_226 rfl ?_
          refine q_aload_n cx (pc' := 228) 0 rfl dL_law_227 rfl ?_
          refine q_iload_n cx (pc' := 229) 3 rfl dL_law_228 rfl ?_
          refine q_iconst cx (pc' := 230) ki_3 dL_law_229 rfl ?_
          refine q_iadd cx (pc' := 231) dL_law_230 rfl ?_
          obtain ⟨hi231, x231, ex231, h⟩ := scA_i h
          refine q_sld cx (pc' := 232) hX hi231 ex231 dL_law_231 rfl ?_
          obtain ⟨hk232, h⟩ := ck_i h
          obtain ⟨⟨c232, M232⟩, hc232, h⟩ := bnd_i h
          replace h := pr2_i h
          refine q_callV cx (pc' := 235) (S := []) (S1 := [.int c232]) (kc' := kq18) (ks' := sq18) 8 (ct_X8_walker Γ l Mw_18 r0 x221 x226 x231 hk232 _ _ hc232) lki_X8_walker lkv_X8_walker lkc_L_13 hk232 (r := (RX8, TX8, 10)) ⟨rfl, by decide, rfl⟩ rfl rfl (Nat.le_of_ble_eq_true rfl) ⟨(Nat.le_of_ble_eq_true rfl), (Nat.le_of_ble_eq_true rfl)⟩ ⟨(by show kq18 + 0 ≤ 600000; omega), (by show sq18 + 0 ≤ 7302250; omega)⟩ dL_law_232 rfl rfl rfl ?_
          refine q_aload_n cx (pc' := 236) 2 rfl dL_law_235 rfl ?_
          refine q_aload_n cx (pc' := 237) 0 rfl dL_law_236 rfl ?_
          refine q_iload_n cx (pc' := 238) 3 rfl dL_law_237 rfl ?_
          refine q_iconst cx (pc' := 239) ki_1 dL_law_238 rfl ?_
          refine q_iadd cx (pc' := 240) dL_law_239 rfl ?_
          obtain ⟨hi240, x240, ex240, h⟩ := scA_i h
          refine q_sld cx (pc' := 241) hX hi240 ex240 dL_law_240 rfl ?_
          refine q_aload_n cx (pc' := 242) 0 rfl dL_law_241 rfl ?_
          refine q_iload_n cx (pc' := 243) 3 rfl dL_law_242 rfl ?_
          refine q_iconst cx (pc' := 244) ki_2 dL_law_243 rfl ?_
          refine q_iadd cx (pc' := 245) dL_law_244 rfl ?_
          obtain ⟨hi245, x245, ex245, h⟩ := scA_i h
          refine q_sld cx (pc' := 246) hX hi245 ex245 dL_law_245 rfl ?_
          refine q_aload_n cx (pc' := 247) 0 rfl dL_law_246 rfl ?_
          refine q_iload_n cx (pc' := 248) 3 rfl dL_law_247 rfl ?_
          refine q_iconst cx (pc' := 249) ki_3 dL_law_248 rfl ?_
          refine q_iadd cx (pc' := 250) dL_law_249 rfl ?_
          obtain ⟨hi250, x250, ex250, h⟩ := scA_i h
          refine q_sld cx (pc' := 251) hX hi250 ex250 dL_law_250 rfl ?_
          obtain ⟨hk251, h⟩ := ck_i h
          obtain ⟨⟨c251, M251⟩, hc251, h⟩ := bnd_i h
          replace h := pr2_i h
          refine q_callV cx (pc' := 254) (S := [.int c232]) (S1 := [.int c251, .int c232]) (kc' := kq18) (ks' := sq18) 9 (ct_X9_walker Γ l M232 r8 x240 x245 x250 hk251 _ _ hc251) lki_X9_walker lkv_X9_walker lkc_L_17 hk251 (r := (RX9, TX9, 70)) ⟨rfl, by decide, rfl⟩ rfl rfl (Nat.le_of_ble_eq_true rfl) ⟨(Nat.le_of_ble_eq_true rfl), (Nat.le_of_ble_eq_true rfl)⟩ ⟨(by show kq18 + 0 ≤ 600000; omega), (by show sq18 + 0 ≤ 7302250; omega)⟩ dL_law_251 rfl rfl rfl ?_
          refine q_icmp_eq cx (pc' := 257) (tgt := 1581) dL_law_254 (by decide) rfl (fun c254 => ?_) (fun c254 => ?_)
          · replace h := ip c254 h
            obtain ⟨v3_1581, ev3_1581, h⟩ := nm_i h
            refine q_iinc cx (pc' := 1584) 3 rfl ki_6 ev3_1581 (by decide) (L' := [(3, .int v3_1581), (0, .ref b), (1, .ref r0), (2, .ref r8)]) rfl dL_law_1581 rfl ?_
            refine q_goto cx dL_law_1584 (tgt := 18) (by decide) ?_
            refine q_sub cx [1, 2, 3, 0] rfl ?_
            exact ih _ _ _ _ (by omega) (by omega) (hz18.1 _ h)
          · replace h := ine c254 h
            refine q_iconst cx (pc' := 258) ki_0 dL_law_257 rfl ?_
            replace h := hk18_r _ _ (hz18.2 _ h)
            obtain ⟨rfl, rfl⟩ := o2_i h
            exact absurd hz1 (by decide)
        replace h := ine c33_0 h
        rcases Decidable.em (s33 = 1) with c33_1 | c33_1
        · replace h := ip c33_1 h
          refine q_tabIn cx (off := 226) (tgt := 259) (es33.symm.trans c33_1) dL_law_33 (by decide) (by decide) ?_
          refine q_aload_n cx (pc' := 260) 1 rfl dL_law_259 rfl ?_
          refine q_aload_n cx (pc' := 261) 0 rfl dL_law_260 rfl ?_
          refine q_iload_n cx (pc' := 262) 3 rfl dL_law_261 rfl ?_
          refine q_iconst cx (pc' := 263) ki_1 dL_law_262 rfl ?_
          refine q_iadd cx (pc' := 264) dL_law_263 rfl ?_
          obtain ⟨hi264, x264, ex264, h⟩ := scA_i h
          refine q_sld cx (pc' := 265) hX hi264 ex264 dL_law_264 rfl ?_
          refine q_aload_n cx (pc' := 266) 0 rfl dL_law_265 rfl ?_
          refine q_iload_n cx (pc' := 267) 3 rfl dL_law_266 rfl ?_
          refine q_iconst cx (pc' := 268) ki_2 dL_law_267 rfl ?_
          refine q_iadd cx (pc' := 269) dL_law_268 rfl ?_
          obtain ⟨hi269, x269, ex269, h⟩ := scA_i h
          refine q_sld cx (pc' := 270) hX hi269 ex269 dL_law_269 rfl ?_
          obtain ⟨hk270, h⟩ := ck_i h
          obtain ⟨c270, hc270, h⟩ := bnd_i h
          refine q_callV cx (pc' := 273) (S := []) (S1 := [.int c270]) (kc' := kq18) (ks' := sq18) 8 (ct_X8_of Γ l Mw_18 r0 x264 x269 hk270 _ hc270) lki_X8_of lkv_X8_of lkc_L_18 hk270 (r := (RX8, TX8, 10)) ⟨rfl, by decide, rfl⟩ rfl rfl (Nat.le_of_ble_eq_true rfl) ⟨(Nat.le_of_ble_eq_true rfl), (Nat.le_of_ble_eq_true rfl)⟩ ⟨(by show kq18 + 0 ≤ 600000; omega), (by show sq18 + 0 ≤ 7302250; omega)⟩ dL_law_270 rfl rfl rfl ?_
          refine q_aload_n cx (pc' := 274) 2 rfl dL_law_273 rfl ?_
          refine q_aload_n cx (pc' := 275) 0 rfl dL_law_274 rfl ?_
          refine q_iload_n cx (pc' := 276) 3 rfl dL_law_275 rfl ?_
          refine q_iconst cx (pc' := 277) ki_1 dL_law_276 rfl ?_
          refine q_iadd cx (pc' := 278) dL_law_277 rfl ?_
          obtain ⟨hi278, x278, ex278, h⟩ := scA_i h
          refine q_sld cx (pc' := 279) hX hi278 ex278 dL_law_278 rfl ?_
          refine q_aload_n cx (pc' := 280) 0 rfl dL_law_279 rfl ?_
          refine q_iload_n cx (pc' := 281) 3 rfl dL_law_280 rfl ?_
          refine q_iconst cx (pc' := 282) ki_2 dL_law_281 rfl ?_
          refine q_iadd cx (pc' := 283) dL_law_282 rfl ?_
          obtain ⟨hi283, x283, ex283, h⟩ := scA_i h
          refine q_sld cx (pc' := 284) hX hi283 ex283 dL_law_283 rfl ?_
          obtain ⟨hk284, h⟩ := ck_i h
          obtain ⟨⟨c284, M284⟩, hc284, h⟩ := bnd_i h
          replace h := pr2_i h
          refine q_callV cx (pc' := 287) (S := [.int c270]) (S1 := [.int c284, .int c270]) (kc' := kq18) (ks' := sq18) 9 (ct_X9_of Γ l Mw_18 r8 x278 x283 hk284 _ _ hc284) lki_X9_of lkv_X9_of lkc_L_22 hk284 (r := (RX9, TX9, 70)) ⟨rfl, by decide, rfl⟩ rfl rfl (Nat.le_of_ble_eq_true rfl) ⟨(Nat.le_of_ble_eq_true rfl), (Nat.le_of_ble_eq_true rfl)⟩ ⟨(by show kq18 + 0 ≤ 600000; omega), (by show sq18 + 0 ≤ 7302250; omega)⟩ dL_law_284 rfl rfl rfl ?_
          refine q_icmp_eq cx (pc' := 290) (tgt := 1581) dL_law_287 (by decide) rfl (fun c287 => ?_) (fun c287 => ?_)
          · replace h := ip c287 h
            obtain ⟨v3_1581, ev3_1581, h⟩ := nm_i h
            refine q_iinc cx (pc' := 1584) 3 rfl ki_6 ev3_1581 (by decide) (L' := [(3, .int v3_1581), (0, .ref b), (1, .ref r0), (2, .ref r8)]) rfl dL_law_1581 rfl ?_
            refine q_goto cx dL_law_1584 (tgt := 18) (by decide) ?_
            refine q_sub cx [1, 2, 3, 0] rfl ?_
            exact ih _ _ _ _ (by omega) (by omega) (hz18.1 _ h)
          · replace h := ine c287 h
            refine q_iconst cx (pc' := 291) ki_0 dL_law_290 rfl ?_
            replace h := hk18_r _ _ (hz18.2 _ h)
            obtain ⟨rfl, rfl⟩ := o2_i h
            exact absurd hz1 (by decide)
        replace h := ine c33_1 h
        rcases Decidable.em (s33 = 2) with c33_2 | c33_2
        · replace h := ip c33_2 h
          refine q_tabIn cx (off := 259) (tgt := 292) (es33.symm.trans c33_2) dL_law_33 (by decide) (by decide) ?_
          refine q_aload_n cx (pc' := 293) 1 rfl dL_law_292 rfl ?_
          refine q_aload_n cx (pc' := 294) 0 rfl dL_law_293 rfl ?_
          refine q_iload_n cx (pc' := 295) 3 rfl dL_law_294 rfl ?_
          refine q_iconst cx (pc' := 296) ki_1 dL_law_295 rfl ?_
          refine q_iadd cx (pc' := 297) dL_law_296 rfl ?_
          obtain ⟨hi297, x297, ex297, h⟩ := scA_i h
          refine q_sld cx (pc' := 298) hX hi297 ex297 dL_law_297 rfl ?_
          refine q_aload_n cx (pc' := 299) 0 rfl dL_law_298 rfl ?_
          refine q_iload_n cx (pc' := 300) 3 rfl dL_law_299 rfl ?_
          refine q_iconst cx (pc' := 301) ki_2 dL_law_300 rfl ?_
          refine q_iadd cx (pc' := 302) dL_law_301 rfl ?_
          obtain ⟨hi302, x302, ex302, h⟩ := scA_i h
          refine q_sld cx (pc' := 303) hX hi302 ex302 dL_law_302 rfl ?_
          obtain ⟨hk303, h⟩ := ck_i h
          obtain ⟨c303, hc303, h⟩ := bnd_i h
          refine q_callV cx (pc' := 306) (S := []) (S1 := [.int c303]) (kc' := kq18) (ks' := sq18) 8 (ct_X8_at Γ l Mw_18 r0 x297 x302 hk303 _ hc303) lki_X8_at lkv_X8_at lkc_L_23 hk303 (r := (RX8, TX8, 10)) ⟨rfl, by decide, rfl⟩ rfl rfl (Nat.le_of_ble_eq_true rfl) ⟨(Nat.le_of_ble_eq_true rfl), (Nat.le_of_ble_eq_true rfl)⟩ ⟨(by show kq18 + 0 ≤ 600000; omega), (by show sq18 + 0 ≤ 7302250; omega)⟩ dL_law_303 rfl rfl rfl ?_
          refine q_aload_n cx (pc' := 307) 2 rfl dL_law_306 rfl ?_
          refine q_aload_n cx (pc' := 308) 0 rfl dL_law_307 rfl ?_
          refine q_iload_n cx (pc' := 309) 3 rfl dL_law_308 rfl ?_
          refine q_iconst cx (pc' := 310) ki_1 dL_law_309 rfl ?_
          refine q_iadd cx (pc' := 311) dL_law_310 rfl ?_
          obtain ⟨hi311, x311, ex311, h⟩ := scA_i h
          refine q_sld cx (pc' := 312) hX hi311 ex311 dL_law_311 rfl ?_
          refine q_aload_n cx (pc' := 313) 0 rfl dL_law_312 rfl ?_
          refine q_iload_n cx (pc' := 314) 3 rfl dL_law_313 rfl ?_
          refine q_iconst cx (pc' := 315) ki_2 dL_law_314 rfl ?_
          refine q_iadd cx (pc' := 316) dL_law_315 rfl ?_
          obtain ⟨hi316, x316, ex316, h⟩ := scA_i h
          refine q_sld cx (pc' := 317) hX hi316 ex316 dL_law_316 rfl ?_
          obtain ⟨hk317, h⟩ := ck_i h
          obtain ⟨⟨c317, M317⟩, hc317, h⟩ := bnd_i h
          replace h := pr2_i h
          refine q_callV cx (pc' := 320) (S := [.int c303]) (S1 := [.int c317, .int c303]) (kc' := kq18) (ks' := sq18) 9 (ct_X9_at Γ l Mw_18 r8 x311 x316 hk317 _ _ hc317) lki_X9_at lkv_X9_at lkc_L_26 hk317 (r := (RX9, TX9, 70)) ⟨rfl, by decide, rfl⟩ rfl rfl (Nat.le_of_ble_eq_true rfl) ⟨(Nat.le_of_ble_eq_true rfl), (Nat.le_of_ble_eq_true rfl)⟩ ⟨(by show kq18 + 0 ≤ 600000; omega), (by show sq18 + 0 ≤ 7302250; omega)⟩ dL_law_317 rfl rfl rfl ?_
          refine q_icmp_eq cx (pc' := 323) (tgt := 1581) dL_law_320 (by decide) rfl (fun c320 => ?_) (fun c320 => ?_)
          · replace h := ip c320 h
            obtain ⟨v3_1581, ev3_1581, h⟩ := nm_i h
            refine q_iinc cx (pc' := 1584) 3 rfl ki_6 ev3_1581 (by decide) (L' := [(3, .int v3_1581), (0, .ref b), (1, .ref r0), (2, .ref r8)]) rfl dL_law_1581 rfl ?_
            refine q_goto cx dL_law_1584 (tgt := 18) (by decide) ?_
            refine q_sub cx [1, 2, 3, 0] rfl ?_
            exact ih _ _ _ _ (by omega) (by omega) (hz18.1 _ h)
          · replace h := ine c320 h
            refine q_iconst cx (pc' := 324) ki_0 dL_law_323 rfl ?_
            replace h := hk18_r _ _ (hz18.2 _ h)
            obtain ⟨rfl, rfl⟩ := o2_i h
            exact absurd hz1 (by decide)
        replace h := ine c33_2 h
        rcases Decidable.em (s33 = 3) with c33_3 | c33_3
        · replace h := ip c33_3 h
          refine q_tabIn cx (off := 292) (tgt := 325) (es33.symm.trans c33_3) dL_law_33 (by decide) (by decide) ?_
          refine q_aload_n cx (pc' := 326) 1 rfl dL_law_325 rfl ?_
          refine q_aload_n cx (pc' := 327) 0 rfl dL_law_326 rfl ?_
          refine q_iload_n cx (pc' := 328) 3 rfl dL_law_327 rfl ?_
          refine q_iconst cx (pc' := 329) ki_1 dL_law_328 rfl ?_
          refine q_iadd cx (pc' := 330) dL_law_329 rfl ?_
          obtain ⟨hi330, x330, ex330, h⟩ := scA_i h
          refine q_sld cx (pc' := 331) hX hi330 ex330 dL_law_330 rfl ?_
          refine q_aload_n cx (pc' := 332) 0 rfl dL_law_331 rfl ?_
          refine q_iload_n cx (pc' := 333) 3 rfl dL_law_332 rfl ?_
          refine q_iconst cx (pc' := 334) ki_2 dL_law_333 rfl ?_
          refine q_iadd cx (pc' := 335) dL_law_334 rfl ?_
          obtain ⟨hi335, x335, ex335, h⟩ := scA_i h
          refine q_sld cx (pc' := 336) hX hi335 ex335 dL_law_335 rfl ?_
          obtain ⟨hk336, h⟩ := ck_i h
          obtain ⟨⟨c336, M336⟩, hc336, h⟩ := bnd_i h
          replace h := pr2_i h
          refine q_callV cx (pc' := 339) (S := []) (S1 := [.int c336]) (kc' := kq18) (ks' := sq18) 8 (ct_X8_set Γ l Mw_18 r0 x330 x335 hk336 _ _ hc336) lki_X8_set lkv_X8_set lkc_L_27 hk336 (r := (RX8, TX8, 10)) ⟨rfl, by decide, rfl⟩ rfl rfl (Nat.le_of_ble_eq_true rfl) ⟨(Nat.le_of_ble_eq_true rfl), (Nat.le_of_ble_eq_true rfl)⟩ ⟨(by show kq18 + 0 ≤ 600000; omega), (by show sq18 + 0 ≤ 7302250; omega)⟩ dL_law_336 rfl rfl rfl ?_
          refine q_aload_n cx (pc' := 340) 2 rfl dL_law_339 rfl ?_
          refine q_aload_n cx (pc' := 341) 0 rfl dL_law_340 rfl ?_
          refine q_iload_n cx (pc' := 342) 3 rfl dL_law_341 rfl ?_
          refine q_iconst cx (pc' := 343) ki_1 dL_law_342 rfl ?_
          refine q_iadd cx (pc' := 344) dL_law_343 rfl ?_
          obtain ⟨hi344, x344, ex344, h⟩ := scA_i h
          refine q_sld cx (pc' := 345) hX hi344 ex344 dL_law_344 rfl ?_
          refine q_aload_n cx (pc' := 346) 0 rfl dL_law_345 rfl ?_
          refine q_iload_n cx (pc' := 347) 3 rfl dL_law_346 rfl ?_
          refine q_iconst cx (pc' := 348) ki_2 dL_law_347 rfl ?_
          refine q_iadd cx (pc' := 349) dL_law_348 rfl ?_
          obtain ⟨hi349, x349, ex349, h⟩ := scA_i h
          refine q_sld cx (pc' := 350) hX hi349 ex349 dL_law_349 rfl ?_
          obtain ⟨hk350, h⟩ := ck_i h
          obtain ⟨⟨c350, M350⟩, hc350, h⟩ := bnd_i h
          replace h := pr2_i h
          refine q_callV cx (pc' := 353) (S := [.int c336]) (S1 := [.int c350, .int c336]) (kc' := kq18) (ks' := sq18) 9 (ct_X9_set Γ l M336 r8 x344 x349 hk350 _ _ hc350) lki_X9_set lkv_X9_set lkc_L_30 hk350 (r := (RX9, TX9, 70)) ⟨rfl, by decide, rfl⟩ rfl rfl (Nat.le_of_ble_eq_true rfl) ⟨(Nat.le_of_ble_eq_true rfl), (Nat.le_of_ble_eq_true rfl)⟩ ⟨(by show kq18 + 0 ≤ 600000; omega), (by show sq18 + 0 ≤ 7302250; omega)⟩ dL_law_350 rfl rfl rfl ?_
          refine q_icmp_eq cx (pc' := 356) (tgt := 1581) dL_law_353 (by decide) rfl (fun c353 => ?_) (fun c353 => ?_)
          · replace h := ip c353 h
            obtain ⟨v3_1581, ev3_1581, h⟩ := nm_i h
            refine q_iinc cx (pc' := 1584) 3 rfl ki_6 ev3_1581 (by decide) (L' := [(3, .int v3_1581), (0, .ref b), (1, .ref r0), (2, .ref r8)]) rfl dL_law_1581 rfl ?_
            refine q_goto cx dL_law_1584 (tgt := 18) (by decide) ?_
            refine q_sub cx [1, 2, 3, 0] rfl ?_
            exact ih _ _ _ _ (by omega) (by omega) (hz18.1 _ h)
          · replace h := ine c353 h
            refine q_iconst cx (pc' := 357) ki_0 dL_law_356 rfl ?_
            replace h := hk18_r _ _ (hz18.2 _ h)
            obtain ⟨rfl, rfl⟩ := o2_i h
            exact absurd hz1 (by decide)
        replace h := ine c33_3 h
        rcases Decidable.em (s33 = 4) with c33_4 | c33_4
        · replace h := ip c33_4 h
          refine q_tabIn cx (off := 325) (tgt := 358) (es33.symm.trans c33_4) dL_law_33 (by decide) (by decide) ?_
          refine q_aload_n cx (pc' := 359) 1 rfl dL_law_358 rfl ?_
          refine q_aload_n cx (pc' := 360) 0 rfl dL_law_359 rfl ?_
          refine q_iload_n cx (pc' := 361) 3 rfl dL_law_360 rfl ?_
          refine q_iconst cx (pc' := 362) ki_1 dL_law_361 rfl ?_
          refine q_iadd cx (pc' := 363) dL_law_362 rfl ?_
          obtain ⟨hi363, x363, ex363, h⟩ := scA_i h
          refine q_sld cx (pc' := 364) hX hi363 ex363 dL_law_363 rfl ?_
          refine q_aload_n cx (pc' := 365) 0 rfl dL_law_364 rfl ?_
          refine q_iload_n cx (pc' := 366) 3 rfl dL_law_365 rfl ?_
          refine q_iconst cx (pc' := 367) ki_2 dL_law_366 rfl ?_
          refine q_iadd cx (pc' := 368) dL_law_367 rfl ?_
          obtain ⟨hi368, x368, ex368, h⟩ := scA_i h
          refine q_sld cx (pc' := 369) hX hi368 ex368 dL_law_368 rfl ?_
          obtain ⟨hk369, h⟩ := ck_i h
          obtain ⟨⟨c369, M369⟩, hc369, h⟩ := bnd_i h
          replace h := pr2_i h
          refine q_callV cx (pc' := 372) (S := []) (S1 := [.int c369]) (kc' := kq18) (ks' := sq18) 8 (ct_X8_weigh Γ l Mw_18 r0 x363 x368 hk369 _ _ hc369) lki_X8_weigh lkv_X8_weigh lkc_L_31 hk369 (r := (RX8, TX8, 10)) ⟨rfl, by decide, rfl⟩ rfl rfl (Nat.le_of_ble_eq_true rfl) ⟨(Nat.le_of_ble_eq_true rfl), (Nat.le_of_ble_eq_true rfl)⟩ ⟨(by show kq18 + 0 ≤ 600000; omega), (by show sq18 + 0 ≤ 7302250; omega)⟩ dL_law_369 rfl rfl rfl ?_
          refine q_aload_n cx (pc' := 373) 2 rfl dL_law_372 rfl ?_
          refine q_aload_n cx (pc' := 374) 0 rfl dL_law_373 rfl ?_
          refine q_iload_n cx (pc' := 375) 3 rfl dL_law_374 rfl ?_
          refine q_iconst cx (pc' := 376) ki_1 dL_law_375 rfl ?_
          refine q_iadd cx (pc' := 377) dL_law_376 rfl ?_
          obtain ⟨hi377, x377, ex377, h⟩ := scA_i h
          refine q_sld cx (pc' := 378) hX hi377 ex377 dL_law_377 rfl ?_
          refine q_aload_n cx (pc' := 379) 0 rfl dL_law_378 rfl ?_
          refine q_iload_n cx (pc' := 380) 3 rfl dL_law_379 rfl ?_
          refine q_iconst cx (pc' := 381) ki_2 dL_law_380 rfl ?_
          refine q_iadd cx (pc' := 382) dL_law_381 rfl ?_
          obtain ⟨hi382, x382, ex382, h⟩ := scA_i h
          refine q_sld cx (pc' := 383) hX hi382 ex382 dL_law_382 rfl ?_
          obtain ⟨hk383, h⟩ := ck_i h
          obtain ⟨⟨c383, M383⟩, hc383, h⟩ := bnd_i h
          replace h := pr2_i h
          refine q_callV cx (pc' := 386) (S := [.int c369]) (S1 := [.int c383, .int c369]) (kc' := kq18) (ks' := sq18) 9 (ct_X9_weigh Γ l M369 r8 x377 x382 hk383 _ _ hc383) lki_X9_weigh lkv_X9_weigh lkc_L_34 hk383 (r := (RX9, TX9, 70)) ⟨rfl, by decide, rfl⟩ rfl rfl (Nat.le_of_ble_eq_true rfl) ⟨(Nat.le_of_ble_eq_true rfl), (Nat.le_of_ble_eq_true rfl)⟩ ⟨(by show kq18 + 0 ≤ 600000; omega), (by show sq18 + 0 ≤ 7302250; omega)⟩ dL_law_383 rfl rfl rfl ?_
          refine q_icmp_eq cx (pc' := 389) (tgt := 1581) dL_law_386 (by decide) rfl (fun c386 => ?_) (fun c386 => ?_)
          · replace h := ip c386 h
            obtain ⟨v3_1581, ev3_1581, h⟩ := nm_i h
            refine q_iinc cx (pc' := 1584) 3 rfl ki_6 ev3_1581 (by decide) (L' := [(3, .int v3_1581), (0, .ref b), (1, .ref r0), (2, .ref r8)]) rfl dL_law_1581 rfl ?_
            refine q_goto cx dL_law_1584 (tgt := 18) (by decide) ?_
            refine q_sub cx [1, 2, 3, 0] rfl ?_
            exact ih _ _ _ _ (by omega) (by omega) (hz18.1 _ h)
          · replace h := ine c386 h
            refine q_iconst cx (pc' := 390) ki_0 dL_law_389 rfl ?_
            replace h := hk18_r _ _ (hz18.2 _ h)
            obtain ⟨rfl, rfl⟩ := o2_i h
            exact absurd hz1 (by decide)
        replace h := ine c33_4 h
        rcases Decidable.em (s33 = 5) with c33_5 | c33_5
        · replace h := ip c33_5 h
          refine q_tabIn cx (off := 358) (tgt := 391) (es33.symm.trans c33_5) dL_law_33 (by decide) (by decide) ?_
          refine q_aload_n cx (pc' := 392) 1 rfl dL_law_391 rfl ?_
          refine q_aload_n cx (pc' := 393) 0 rfl dL_law_392 rfl ?_
          refine q_iload_n cx (pc' := 394) 3 rfl dL_law_393 rfl ?_
          refine q_iconst cx (pc' := 395) ki_1 dL_law_394 rfl ?_
          refine q_iadd cx (pc' := 396) dL_law_395 rfl ?_
          obtain ⟨hi396, x396, ex396, h⟩ := scA_i h
          refine q_sld cx (pc' := 397) hX hi396 ex396 dL_law_396 rfl ?_
          refine q_aload_n cx (pc' := 398) 0 rfl dL_law_397 rfl ?_
          refine q_iload_n cx (pc' := 399) 3 rfl dL_law_398 rfl ?_
          refine q_iconst cx (pc' := 400) ki_2 dL_law_399 rfl ?_
          refine q_iadd cx (pc' := 401) dL_law_400 rfl ?_
          obtain ⟨hi401, x401, ex401, h⟩ := scA_i h
          refine q_sld cx (pc' := 402) hX hi401 ex401 dL_law_401 rfl ?_
          refine q_aload_n cx (pc' := 403) 0 rfl dL_law_402 rfl ?_
          refine q_iload_n cx (pc' := 404) 3 rfl dL_law_403 rfl ?_
          refine q_iconst cx (pc' := 405) ki_3 dL_law_404 rfl ?_
          refine q_iadd cx (pc' := 406) dL_law_405 rfl ?_
          obtain ⟨hi406, x406, ex406, h⟩ := scA_i h
          refine q_sld cx (pc' := 407) hX hi406 ex406 dL_law_406 rfl ?_
          obtain ⟨hk407, h⟩ := ck_i h
          obtain ⟨⟨c407, M407⟩, hc407, h⟩ := bnd_i h
          replace h := pr2_i h
          refine q_callV cx (pc' := 410) (S := []) (S1 := [.int c407]) (kc' := kq18) (ks' := sq18) 8 (ct_X8_line Γ l Mw_18 r0 x396 x401 x406 hk407 _ _ hc407) lki_X8_line lkv_X8_line lkc_L_35 hk407 (r := (RX8, TX8, 10)) ⟨rfl, by decide, rfl⟩ rfl rfl (Nat.le_of_ble_eq_true rfl) ⟨(Nat.le_of_ble_eq_true rfl), (Nat.le_of_ble_eq_true rfl)⟩ ⟨(by show kq18 + 0 ≤ 600000; omega), (by show sq18 + 0 ≤ 7302250; omega)⟩ dL_law_407 rfl rfl rfl ?_
          refine q_aload_n cx (pc' := 411) 2 rfl dL_law_410 rfl ?_
          refine q_aload_n cx (pc' := 412) 0 rfl dL_law_411 rfl ?_
          refine q_iload_n cx (pc' := 413) 3 rfl dL_law_412 rfl ?_
          refine q_iconst cx (pc' := 414) ki_1 dL_law_413 rfl ?_
          refine q_iadd cx (pc' := 415) dL_law_414 rfl ?_
          obtain ⟨hi415, x415, ex415, h⟩ := scA_i h
          refine q_sld cx (pc' := 416) hX hi415 ex415 dL_law_415 rfl ?_
          refine q_aload_n cx (pc' := 417) 0 rfl dL_law_416 rfl ?_
          refine q_iload_n cx (pc' := 418) 3 rfl dL_law_417 rfl ?_
          refine q_iconst cx (pc' := 419) ki_2 dL_law_418 rfl ?_
          refine q_iadd cx (pc' := 420) dL_law_419 rfl ?_
          obtain ⟨hi420, x420, ex420, h⟩ := scA_i h
          refine q_sld cx (pc' := 421) hX hi420 ex420 dL_law_420 rfl ?_
          refine q_aload_n cx (pc' := 422) 0 rfl dL_law_421 rfl ?_
          refine q_iload_n cx (pc' := 423) 3 rfl dL_law_422 rfl ?_
          refine q_iconst cx (pc' := 424) ki_3 dL_law_423 rfl ?_
          refine q_iadd cx (pc' := 425) dL_law_424 rfl ?_
          obtain ⟨hi425, x425, ex425, h⟩ := scA_i h
          refine q_sld cx (pc' := 426) hX hi425 ex425 dL_law_425 rfl ?_
          obtain ⟨hk426, h⟩ := ck_i h
          obtain ⟨⟨c426, M426⟩, hc426, h⟩ := bnd_i h
          replace h := pr2_i h
          refine q_callV cx (pc' := 429) (S := [.int c407]) (S1 := [.int c426, .int c407]) (kc' := kq18) (ks' := sq18) 9 (ct_X9_line Γ l M407 r8 x415 x420 x425 hk426 _ _ hc426) lki_X9_line lkv_X9_line lkc_L_38 hk426 (r := (RX9, TX9, 70)) ⟨rfl, by decide, rfl⟩ rfl rfl (Nat.le_of_ble_eq_true rfl) ⟨(Nat.le_of_ble_eq_true rfl), (Nat.le_of_ble_eq_true rfl)⟩ ⟨(by show kq18 + 0 ≤ 600000; omega), (by show sq18 + 0 ≤ 7302250; omega)⟩ dL_law_426 rfl rfl rfl ?_
          refine q_icmp_eq cx (pc' := 432) (tgt := 1581) dL_law_429 (by decide) rfl (fun c429 => ?_) (fun c429 => ?_)
          · replace h := ip c429 h
            obtain ⟨v3_1581, ev3_1581, h⟩ := nm_i h
            refine q_iinc cx (pc' := 1584) 3 rfl ki_6 ev3_1581 (by decide) (L' := [(3, .int v3_1581), (0, .ref b), (1, .ref r0), (2, .ref r8)]) rfl dL_law_1581 rfl ?_
            refine q_goto cx dL_law_1584 (tgt := 18) (by decide) ?_
            refine q_sub cx [1, 2, 3, 0] rfl ?_
            exact ih _ _ _ _ (by omega) (by omega) (hz18.1 _ h)
          · replace h := ine c429 h
            refine q_iconst cx (pc' := 433) ki_0 dL_law_432 rfl ?_
            replace h := hk18_r _ _ (hz18.2 _ h)
            obtain ⟨rfl, rfl⟩ := o2_i h
            exact absurd hz1 (by decide)
        replace h := ine c33_5 h
        rcases Decidable.em (s33 = 6) with c33_6 | c33_6
        · replace h := ip c33_6 h
          refine q_tabIn cx (off := 401) (tgt := 434) (es33.symm.trans c33_6) dL_law_33 (by decide) (by decide) ?_
          refine q_aload_n cx (pc' := 435) 1 rfl dL_law_434 rfl ?_
          refine q_aload_n cx (pc' := 436) 0 rfl dL_law_435 rfl ?_
          refine q_iload_n cx (pc' := 437) 3 rfl dL_law_436 rfl ?_
          refine q_iconst cx (pc' := 438) ki_1 dL_law_437 rfl ?_
          refine q_iadd cx (pc' := 439) dL_law_438 rfl ?_
          obtain ⟨hi439, x439, ex439, h⟩ := scA_i h
          refine q_sld cx (pc' := 440) hX hi439 ex439 dL_law_439 rfl ?_
          obtain ⟨hk440, h⟩ := ck_i h
          obtain ⟨⟨c440, M440⟩, hc440, h⟩ := bnd_i h
          replace h := pr2_i h
          refine q_callV cx (pc' := 443) (S := []) (S1 := [.int c440]) (kc' := kq18) (ks' := sq18) 8 (ct_X8_milk Γ l Mw_18 r0 x439 hk440 _ _ hc440) lki_X8_milk lkv_X8_milk lkc_L_39 hk440 (r := (RX8, TX8, 10)) ⟨rfl, by decide, rfl⟩ rfl rfl (Nat.le_of_ble_eq_true rfl) ⟨(Nat.le_of_ble_eq_true rfl), (Nat.le_of_ble_eq_true rfl)⟩ ⟨(by show kq18 + 0 ≤ 600000; omega), (by show sq18 + 0 ≤ 7302250; omega)⟩ dL_law_440 rfl rfl rfl ?_
          refine q_aload_n cx (pc' := 444) 2 rfl dL_law_443 rfl ?_
          refine q_aload_n cx (pc' := 445) 0 rfl dL_law_444 rfl ?_
          refine q_iload_n cx (pc' := 446) 3 rfl dL_law_445 rfl ?_
          refine q_iconst cx (pc' := 447) ki_1 dL_law_446 rfl ?_
          refine q_iadd cx (pc' := 448) dL_law_447 rfl ?_
          obtain ⟨hi448, x448, ex448, h⟩ := scA_i h
          refine q_sld cx (pc' := 449) hX hi448 ex448 dL_law_448 rfl ?_
          obtain ⟨hk449, h⟩ := ck_i h
          obtain ⟨⟨c449, M449⟩, hc449, h⟩ := bnd_i h
          replace h := pr2_i h
          refine q_callV cx (pc' := 452) (S := [.int c440]) (S1 := [.int c449, .int c440]) (kc' := kq18) (ks' := sq18) 9 (ct_X9_milk Γ l M440 r8 x448 hk449 _ _ hc449) lki_X9_milk lkv_X9_milk lkc_L_43 hk449 (r := (RX9, TX9, 70)) ⟨rfl, by decide, rfl⟩ rfl rfl (Nat.le_of_ble_eq_true rfl) ⟨(Nat.le_of_ble_eq_true rfl), (Nat.le_of_ble_eq_true rfl)⟩ ⟨(by show kq18 + 0 ≤ 600000; omega), (by show sq18 + 0 ≤ 7302250; omega)⟩ dL_law_449 rfl rfl rfl ?_
          refine q_icmp_eq cx (pc' := 455) (tgt := 1581) dL_law_452 (by decide) rfl (fun c452 => ?_) (fun c452 => ?_)
          · replace h := ip c452 h
            obtain ⟨v3_1581, ev3_1581, h⟩ := nm_i h
            refine q_iinc cx (pc' := 1584) 3 rfl ki_6 ev3_1581 (by decide) (L' := [(3, .int v3_1581), (0, .ref b), (1, .ref r0), (2, .ref r8)]) rfl dL_law_1581 rfl ?_
            refine q_goto cx dL_law_1584 (tgt := 18) (by decide) ?_
            refine q_sub cx [1, 2, 3, 0] rfl ?_
            exact ih _ _ _ _ (by omega) (by omega) (hz18.1 _ h)
          · replace h := ine c452 h
            refine q_iconst cx (pc' := 456) ki_0 dL_law_455 rfl ?_
            replace h := hk18_r _ _ (hz18.2 _ h)
            obtain ⟨rfl, rfl⟩ := o2_i h
            exact absurd hz1 (by decide)
        replace h := ine c33_6 h
        rcases Decidable.em (s33 = 7) with c33_7 | c33_7
        · replace h := ip c33_7 h
          refine q_tabIn cx (off := 424) (tgt := 457) (es33.symm.trans c33_7) dL_law_33 (by decide) (by decide) ?_
          refine q_aload_n cx (pc' := 458) 1 rfl dL_law_457 rfl ?_
          refine q_aload_n cx (pc' := 459) 0 rfl dL_law_458 rfl ?_
          refine q_iload_n cx (pc' := 460) 3 rfl dL_law_459 rfl ?_
          refine q_iconst cx (pc' := 461) ki_1 dL_law_460 rfl ?_
          refine q_iadd cx (pc' := 462) dL_law_461 rfl ?_
          obtain ⟨hi462, x462, ex462, h⟩ := scA_i h
          refine q_sld cx (pc' := 463) hX hi462 ex462 dL_law_462 rfl ?_
          refine q_aload_n cx (pc' := 464) 0 rfl dL_law_463 rfl ?_
          refine q_iload_n cx (pc' := 465) 3 rfl dL_law_464 rfl ?_
          refine q_iconst cx (pc' := 466) ki_2 dL_law_465 rfl ?_
          refine q_iadd cx (pc' := 467) dL_law_466 rfl ?_
          obtain ⟨hi467, x467, ex467, h⟩ := scA_i h
          refine q_sld cx (pc' := 468) hX hi467 ex467 dL_law_467 rfl ?_
          obtain ⟨hk468, h⟩ := ck_i h
          obtain ⟨⟨c468, M468⟩, hc468, h⟩ := bnd_i h
          replace h := pr2_i h
          refine q_callV cx (pc' := 471) (S := []) (S1 := [.int c468]) (kc' := kq18) (ks' := sq18) 8 (ct_X8_stir Γ l Mw_18 r0 x462 x467 hk468 _ _ hc468) lki_X8_stir lkv_X8_stir lkc_L_44 hk468 (r := (RX8, TX8, 10)) ⟨rfl, by decide, rfl⟩ rfl rfl (Nat.le_of_ble_eq_true rfl) ⟨(Nat.le_of_ble_eq_true rfl), (Nat.le_of_ble_eq_true rfl)⟩ ⟨(by show kq18 + 0 ≤ 600000; omega), (by show sq18 + 0 ≤ 7302250; omega)⟩ dL_law_468 rfl rfl rfl ?_
          refine q_aload_n cx (pc' := 472) 2 rfl dL_law_471 rfl ?_
          refine q_aload_n cx (pc' := 473) 0 rfl dL_law_472 rfl ?_
          refine q_iload_n cx (pc' := 474) 3 rfl dL_law_473 rfl ?_
          refine q_iconst cx (pc' := 475) ki_1 dL_law_474 rfl ?_
          refine q_iadd cx (pc' := 476) dL_law_475 rfl ?_
          obtain ⟨hi476, x476, ex476, h⟩ := scA_i h
          refine q_sld cx (pc' := 477) hX hi476 ex476 dL_law_476 rfl ?_
          refine q_aload_n cx (pc' := 478) 0 rfl dL_law_477 rfl ?_
          refine q_iload_n cx (pc' := 479) 3 rfl dL_law_478 rfl ?_
          refine q_iconst cx (pc' := 480) ki_2 dL_law_479 rfl ?_
          refine q_iadd cx (pc' := 481) dL_law_480 rfl ?_
          obtain ⟨hi481, x481, ex481, h⟩ := scA_i h
          refine q_sld cx (pc' := 482) hX hi481 ex481 dL_law_481 rfl ?_
          obtain ⟨hk482, h⟩ := ck_i h
          obtain ⟨⟨c482, M482⟩, hc482, h⟩ := bnd_i h
          replace h := pr2_i h
          refine q_callV cx (pc' := 485) (S := [.int c468]) (S1 := [.int c482, .int c468]) (kc' := kq18) (ks' := sq18) 9 (ct_X9_stir Γ l M468 r8 x476 x481 hk482 _ _ hc482) lki_X9_stir lkv_X9_stir lkc_L_47 hk482 (r := (RX9, TX9, 70)) ⟨rfl, by decide, rfl⟩ rfl rfl (Nat.le_of_ble_eq_true rfl) ⟨(Nat.le_of_ble_eq_true rfl), (Nat.le_of_ble_eq_true rfl)⟩ ⟨(by show kq18 + 0 ≤ 600000; omega), (by show sq18 + 0 ≤ 7302250; omega)⟩ dL_law_482 rfl rfl rfl ?_
          refine q_icmp_eq cx (pc' := 488) (tgt := 1581) dL_law_485 (by decide) rfl (fun c485 => ?_) (fun c485 => ?_)
          · replace h := ip c485 h
            obtain ⟨v3_1581, ev3_1581, h⟩ := nm_i h
            refine q_iinc cx (pc' := 1584) 3 rfl ki_6 ev3_1581 (by decide) (L' := [(3, .int v3_1581), (0, .ref b), (1, .ref r0), (2, .ref r8)]) rfl dL_law_1581 rfl ?_
            refine q_goto cx dL_law_1584 (tgt := 18) (by decide) ?_
            refine q_sub cx [1, 2, 3, 0] rfl ?_
            exact ih _ _ _ _ (by omega) (by omega) (hz18.1 _ h)
          · replace h := ine c485 h
            refine q_iconst cx (pc' := 489) ki_0 dL_law_488 rfl ?_
            replace h := hk18_r _ _ (hz18.2 _ h)
            obtain ⟨rfl, rfl⟩ := o2_i h
            exact absurd hz1 (by decide)
        replace h := ine c33_7 h
        rcases Decidable.em (s33 = 8) with c33_8 | c33_8
        · replace h := ip c33_8 h
          refine q_tabIn cx (off := 457) (tgt := 490) (es33.symm.trans c33_8) dL_law_33 (by decide) (by decide) ?_
          refine q_aload_n cx (pc' := 491) 1 rfl dL_law_490 rfl ?_
          refine q_aload_n cx (pc' := 492) 0 rfl dL_law_491 rfl ?_
          refine q_iload_n cx (pc' := 493) 3 rfl dL_law_492 rfl ?_
          refine q_iconst cx (pc' := 494) ki_1 dL_law_493 rfl ?_
          refine q_iadd cx (pc' := 495) dL_law_494 rfl ?_
          obtain ⟨hi495, x495, ex495, h⟩ := scA_i h
          refine q_sld cx (pc' := 496) hX hi495 ex495 dL_law_495 rfl ?_
          obtain ⟨hk496, h⟩ := ck_i h
          obtain ⟨⟨c496, M496⟩, hc496, h⟩ := bnd_i h
          replace h := pr2_i h
          refine q_callV cx (pc' := 499) (S := []) (S1 := [.int c496]) (kc' := kq18) (ks' := sq18) 8 (ct_X8_feed Γ l Mw_18 r0 x495 hk496 _ _ hc496) lki_X8_feed lkv_X8_feed lkc_L_48 hk496 (r := (RX8, TX8, 10)) ⟨rfl, by decide, rfl⟩ rfl rfl (Nat.le_of_ble_eq_true rfl) ⟨(Nat.le_of_ble_eq_true rfl), (Nat.le_of_ble_eq_true rfl)⟩ ⟨(by show kq18 + 0 ≤ 600000; omega), (by show sq18 + 0 ≤ 7302250; omega)⟩ dL_law_496 rfl rfl rfl ?_
          refine q_aload_n cx (pc' := 500) 2 rfl dL_law_499 rfl ?_
          refine q_aload_n cx (pc' := 501) 0 rfl dL_law_500 rfl ?_
          refine q_iload_n cx (pc' := 502) 3 rfl dL_law_501 rfl ?_
          refine q_iconst cx (pc' := 503) ki_1 dL_law_502 rfl ?_
          refine q_iadd cx (pc' := 504) dL_law_503 rfl ?_
          obtain ⟨hi504, x504, ex504, h⟩ := scA_i h
          refine q_sld cx (pc' := 505) hX hi504 ex504 dL_law_504 rfl ?_
          obtain ⟨hk505, h⟩ := ck_i h
          obtain ⟨⟨c505, M505⟩, hc505, h⟩ := bnd_i h
          replace h := pr2_i h
          refine q_callV cx (pc' := 508) (S := [.int c496]) (S1 := [.int c505, .int c496]) (kc' := kq18) (ks' := sq18) 9 (ct_X9_feed Γ l M496 r8 x504 hk505 _ _ hc505) lki_X9_feed lkv_X9_feed lkc_L_51 hk505 (r := (RX9, TX9, 70)) ⟨rfl, by decide, rfl⟩ rfl rfl (Nat.le_of_ble_eq_true rfl) ⟨(Nat.le_of_ble_eq_true rfl), (Nat.le_of_ble_eq_true rfl)⟩ ⟨(by show kq18 + 0 ≤ 600000; omega), (by show sq18 + 0 ≤ 7302250; omega)⟩ dL_law_505 rfl rfl rfl ?_
          refine q_icmp_eq cx (pc' := 511) (tgt := 1581) dL_law_508 (by decide) rfl (fun c508 => ?_) (fun c508 => ?_)
          · replace h := ip c508 h
            obtain ⟨v3_1581, ev3_1581, h⟩ := nm_i h
            refine q_iinc cx (pc' := 1584) 3 rfl ki_6 ev3_1581 (by decide) (L' := [(3, .int v3_1581), (0, .ref b), (1, .ref r0), (2, .ref r8)]) rfl dL_law_1581 rfl ?_
            refine q_goto cx dL_law_1584 (tgt := 18) (by decide) ?_
            refine q_sub cx [1, 2, 3, 0] rfl ?_
            exact ih _ _ _ _ (by omega) (by omega) (hz18.1 _ h)
          · replace h := ine c508 h
            refine q_iconst cx (pc' := 512) ki_0 dL_law_511 rfl ?_
            replace h := hk18_r _ _ (hz18.2 _ h)
            obtain ⟨rfl, rfl⟩ := o2_i h
            exact absurd hz1 (by decide)
        replace h := ine c33_8 h
        rcases Decidable.em (s33 = 9) with c33_9 | c33_9
        · replace h := ip c33_9 h
          refine q_tabIn cx (off := 480) (tgt := 513) (es33.symm.trans c33_9) dL_law_33 (by decide) (by decide) ?_
          refine q_aload_n cx (pc' := 514) 1 rfl dL_law_513 rfl ?_
          obtain ⟨hk514, h⟩ := ck_i h
          obtain ⟨⟨c514, M514⟩, hc514, h⟩ := bnd_i h
          replace h := pr2_i h
          refine q_callV cx (pc' := 517) (S := []) (S1 := [.int c514]) (kc' := kq18 + 2) (ks' := sq18 + 1603) 8 (ct_X8_brew Γ l Mw_18 r0 hk514 _ _ hc514) lki_X8_brew lkv_X8_brew lkc_L_52 hk514 (r := (RX8, TX8, 10)) ⟨rfl, by decide, rfl⟩ rfl rfl (Nat.le_of_ble_eq_true rfl) ⟨(Nat.le_of_ble_eq_true rfl), (Nat.le_of_ble_eq_true rfl)⟩ ⟨(by show kq18 + 2 ≤ 600000; omega), (by show sq18 + 1603 ≤ 7302250; omega)⟩ dL_law_514 rfl rfl rfl ?_
          refine q_aload_n cx (pc' := 518) 2 rfl dL_law_517 rfl ?_
          obtain ⟨hk518, h⟩ := ck_i h
          obtain ⟨⟨c518, M518⟩, hc518, h⟩ := bnd_i h
          replace h := pr2_i h
          refine q_callV cx (pc' := 521) (S := [.int c514]) (S1 := [.int c518, .int c514]) (kc' := kq18 + 2) (ks' := sq18 + 1603) 9 (ct_X9_brew Γ l M514 r8 hk518 _ _ hc518) lki_X9_brew lkv_X9_brew lkc_L_56 hk518 (r := (RX9, TX9, 70)) ⟨rfl, by decide, rfl⟩ rfl rfl (Nat.le_of_ble_eq_true rfl) ⟨(Nat.le_of_ble_eq_true rfl), (Nat.le_of_ble_eq_true rfl)⟩ ⟨(by show kq18 + 2 + 0 ≤ 600000; omega), (by show sq18 + 1603 + 0 ≤ 7302250; omega)⟩ dL_law_518 rfl rfl rfl ?_
          refine q_icmp_eq cx (pc' := 524) (tgt := 1581) dL_law_521 (by decide) rfl (fun c521 => ?_) (fun c521 => ?_)
          · replace h := ip c521 h
            obtain ⟨v3_1581, ev3_1581, h⟩ := nm_i h
            refine q_iinc cx (pc' := 1584) 3 rfl ki_6 ev3_1581 (by decide) (L' := [(3, .int v3_1581), (0, .ref b), (1, .ref r0), (2, .ref r8)]) rfl dL_law_1581 rfl ?_
            refine q_goto cx dL_law_1584 (tgt := 18) (by decide) ?_
            refine q_sub cx [1, 2, 3, 0] rfl ?_
            exact ih _ _ _ _ (by omega) (by omega) (hz18.1 _ h)
          · replace h := ine c521 h
            refine q_iconst cx (pc' := 525) ki_0 dL_law_524 rfl ?_
            replace h := hk18_r _ _ (hz18.2 _ h)
            obtain ⟨rfl, rfl⟩ := o2_i h
            exact absurd hz1 (by decide)
        replace h := ine c33_9 h
        rcases Decidable.em (s33 = 10) with c33_10 | c33_10
        · replace h := ip c33_10 h
          refine q_tabIn cx (off := 493) (tgt := 526) (es33.symm.trans c33_10) dL_law_33 (by decide) (by decide) ?_
          refine q_aload_n cx (pc' := 527) 1 rfl dL_law_526 rfl ?_
          refine q_aload_n cx (pc' := 528) 0 rfl dL_law_527 rfl ?_
          refine q_iload_n cx (pc' := 529) 3 rfl dL_law_528 rfl ?_
          refine q_iconst cx (pc' := 530) ki_1 dL_law_529 rfl ?_
          refine q_iadd cx (pc' := 531) dL_law_530 rfl ?_
          obtain ⟨hi531, x531, ex531, h⟩ := scA_i h
          refine q_sld cx (pc' := 532) hX hi531 ex531 dL_law_531 rfl ?_
          obtain ⟨hk532, h⟩ := ck_i h
          obtain ⟨c532, hc532, h⟩ := bnd_i h
          refine q_callV cx (pc' := 535) (S := []) (S1 := [.int c532]) (kc' := kq18) (ks' := sq18) 8 (ct_X8_told Γ l Mw_18 r0 x531 hk532 _ hc532) lki_X8_told lkv_X8_told lkc_L_57 hk532 (r := (RX8, TX8, 10)) ⟨rfl, by decide, rfl⟩ rfl rfl (Nat.le_of_ble_eq_true rfl) ⟨(Nat.le_of_ble_eq_true rfl), (Nat.le_of_ble_eq_true rfl)⟩ ⟨(by show kq18 + 0 ≤ 600000; omega), (by show sq18 + 0 ≤ 7302250; omega)⟩ dL_law_532 rfl rfl rfl ?_
          refine q_aload_n cx (pc' := 536) 2 rfl dL_law_535 rfl ?_
          refine q_aload_n cx (pc' := 537) 0 rfl dL_law_536 rfl ?_
          refine q_iload_n cx (pc' := 538) 3 rfl dL_law_537 rfl ?_
          refine q_iconst cx (pc' := 539) ki_1 dL_law_538 rfl ?_
          refine q_iadd cx (pc' := 540) dL_law_539 rfl ?_
          obtain ⟨hi540, x540, ex540, h⟩ := scA_i h
          refine q_sld cx (pc' := 541) hX hi540 ex540 dL_law_540 rfl ?_
          obtain ⟨hk541, h⟩ := ck_i h
          obtain ⟨⟨c541, M541⟩, hc541, h⟩ := bnd_i h
          replace h := pr2_i h
          refine q_callV cx (pc' := 544) (S := [.int c532]) (S1 := [.int c541, .int c532]) (kc' := kq18) (ks' := sq18) 9 (ct_X9_told Γ l Mw_18 r8 x540 hk541 _ _ hc541) lki_X9_told lkv_X9_told lkc_L_60 hk541 (r := (RX9, TX9, 70)) ⟨rfl, by decide, rfl⟩ rfl rfl (Nat.le_of_ble_eq_true rfl) ⟨(Nat.le_of_ble_eq_true rfl), (Nat.le_of_ble_eq_true rfl)⟩ ⟨(by show kq18 + 0 ≤ 600000; omega), (by show sq18 + 0 ≤ 7302250; omega)⟩ dL_law_541 rfl rfl rfl ?_
          refine q_icmp_eq cx (pc' := 547) (tgt := 1581) dL_law_544 (by decide) rfl (fun c544 => ?_) (fun c544 => ?_)
          · replace h := ip c544 h
            obtain ⟨v3_1581, ev3_1581, h⟩ := nm_i h
            refine q_iinc cx (pc' := 1584) 3 rfl ki_6 ev3_1581 (by decide) (L' := [(3, .int v3_1581), (0, .ref b), (1, .ref r0), (2, .ref r8)]) rfl dL_law_1581 rfl ?_
            refine q_goto cx dL_law_1584 (tgt := 18) (by decide) ?_
            refine q_sub cx [1, 2, 3, 0] rfl ?_
            exact ih _ _ _ _ (by omega) (by omega) (hz18.1 _ h)
          · replace h := ine c544 h
            refine q_iconst cx (pc' := 548) ki_0 dL_law_547 rfl ?_
            replace h := hk18_r _ _ (hz18.2 _ h)
            obtain ⟨rfl, rfl⟩ := o2_i h
            exact absurd hz1 (by decide)
        replace h := ine c33_10 h
        rcases Decidable.em (s33 = 11) with c33_11 | c33_11
        · replace h := ip c33_11 h
          refine q_tabIn cx (off := 516) (tgt := 549) (es33.symm.trans c33_11) dL_law_33 (by decide) (by decide) ?_
          refine q_aload_n cx (pc' := 550) 1 rfl dL_law_549 rfl ?_
          refine q_aload_n cx (pc' := 551) 0 rfl dL_law_550 rfl ?_
          refine q_iload_n cx (pc' := 552) 3 rfl dL_law_551 rfl ?_
          refine q_iconst cx (pc' := 553) ki_1 dL_law_552 rfl ?_
          refine q_iadd cx (pc' := 554) dL_law_553 rfl ?_
          obtain ⟨hi554, x554, ex554, h⟩ := scA_i h
          refine q_sld cx (pc' := 555) hX hi554 ex554 dL_law_554 rfl ?_
          obtain ⟨hk555, h⟩ := ck_i h
          obtain ⟨⟨c555, M555⟩, hc555, h⟩ := bnd_i h
          replace h := pr2_i h
          refine q_callV cx (pc' := 558) (S := []) (S1 := [.int c555]) (kc' := kq18) (ks' := sq18) 8 (ct_X8_pass Γ l Mw_18 r0 x554 hk555 _ _ hc555) lki_X8_pass lkv_X8_pass lkc_L_61 hk555 (r := (RX8, TX8, 10)) ⟨rfl, by decide, rfl⟩ rfl rfl (Nat.le_of_ble_eq_true rfl) ⟨(Nat.le_of_ble_eq_true rfl), (Nat.le_of_ble_eq_true rfl)⟩ ⟨(by show kq18 + 0 ≤ 600000; omega), (by show sq18 + 0 ≤ 7302250; omega)⟩ dL_law_555 rfl rfl rfl ?_
          refine q_aload_n cx (pc' := 559) 2 rfl dL_law_558 rfl ?_
          refine q_aload_n cx (pc' := 560) 0 rfl dL_law_559 rfl ?_
          refine q_iload_n cx (pc' := 561) 3 rfl dL_law_560 rfl ?_
          refine q_iconst cx (pc' := 562) ki_1 dL_law_561 rfl ?_
          refine q_iadd cx (pc' := 563) dL_law_562 rfl ?_
          obtain ⟨hi563, x563, ex563, h⟩ := scA_i h
          refine q_sld cx (pc' := 564) hX hi563 ex563 dL_law_563 rfl ?_
          obtain ⟨hk564, h⟩ := ck_i h
          obtain ⟨⟨c564, M564⟩, hc564, h⟩ := bnd_i h
          replace h := pr2_i h
          refine q_callV cx (pc' := 567) (S := [.int c555]) (S1 := [.int c564, .int c555]) (kc' := kq18) (ks' := sq18) 9 (ct_X9_pass Γ l M555 r8 x563 hk564 _ _ hc564) lki_X9_pass lkv_X9_pass lkc_L_64 hk564 (r := (RX9, TX9, 70)) ⟨rfl, by decide, rfl⟩ rfl rfl (Nat.le_of_ble_eq_true rfl) ⟨(Nat.le_of_ble_eq_true rfl), (Nat.le_of_ble_eq_true rfl)⟩ ⟨(by show kq18 + 0 ≤ 600000; omega), (by show sq18 + 0 ≤ 7302250; omega)⟩ dL_law_564 rfl rfl rfl ?_
          refine q_icmp_eq cx (pc' := 570) (tgt := 1581) dL_law_567 (by decide) rfl (fun c567 => ?_) (fun c567 => ?_)
          · replace h := ip c567 h
            obtain ⟨v3_1581, ev3_1581, h⟩ := nm_i h
            refine q_iinc cx (pc' := 1584) 3 rfl ki_6 ev3_1581 (by decide) (L' := [(3, .int v3_1581), (0, .ref b), (1, .ref r0), (2, .ref r8)]) rfl dL_law_1581 rfl ?_
            refine q_goto cx dL_law_1584 (tgt := 18) (by decide) ?_
            refine q_sub cx [1, 2, 3, 0] rfl ?_
            exact ih _ _ _ _ (by omega) (by omega) (hz18.1 _ h)
          · replace h := ine c567 h
            refine q_iconst cx (pc' := 571) ki_0 dL_law_570 rfl ?_
            replace h := hk18_r _ _ (hz18.2 _ h)
            obtain ⟨rfl, rfl⟩ := o2_i h
            exact absurd hz1 (by decide)
        replace h := ine c33_11 h
        rcases Decidable.em (s33 = 12) with c33_12 | c33_12
        · replace h := ip c33_12 h
          refine q_tabIn cx (off := 539) (tgt := 572) (es33.symm.trans c33_12) dL_law_33 (by decide) (by decide) ?_
          refine q_aload_n cx (pc' := 573) 1 rfl dL_law_572 rfl ?_
          refine q_aload_n cx (pc' := 574) 0 rfl dL_law_573 rfl ?_
          refine q_iload_n cx (pc' := 575) 3 rfl dL_law_574 rfl ?_
          refine q_iconst cx (pc' := 576) ki_1 dL_law_575 rfl ?_
          refine q_iadd cx (pc' := 577) dL_law_576 rfl ?_
          obtain ⟨hi577, x577, ex577, h⟩ := scA_i h
          refine q_sld cx (pc' := 578) hX hi577 ex577 dL_law_577 rfl ?_
          refine q_aload_n cx (pc' := 579) 0 rfl dL_law_578 rfl ?_
          refine q_iload_n cx (pc' := 580) 3 rfl dL_law_579 rfl ?_
          refine q_iconst cx (pc' := 581) ki_2 dL_law_580 rfl ?_
          refine q_iadd cx (pc' := 582) dL_law_581 rfl ?_
          obtain ⟨hi582, x582, ex582, h⟩ := scA_i h
          refine q_sld cx (pc' := 583) hX hi582 ex582 dL_law_582 rfl ?_
          obtain ⟨hk583, h⟩ := ck_i h
          obtain ⟨⟨c583, M583⟩, hc583, h⟩ := bnd_i h
          replace h := pr2_i h
          refine q_callV cx (pc' := 586) (S := []) (S1 := [.int c583]) (kc' := kq18) (ks' := sq18) 8 (ct_X8_on Γ l Mw_18 r0 x577 x582 hk583 _ _ hc583) lki_X8_on lkv_X8_on lkc_L_65 hk583 (r := (RX8, TX8, 10)) ⟨rfl, by decide, rfl⟩ rfl rfl (Nat.le_of_ble_eq_true rfl) ⟨(Nat.le_of_ble_eq_true rfl), (Nat.le_of_ble_eq_true rfl)⟩ ⟨(by show kq18 + 0 ≤ 600000; omega), (by show sq18 + 0 ≤ 7302250; omega)⟩ dL_law_583 rfl rfl rfl ?_
          refine q_aload_n cx (pc' := 587) 2 rfl dL_law_586 rfl ?_
          refine q_aload_n cx (pc' := 588) 0 rfl dL_law_587 rfl ?_
          refine q_iload_n cx (pc' := 589) 3 rfl dL_law_588 rfl ?_
          refine q_iconst cx (pc' := 590) ki_1 dL_law_589 rfl ?_
          refine q_iadd cx (pc' := 591) dL_law_590 rfl ?_
          obtain ⟨hi591, x591, ex591, h⟩ := scA_i h
          refine q_sld cx (pc' := 592) hX hi591 ex591 dL_law_591 rfl ?_
          refine q_aload_n cx (pc' := 593) 0 rfl dL_law_592 rfl ?_
          refine q_iload_n cx (pc' := 594) 3 rfl dL_law_593 rfl ?_
          refine q_iconst cx (pc' := 595) ki_2 dL_law_594 rfl ?_
          refine q_iadd cx (pc' := 596) dL_law_595 rfl ?_
          obtain ⟨hi596, x596, ex596, h⟩ := scA_i h
          refine q_sld cx (pc' := 597) hX hi596 ex596 dL_law_596 rfl ?_
          obtain ⟨hk597, h⟩ := ck_i h
          obtain ⟨⟨c597, M597⟩, hc597, h⟩ := bnd_i h
          replace h := pr2_i h
          refine q_callV cx (pc' := 600) (S := [.int c583]) (S1 := [.int c597, .int c583]) (kc' := kq18) (ks' := sq18) 9 (ct_X9_on Γ l M583 r8 x591 x596 hk597 _ _ hc597) lki_X9_on lkv_X9_on lkc_L_68 hk597 (r := (RX9, TX9, 70)) ⟨rfl, by decide, rfl⟩ rfl rfl (Nat.le_of_ble_eq_true rfl) ⟨(Nat.le_of_ble_eq_true rfl), (Nat.le_of_ble_eq_true rfl)⟩ ⟨(by show kq18 + 0 ≤ 600000; omega), (by show sq18 + 0 ≤ 7302250; omega)⟩ dL_law_597 rfl rfl rfl ?_
          refine q_icmp_eq cx (pc' := 603) (tgt := 1581) dL_law_600 (by decide) rfl (fun c600 => ?_) (fun c600 => ?_)
          · replace h := ip c600 h
            obtain ⟨v3_1581, ev3_1581, h⟩ := nm_i h
            refine q_iinc cx (pc' := 1584) 3 rfl ki_6 ev3_1581 (by decide) (L' := [(3, .int v3_1581), (0, .ref b), (1, .ref r0), (2, .ref r8)]) rfl dL_law_1581 rfl ?_
            refine q_goto cx dL_law_1584 (tgt := 18) (by decide) ?_
            refine q_sub cx [1, 2, 3, 0] rfl ?_
            exact ih _ _ _ _ (by omega) (by omega) (hz18.1 _ h)
          · replace h := ine c600 h
            refine q_iconst cx (pc' := 604) ki_0 dL_law_603 rfl ?_
            replace h := hk18_r _ _ (hz18.2 _ h)
            obtain ⟨rfl, rfl⟩ := o2_i h
            exact absurd hz1 (by decide)
        replace h := ine c33_12 h
        rcases Decidable.em (s33 = 13) with c33_13 | c33_13
        · replace h := ip c33_13 h
          refine q_tabIn cx (off := 572) (tgt := 605) (es33.symm.trans c33_13) dL_law_33 (by decide) (by decide) ?_
          refine q_aload_n cx (pc' := 606) 1 rfl dL_law_605 rfl ?_
          refine q_aload_n cx (pc' := 607) 0 rfl dL_law_606 rfl ?_
          refine q_iload_n cx (pc' := 608) 3 rfl dL_law_607 rfl ?_
          refine q_iconst cx (pc' := 609) ki_1 dL_law_608 rfl ?_
          refine q_iadd cx (pc' := 610) dL_law_609 rfl ?_
          obtain ⟨hi610, x610, ex610, h⟩ := scA_i h
          refine q_sld cx (pc' := 611) hX hi610 ex610 dL_law_610 rfl ?_
          obtain ⟨hk611, h⟩ := ck_i h
          obtain ⟨⟨c611, M611⟩, hc611, h⟩ := bnd_i h
          replace h := pr2_i h
          refine q_callV cx (pc' := 614) (S := []) (S1 := [.int c611]) (kc' := kq18) (ks' := sq18) 8 (ct_X8_soon Γ l Mw_18 r0 x610 hk611 _ _ hc611) lki_X8_soon lkv_X8_soon lkc_L_69 hk611 (r := (RX8, TX8, 10)) ⟨rfl, by decide, rfl⟩ rfl rfl (Nat.le_of_ble_eq_true rfl) ⟨(Nat.le_of_ble_eq_true rfl), (Nat.le_of_ble_eq_true rfl)⟩ ⟨(by show kq18 + 0 ≤ 600000; omega), (by show sq18 + 0 ≤ 7302250; omega)⟩ dL_law_611 rfl rfl rfl ?_
          refine q_aload_n cx (pc' := 615) 2 rfl dL_law_614 rfl ?_
          refine q_aload_n cx (pc' := 616) 0 rfl dL_law_615 rfl ?_
          refine q_iload_n cx (pc' := 617) 3 rfl dL_law_616 rfl ?_
          refine q_iconst cx (pc' := 618) ki_1 dL_law_617 rfl ?_
          refine q_iadd cx (pc' := 619) dL_law_618 rfl ?_
          obtain ⟨hi619, x619, ex619, h⟩ := scA_i h
          refine q_sld cx (pc' := 620) hX hi619 ex619 dL_law_619 rfl ?_
          obtain ⟨hk620, h⟩ := ck_i h
          obtain ⟨⟨c620, M620⟩, hc620, h⟩ := bnd_i h
          replace h := pr2_i h
          refine q_callV cx (pc' := 623) (S := [.int c611]) (S1 := [.int c620, .int c611]) (kc' := kq18) (ks' := sq18) 9 (ct_X9_soon Γ l M611 r8 x619 hk620 _ _ hc620) lki_X9_soon lkv_X9_soon lkc_L_72 hk620 (r := (RX9, TX9, 70)) ⟨rfl, by decide, rfl⟩ rfl rfl (Nat.le_of_ble_eq_true rfl) ⟨(Nat.le_of_ble_eq_true rfl), (Nat.le_of_ble_eq_true rfl)⟩ ⟨(by show kq18 + 0 ≤ 600000; omega), (by show sq18 + 0 ≤ 7302250; omega)⟩ dL_law_620 rfl rfl rfl ?_
          refine q_icmp_eq cx (pc' := 626) (tgt := 1581) dL_law_623 (by decide) rfl (fun c623 => ?_) (fun c623 => ?_)
          · replace h := ip c623 h
            obtain ⟨v3_1581, ev3_1581, h⟩ := nm_i h
            refine q_iinc cx (pc' := 1584) 3 rfl ki_6 ev3_1581 (by decide) (L' := [(3, .int v3_1581), (0, .ref b), (1, .ref r0), (2, .ref r8)]) rfl dL_law_1581 rfl ?_
            refine q_goto cx dL_law_1584 (tgt := 18) (by decide) ?_
            refine q_sub cx [1, 2, 3, 0] rfl ?_
            exact ih _ _ _ _ (by omega) (by omega) (hz18.1 _ h)
          · replace h := ine c623 h
            refine q_iconst cx (pc' := 627) ki_0 dL_law_626 rfl ?_
            replace h := hk18_r _ _ (hz18.2 _ h)
            obtain ⟨rfl, rfl⟩ := o2_i h
            exact absurd hz1 (by decide)
        replace h := ine c33_13 h
        rcases Decidable.em (s33 = 14) with c33_14 | c33_14
        · replace h := ip c33_14 h
          refine q_tabIn cx (off := 595) (tgt := 628) (es33.symm.trans c33_14) dL_law_33 (by decide) (by decide) ?_
          refine q_aload_n cx (pc' := 629) 1 rfl dL_law_628 rfl ?_
          refine q_aload_n cx (pc' := 630) 0 rfl dL_law_629 rfl ?_
          refine q_iload_n cx (pc' := 631) 3 rfl dL_law_630 rfl ?_
          refine q_iconst cx (pc' := 632) ki_1 dL_law_631 rfl ?_
          refine q_iadd cx (pc' := 633) dL_law_632 rfl ?_
          obtain ⟨hi633, x633, ex633, h⟩ := scA_i h
          refine q_sld cx (pc' := 634) hX hi633 ex633 dL_law_633 rfl ?_
          refine q_aload_n cx (pc' := 635) 0 rfl dL_law_634 rfl ?_
          refine q_iload_n cx (pc' := 636) 3 rfl dL_law_635 rfl ?_
          refine q_iconst cx (pc' := 637) ki_2 dL_law_636 rfl ?_
          refine q_iadd cx (pc' := 638) dL_law_637 rfl ?_
          obtain ⟨hi638, x638, ex638, h⟩ := scA_i h
          refine q_sld cx (pc' := 639) hX hi638 ex638 dL_law_638 rfl ?_
          obtain ⟨hk639, h⟩ := ck_i h
          obtain ⟨c639, hc639, h⟩ := bnd_i h
          refine q_callV cx (pc' := 642) (S := []) (S1 := [.int c639]) (kc' := kq18) (ks' := sq18) 8 (ct_X8_way Γ l Mw_18 r0 x633 x638 hk639 _ hc639) lki_X8_way lkv_X8_way lkc_L_73 hk639 (r := (RX8, TX8, 10)) ⟨rfl, by decide, rfl⟩ rfl rfl (Nat.le_of_ble_eq_true rfl) ⟨(Nat.le_of_ble_eq_true rfl), (Nat.le_of_ble_eq_true rfl)⟩ ⟨(by show kq18 + 0 ≤ 600000; omega), (by show sq18 + 0 ≤ 7302250; omega)⟩ dL_law_639 rfl rfl rfl ?_
          refine q_aload_n cx (pc' := 643) 2 rfl dL_law_642 rfl ?_
          refine q_aload_n cx (pc' := 644) 0 rfl dL_law_643 rfl ?_
          refine q_iload_n cx (pc' := 645) 3 rfl dL_law_644 rfl ?_
          refine q_iconst cx (pc' := 646) ki_1 dL_law_645 rfl ?_
          refine q_iadd cx (pc' := 647) dL_law_646 rfl ?_
          obtain ⟨hi647, x647, ex647, h⟩ := scA_i h
          refine q_sld cx (pc' := 648) hX hi647 ex647 dL_law_647 rfl ?_
          refine q_aload_n cx (pc' := 649) 0 rfl dL_law_648 rfl ?_
          refine q_iload_n cx (pc' := 650) 3 rfl dL_law_649 rfl ?_
          refine q_iconst cx (pc' := 651) ki_2 dL_law_650 rfl ?_
          refine q_iadd cx (pc' := 652) dL_law_651 rfl ?_
          obtain ⟨hi652, x652, ex652, h⟩ := scA_i h
          refine q_sld cx (pc' := 653) hX hi652 ex652 dL_law_652 rfl ?_
          obtain ⟨hk653, h⟩ := ck_i h
          obtain ⟨⟨c653, M653⟩, hc653, h⟩ := bnd_i h
          replace h := pr2_i h
          refine q_callV cx (pc' := 656) (S := [.int c639]) (S1 := [.int c653, .int c639]) (kc' := kq18) (ks' := sq18) 9 (ct_X9_way Γ l Mw_18 r8 x647 x652 hk653 _ _ hc653) lki_X9_way lkv_X9_way lkc_L_76 hk653 (r := (RX9, TX9, 70)) ⟨rfl, by decide, rfl⟩ rfl rfl (Nat.le_of_ble_eq_true rfl) ⟨(Nat.le_of_ble_eq_true rfl), (Nat.le_of_ble_eq_true rfl)⟩ ⟨(by show kq18 + 0 ≤ 600000; omega), (by show sq18 + 0 ≤ 7302250; omega)⟩ dL_law_653 rfl rfl rfl ?_
          refine q_icmp_eq cx (pc' := 659) (tgt := 1581) dL_law_656 (by decide) rfl (fun c656 => ?_) (fun c656 => ?_)
          · replace h := ip c656 h
            obtain ⟨v3_1581, ev3_1581, h⟩ := nm_i h
            refine q_iinc cx (pc' := 1584) 3 rfl ki_6 ev3_1581 (by decide) (L' := [(3, .int v3_1581), (0, .ref b), (1, .ref r0), (2, .ref r8)]) rfl dL_law_1581 rfl ?_
            refine q_goto cx dL_law_1584 (tgt := 18) (by decide) ?_
            refine q_sub cx [1, 2, 3, 0] rfl ?_
            exact ih _ _ _ _ (by omega) (by omega) (hz18.1 _ h)
          · replace h := ine c656 h
            refine q_iconst cx (pc' := 660) ki_0 dL_law_659 rfl ?_
            replace h := hk18_r _ _ (hz18.2 _ h)
            obtain ⟨rfl, rfl⟩ := o2_i h
            exact absurd hz1 (by decide)
        replace h := ine c33_14 h
        rcases Decidable.em (s33 = 15) with c33_15 | c33_15
        · replace h := ip c33_15 h
          refine q_tabIn cx (off := 628) (tgt := 661) (es33.symm.trans c33_15) dL_law_33 (by decide) (by decide) ?_
          refine q_aload_n cx (pc' := 662) 1 rfl dL_law_661 rfl ?_
          refine q_aload_n cx (pc' := 663) 0 rfl dL_law_662 rfl ?_
          refine q_iload_n cx (pc' := 664) 3 rfl dL_law_663 rfl ?_
          refine q_iconst cx (pc' := 665) ki_1 dL_law_664 rfl ?_
          refine q_iadd cx (pc' := 666) dL_law_665 rfl ?_
          obtain ⟨hi666, x666, ex666, h⟩ := scA_i h
          refine q_sld cx (pc' := 667) hX hi666 ex666 dL_law_666 rfl ?_
          refine q_aload_n cx (pc' := 668) 0 rfl dL_law_667 rfl ?_
          refine q_iload_n cx (pc' := 669) 3 rfl dL_law_668 rfl ?_
          refine q_iconst cx (pc' := 670) ki_2 dL_law_669 rfl ?_
          refine q_iadd cx (pc' := 671) dL_law_670 rfl ?_
          obtain ⟨hi671, x671, ex671, h⟩ := scA_i h
          refine q_sld cx (pc' := 672) hX hi671 ex671 dL_law_671 rfl ?_
          refine q_aload_n cx (pc' := 673) 0 rfl dL_law_672 rfl ?_
          refine q_iload_n cx (pc' := 674) 3 rfl dL_law_673 rfl ?_
          refine q_iconst cx (pc' := 675) ki_3 dL_law_674 rfl ?_
          refine q_iadd cx (pc' := 676) dL_law_675 rfl ?_
          obtain ⟨hi676, x676, ex676, h⟩ := scA_i h
          refine q_sld cx (pc' := 677) hX hi676 ex676 dL_law_676 rfl ?_
          obtain ⟨hk677, h⟩ := ck_i h
          obtain ⟨c677, hc677, h⟩ := bnd_i h
          refine q_callV cx (pc' := 680) (S := []) (S1 := [.int c677]) (kc' := kq18) (ks' := sq18) 8 (ct_X8_reach Γ l Mw_18 r0 x666 x671 x676 hk677 _ hc677) lki_X8_reach lkv_X8_reach lkc_L_77 hk677 (r := (RX8, TX8, 10)) ⟨rfl, by decide, rfl⟩ rfl rfl (Nat.le_of_ble_eq_true rfl) ⟨(Nat.le_of_ble_eq_true rfl), (Nat.le_of_ble_eq_true rfl)⟩ ⟨(by show kq18 + 0 ≤ 600000; omega), (by show sq18 + 0 ≤ 7302250; omega)⟩ dL_law_677 rfl rfl rfl ?_
          refine q_aload_n cx (pc' := 681) 2 rfl dL_law_680 rfl ?_
          refine q_aload_n cx (pc' := 682) 0 rfl dL_law_681 rfl ?_
          refine q_iload_n cx (pc' := 683) 3 rfl dL_law_682 rfl ?_
          refine q_iconst cx (pc' := 684) ki_1 dL_law_683 rfl ?_
          refine q_iadd cx (pc' := 685) dL_law_684 rfl ?_
          obtain ⟨hi685, x685, ex685, h⟩ := scA_i h
          refine q_sld cx (pc' := 686) hX hi685 ex685 dL_law_685 rfl ?_
          refine q_aload_n cx (pc' := 687) 0 rfl dL_law_686 rfl ?_
          refine q_iload_n cx (pc' := 688) 3 rfl dL_law_687 rfl ?_
          refine q_iconst cx (pc' := 689) ki_2 dL_law_688 rfl ?_
          refine q_iadd cx (pc' := 690) dL_law_689 rfl ?_
          obtain ⟨hi690, x690, ex690, h⟩ := scA_i h
          refine q_sld cx (pc' := 691) hX hi690 ex690 dL_law_690 rfl ?_
          refine q_aload_n cx (pc' := 692) 0 rfl dL_law_691 rfl ?_
          refine q_iload_n cx (pc' := 693) 3 rfl dL_law_692 rfl ?_
          refine q_iconst cx (pc' := 694) ki_3 dL_law_693 rfl ?_
          refine q_iadd cx (pc' := 695) dL_law_694 rfl ?_
          obtain ⟨hi695, x695, ex695, h⟩ := scA_i h
          refine q_sld cx (pc' := 696) hX hi695 ex695 dL_law_695 rfl ?_
          obtain ⟨hk696, h⟩ := ck_i h
          obtain ⟨⟨c696, M696⟩, hc696, h⟩ := bnd_i h
          replace h := pr2_i h
          refine q_callV cx (pc' := 699) (S := [.int c677]) (S1 := [.int c696, .int c677]) (kc' := kq18) (ks' := sq18) 9 (ct_X9_reach Γ l Mw_18 r8 x685 x690 x695 hk696 _ _ hc696) lki_X9_reach lkv_X9_reach lkc_L_80 hk696 (r := (RX9, TX9, 70)) ⟨rfl, by decide, rfl⟩ rfl rfl (Nat.le_of_ble_eq_true rfl) ⟨(Nat.le_of_ble_eq_true rfl), (Nat.le_of_ble_eq_true rfl)⟩ ⟨(by show kq18 + 0 ≤ 600000; omega), (by show sq18 + 0 ≤ 7302250; omega)⟩ dL_law_696 rfl rfl rfl ?_
          refine q_icmp_eq cx (pc' := 702) (tgt := 1581) dL_law_699 (by decide) rfl (fun c699 => ?_) (fun c699 => ?_)
          · replace h := ip c699 h
            obtain ⟨v3_1581, ev3_1581, h⟩ := nm_i h
            refine q_iinc cx (pc' := 1584) 3 rfl ki_6 ev3_1581 (by decide) (L' := [(3, .int v3_1581), (0, .ref b), (1, .ref r0), (2, .ref r8)]) rfl dL_law_1581 rfl ?_
            refine q_goto cx dL_law_1584 (tgt := 18) (by decide) ?_
            refine q_sub cx [1, 2, 3, 0] rfl ?_
            exact ih _ _ _ _ (by omega) (by omega) (hz18.1 _ h)
          · replace h := ine c699 h
            refine q_iconst cx (pc' := 703) ki_0 dL_law_702 rfl ?_
            replace h := hk18_r _ _ (hz18.2 _ h)
            obtain ⟨rfl, rfl⟩ := o2_i h
            exact absurd hz1 (by decide)
        replace h := ine c33_15 h
        rcases Decidable.em (s33 = 16) with c33_16 | c33_16
        · replace h := ip c33_16 h
          refine q_tabIn cx (off := 671) (tgt := 704) (es33.symm.trans c33_16) dL_law_33 (by decide) (by decide) ?_
          refine q_aload_n cx (pc' := 705) 1 rfl dL_law_704 rfl ?_
          refine q_aload_n cx (pc' := 706) 0 rfl dL_law_705 rfl ?_
          refine q_iload_n cx (pc' := 707) 3 rfl dL_law_706 rfl ?_
          refine q_iconst cx (pc' := 708) ki_1 dL_law_707 rfl ?_
          refine q_iadd cx (pc' := 709) dL_law_708 rfl ?_
          obtain ⟨hi709, x709, ex709, h⟩ := scA_i h
          refine q_sld cx (pc' := 710) hX hi709 ex709 dL_law_709 rfl ?_
          obtain ⟨hk710, h⟩ := ck_i h
          obtain ⟨⟨c710, M710⟩, hc710, h⟩ := bnd_i h
          replace h := pr2_i h
          refine q_callV cx (pc' := 713) (S := []) (S1 := [.int c710]) (kc' := kq18) (ks' := sq18) 8 (ct_X8_heaviest Γ l Mw_18 r0 x709 hk710 _ _ hc710) lki_X8_heaviest lkv_X8_heaviest lkc_L_81 hk710 (r := (RX8, TX8, 10)) ⟨rfl, by decide, rfl⟩ rfl rfl (Nat.le_of_ble_eq_true rfl) ⟨(Nat.le_of_ble_eq_true rfl), (Nat.le_of_ble_eq_true rfl)⟩ ⟨(by show kq18 + 0 ≤ 600000; omega), (by show sq18 + 0 ≤ 7302250; omega)⟩ dL_law_710 rfl rfl rfl ?_
          refine q_aload_n cx (pc' := 714) 2 rfl dL_law_713 rfl ?_
          refine q_aload_n cx (pc' := 715) 0 rfl dL_law_714 rfl ?_
          refine q_iload_n cx (pc' := 716) 3 rfl dL_law_715 rfl ?_
          refine q_iconst cx (pc' := 717) ki_1 dL_law_716 rfl ?_
          refine q_iadd cx (pc' := 718) dL_law_717 rfl ?_
          obtain ⟨hi718, x718, ex718, h⟩ := scA_i h
          refine q_sld cx (pc' := 719) hX hi718 ex718 dL_law_718 rfl ?_
          obtain ⟨hk719, h⟩ := ck_i h
          obtain ⟨⟨c719, M719⟩, hc719, h⟩ := bnd_i h
          replace h := pr2_i h
          refine q_callV cx (pc' := 722) (S := [.int c710]) (S1 := [.int c719, .int c710]) (kc' := kq18) (ks' := sq18) 9 (ct_X9_heaviest Γ l M710 r8 x718 hk719 _ _ hc719) lki_X9_heaviest lkv_X9_heaviest lkc_L_84 hk719 (r := (RX9, TX9, 70)) ⟨rfl, by decide, rfl⟩ rfl rfl (Nat.le_of_ble_eq_true rfl) ⟨(Nat.le_of_ble_eq_true rfl), (Nat.le_of_ble_eq_true rfl)⟩ ⟨(by show kq18 + 0 ≤ 600000; omega), (by show sq18 + 0 ≤ 7302250; omega)⟩ dL_law_719 rfl rfl rfl ?_
          refine q_icmp_eq cx (pc' := 725) (tgt := 1581) dL_law_722 (by decide) rfl (fun c722 => ?_) (fun c722 => ?_)
          · replace h := ip c722 h
            obtain ⟨v3_1581, ev3_1581, h⟩ := nm_i h
            refine q_iinc cx (pc' := 1584) 3 rfl ki_6 ev3_1581 (by decide) (L' := [(3, .int v3_1581), (0, .ref b), (1, .ref r0), (2, .ref r8)]) rfl dL_law_1581 rfl ?_
            refine q_goto cx dL_law_1584 (tgt := 18) (by decide) ?_
            refine q_sub cx [1, 2, 3, 0] rfl ?_
            exact ih _ _ _ _ (by omega) (by omega) (hz18.1 _ h)
          · replace h := ine c722 h
            refine q_iconst cx (pc' := 726) ki_0 dL_law_725 rfl ?_
            replace h := hk18_r _ _ (hz18.2 _ h)
            obtain ⟨rfl, rfl⟩ := o2_i h
            exact absurd hz1 (by decide)
        replace h := ine c33_16 h
        rcases Decidable.em (s33 = 17) with c33_17 | c33_17
        · replace h := ip c33_17 h
          refine q_tabIn cx (off := 694) (tgt := 727) (es33.symm.trans c33_17) dL_law_33 (by decide) (by decide) ?_
          refine q_aload_n cx (pc' := 728) 1 rfl dL_law_727 rfl ?_
          refine q_aload_n cx (pc' := 729) 0 rfl dL_law_728 rfl ?_
          refine q_iload_n cx (pc' := 730) 3 rfl dL_law_729 rfl ?_
          refine q_iconst cx (pc' := 731) ki_1 dL_law_730 rfl ?_
          refine q_iadd cx (pc' := 732) dL_law_731 rfl ?_
          obtain ⟨hi732, x732, ex732, h⟩ := scA_i h
          refine q_sld cx (pc' := 733) hX hi732 ex732 dL_law_732 rfl ?_
          refine q_aload_n cx (pc' := 734) 0 rfl dL_law_733 rfl ?_
          refine q_iload_n cx (pc' := 735) 3 rfl dL_law_734 rfl ?_
          refine q_iconst cx (pc' := 736) ki_2 dL_law_735 rfl ?_
          refine q_iadd cx (pc' := 737) dL_law_736 rfl ?_
          obtain ⟨hi737, x737, ex737, h⟩ := scA_i h
          refine q_sld cx (pc' := 738) hX hi737 ex737 dL_law_737 rfl ?_
          obtain ⟨hk738, h⟩ := ck_i h
          obtain ⟨c738, hc738, h⟩ := bnd_i h
          refine q_callV cx (pc' := 741) (S := []) (S1 := [.int c738]) (kc' := kq18) (ks' := sq18) 8 (ct_X8_cut Γ l Mw_18 r0 x732 x737 hk738 _ hc738) lki_X8_cut lkv_X8_cut lkc_L_85 hk738 (r := (RX8, TX8, 10)) ⟨rfl, by decide, rfl⟩ rfl rfl (Nat.le_of_ble_eq_true rfl) ⟨(Nat.le_of_ble_eq_true rfl), (Nat.le_of_ble_eq_true rfl)⟩ ⟨(by show kq18 + 0 ≤ 600000; omega), (by show sq18 + 0 ≤ 7302250; omega)⟩ dL_law_738 rfl rfl rfl ?_
          refine q_aload_n cx (pc' := 742) 2 rfl dL_law_741 rfl ?_
          refine q_aload_n cx (pc' := 743) 0 rfl dL_law_742 rfl ?_
          refine q_iload_n cx (pc' := 744) 3 rfl dL_law_743 rfl ?_
          refine q_iconst cx (pc' := 745) ki_1 dL_law_744 rfl ?_
          refine q_iadd cx (pc' := 746) dL_law_745 rfl ?_
          obtain ⟨hi746, x746, ex746, h⟩ := scA_i h
          refine q_sld cx (pc' := 747) hX hi746 ex746 dL_law_746 rfl ?_
          refine q_aload_n cx (pc' := 748) 0 rfl dL_law_747 rfl ?_
          refine q_iload_n cx (pc' := 749) 3 rfl dL_law_748 rfl ?_
          refine q_iconst cx (pc' := 750) ki_2 dL_law_749 rfl ?_
          refine q_iadd cx (pc' := 751) dL_law_750 rfl ?_
          obtain ⟨hi751, x751, ex751, h⟩ := scA_i h
          refine q_sld cx (pc' := 752) hX hi751 ex751 dL_law_751 rfl ?_
          obtain ⟨hk752, h⟩ := ck_i h
          obtain ⟨⟨c752, M752⟩, hc752, h⟩ := bnd_i h
          replace h := pr2_i h
          refine q_callV cx (pc' := 755) (S := [.int c738]) (S1 := [.int c752, .int c738]) (kc' := kq18) (ks' := sq18) 9 (ct_X9_cut Γ l Mw_18 r8 x746 x751 hk752 _ _ hc752) lki_X9_cut lkv_X9_cut lkc_L_88 hk752 (r := (RX9, TX9, 70)) ⟨rfl, by decide, rfl⟩ rfl rfl (Nat.le_of_ble_eq_true rfl) ⟨(Nat.le_of_ble_eq_true rfl), (Nat.le_of_ble_eq_true rfl)⟩ ⟨(by show kq18 + 0 ≤ 600000; omega), (by show sq18 + 0 ≤ 7302250; omega)⟩ dL_law_752 rfl rfl rfl ?_
          refine q_icmp_eq cx (pc' := 758) (tgt := 1581) dL_law_755 (by decide) rfl (fun c755 => ?_) (fun c755 => ?_)
          · replace h := ip c755 h
            obtain ⟨v3_1581, ev3_1581, h⟩ := nm_i h
            refine q_iinc cx (pc' := 1584) 3 rfl ki_6 ev3_1581 (by decide) (L' := [(3, .int v3_1581), (0, .ref b), (1, .ref r0), (2, .ref r8)]) rfl dL_law_1581 rfl ?_
            refine q_goto cx dL_law_1584 (tgt := 18) (by decide) ?_
            refine q_sub cx [1, 2, 3, 0] rfl ?_
            exact ih _ _ _ _ (by omega) (by omega) (hz18.1 _ h)
          · replace h := ine c755 h
            refine q_iconst cx (pc' := 759) ki_0 dL_law_758 rfl ?_
            replace h := hk18_r _ _ (hz18.2 _ h)
            obtain ⟨rfl, rfl⟩ := o2_i h
            exact absurd hz1 (by decide)
        replace h := ine c33_17 h
        rcases Decidable.em (s33 = 18) with c33_18 | c33_18
        · replace h := ip c33_18 h
          refine q_tabIn cx (off := 727) (tgt := 760) (es33.symm.trans c33_18) dL_law_33 (by decide) (by decide) ?_
          refine q_aload_n cx (pc' := 761) 1 rfl dL_law_760 rfl ?_
          refine q_aload_n cx (pc' := 762) 0 rfl dL_law_761 rfl ?_
          refine q_iload_n cx (pc' := 763) 3 rfl dL_law_762 rfl ?_
          refine q_iconst cx (pc' := 764) ki_1 dL_law_763 rfl ?_
          refine q_iadd cx (pc' := 765) dL_law_764 rfl ?_
          obtain ⟨hi765, x765, ex765, h⟩ := scA_i h
          refine q_sld cx (pc' := 766) hX hi765 ex765 dL_law_765 rfl ?_
          obtain ⟨hk766, h⟩ := ck_i h
          obtain ⟨⟨c766, M766⟩, hc766, h⟩ := bnd_i h
          replace h := pr2_i h
          refine q_callV cx (pc' := 769) (S := []) (S1 := [.int c766]) (kc' := kq18) (ks' := sq18) 8 (ct_X8_stirred Γ l Mw_18 r0 x765 hk766 _ _ hc766) lki_X8_stirred lkv_X8_stirred lkc_L_89 hk766 (r := (RX8, TX8, 10)) ⟨rfl, by decide, rfl⟩ rfl rfl (Nat.le_of_ble_eq_true rfl) ⟨(Nat.le_of_ble_eq_true rfl), (Nat.le_of_ble_eq_true rfl)⟩ ⟨(by show kq18 + 0 ≤ 600000; omega), (by show sq18 + 0 ≤ 7302250; omega)⟩ dL_law_766 rfl rfl rfl ?_
          refine q_aload_n cx (pc' := 770) 2 rfl dL_law_769 rfl ?_
          refine q_aload_n cx (pc' := 771) 0 rfl dL_law_770 rfl ?_
          refine q_iload_n cx (pc' := 772) 3 rfl dL_law_771 rfl ?_
          refine q_iconst cx (pc' := 773) ki_1 dL_law_772 rfl ?_
          refine q_iadd cx (pc' := 774) dL_law_773 rfl ?_
          obtain ⟨hi774, x774, ex774, h⟩ := scA_i h
          refine q_sld cx (pc' := 775) hX hi774 ex774 dL_law_774 rfl ?_
          obtain ⟨hk775, h⟩ := ck_i h
          obtain ⟨⟨c775, M775⟩, hc775, h⟩ := bnd_i h
          replace h := pr2_i h
          refine q_callV cx (pc' := 778) (S := [.int c766]) (S1 := [.int c775, .int c766]) (kc' := kq18) (ks' := sq18) 9 (ct_X9_stirred Γ l M766 r8 x774 hk775 _ _ hc775) lki_X9_stirred lkv_X9_stirred lkc_L_92 hk775 (r := (RX9, TX9, 70)) ⟨rfl, by decide, rfl⟩ rfl rfl (Nat.le_of_ble_eq_true rfl) ⟨(Nat.le_of_ble_eq_true rfl), (Nat.le_of_ble_eq_true rfl)⟩ ⟨(by show kq18 + 0 ≤ 600000; omega), (by show sq18 + 0 ≤ 7302250; omega)⟩ dL_law_775 rfl rfl rfl ?_
          refine q_icmp_eq cx (pc' := 781) (tgt := 1581) dL_law_778 (by decide) rfl (fun c778 => ?_) (fun c778 => ?_)
          · replace h := ip c778 h
            obtain ⟨v3_1581, ev3_1581, h⟩ := nm_i h
            refine q_iinc cx (pc' := 1584) 3 rfl ki_6 ev3_1581 (by decide) (L' := [(3, .int v3_1581), (0, .ref b), (1, .ref r0), (2, .ref r8)]) rfl dL_law_1581 rfl ?_
            refine q_goto cx dL_law_1584 (tgt := 18) (by decide) ?_
            refine q_sub cx [1, 2, 3, 0] rfl ?_
            exact ih _ _ _ _ (by omega) (by omega) (hz18.1 _ h)
          · replace h := ine c778 h
            refine q_iconst cx (pc' := 782) ki_0 dL_law_781 rfl ?_
            replace h := hk18_r _ _ (hz18.2 _ h)
            obtain ⟨rfl, rfl⟩ := o2_i h
            exact absurd hz1 (by decide)
        replace h := ine c33_18 h
        rcases Decidable.em (s33 = 19) with c33_19 | c33_19
        · replace h := ip c33_19 h
          refine q_tabIn cx (off := 750) (tgt := 783) (es33.symm.trans c33_19) dL_law_33 (by decide) (by decide) ?_
          refine q_aload_n cx (pc' := 784) 1 rfl dL_law_783 rfl ?_
          refine q_aload_n cx (pc' := 785) 0 rfl dL_law_784 rfl ?_
          refine q_iload_n cx (pc' := 786) 3 rfl dL_law_785 rfl ?_
          refine q_iconst cx (pc' := 787) ki_1 dL_law_786 rfl ?_
          refine q_iadd cx (pc' := 788) dL_law_787 rfl ?_
          obtain ⟨hi788, x788, ex788, h⟩ := scA_i h
          refine q_sld cx (pc' := 789) hX hi788 ex788 dL_law_788 rfl ?_
          refine q_aload_n cx (pc' := 790) 0 rfl dL_law_789 rfl ?_
          refine q_iload_n cx (pc' := 791) 3 rfl dL_law_790 rfl ?_
          refine q_iconst cx (pc' := 792) ki_2 dL_law_791 rfl ?_
          refine q_iadd cx (pc' := 793) dL_law_792 rfl ?_
          obtain ⟨hi793, x793, ex793, h⟩ := scA_i h
          refine q_sld cx (pc' := 794) hX hi793 ex793 dL_law_793 rfl ?_
          obtain ⟨hk794, h⟩ := ck_i h
          obtain ⟨c794, hc794, h⟩ := bnd_i h
          refine q_callV cx (pc' := 797) (S := []) (S1 := [.int c794]) (kc' := kq18) (ks' := sq18) 8 (ct_X8_meet Γ l Mw_18 r0 x788 x793 hk794 _ hc794) lki_X8_meet lkv_X8_meet lkc_L_93 hk794 (r := (RX8, TX8, 10)) ⟨rfl, by decide, rfl⟩ rfl rfl (Nat.le_of_ble_eq_true rfl) ⟨(Nat.le_of_ble_eq_true rfl), (Nat.le_of_ble_eq_true rfl)⟩ ⟨(by show kq18 + 0 ≤ 600000; omega), (by show sq18 + 0 ≤ 7302250; omega)⟩ dL_law_794 rfl rfl rfl ?_
          refine q_aload_n cx (pc' := 798) 2 rfl dL_law_797 rfl ?_
          refine q_aload_n cx (pc' := 799) 0 rfl dL_law_798 rfl ?_
          refine q_iload_n cx (pc' := 800) 3 rfl dL_law_799 rfl ?_
          refine q_iconst cx (pc' := 801) ki_1 dL_law_800 rfl ?_
          refine q_iadd cx (pc' := 802) dL_law_801 rfl ?_
          obtain ⟨hi802, x802, ex802, h⟩ := scA_i h
          refine q_sld cx (pc' := 803) hX hi802 ex802 dL_law_802 rfl ?_
          refine q_aload_n cx (pc' := 804) 0 rfl dL_law_803 rfl ?_
          refine q_iload_n cx (pc' := 805) 3 rfl dL_law_804 rfl ?_
          refine q_iconst cx (pc' := 806) ki_2 dL_law_805 rfl ?_
          refine q_iadd cx (pc' := 807) dL_law_806 rfl ?_
          obtain ⟨hi807, x807, ex807, h⟩ := scA_i h
          refine q_sld cx (pc' := 808) hX hi807 ex807 dL_law_807 rfl ?_
          obtain ⟨hk808, h⟩ := ck_i h
          obtain ⟨⟨c808, M808⟩, hc808, h⟩ := bnd_i h
          replace h := pr2_i h
          refine q_callV cx (pc' := 811) (S := [.int c794]) (S1 := [.int c808, .int c794]) (kc' := kq18) (ks' := sq18) 9 (ct_X9_meet Γ l Mw_18 r8 x802 x807 hk808 _ _ hc808) lki_X9_meet lkv_X9_meet lkc_L_96 hk808 (r := (RX9, TX9, 70)) ⟨rfl, by decide, rfl⟩ rfl rfl (Nat.le_of_ble_eq_true rfl) ⟨(Nat.le_of_ble_eq_true rfl), (Nat.le_of_ble_eq_true rfl)⟩ ⟨(by show kq18 + 0 ≤ 600000; omega), (by show sq18 + 0 ≤ 7302250; omega)⟩ dL_law_808 rfl rfl rfl ?_
          refine q_icmp_eq cx (pc' := 814) (tgt := 1581) dL_law_811 (by decide) rfl (fun c811 => ?_) (fun c811 => ?_)
          · replace h := ip c811 h
            obtain ⟨v3_1581, ev3_1581, h⟩ := nm_i h
            refine q_iinc cx (pc' := 1584) 3 rfl ki_6 ev3_1581 (by decide) (L' := [(3, .int v3_1581), (0, .ref b), (1, .ref r0), (2, .ref r8)]) rfl dL_law_1581 rfl ?_
            refine q_goto cx dL_law_1584 (tgt := 18) (by decide) ?_
            refine q_sub cx [1, 2, 3, 0] rfl ?_
            exact ih _ _ _ _ (by omega) (by omega) (hz18.1 _ h)
          · replace h := ine c811 h
            refine q_iconst cx (pc' := 815) ki_0 dL_law_814 rfl ?_
            replace h := hk18_r _ _ (hz18.2 _ h)
            obtain ⟨rfl, rfl⟩ := o2_i h
            exact absurd hz1 (by decide)
        replace h := ine c33_19 h
        rcases Decidable.em (s33 = 20) with c33_20 | c33_20
        · replace h := ip c33_20 h
          refine q_tabIn cx (off := 783) (tgt := 816) (es33.symm.trans c33_20) dL_law_33 (by decide) (by decide) ?_
          refine q_aload_n cx (pc' := 817) 1 rfl dL_law_816 rfl ?_
          refine q_aload_n cx (pc' := 818) 0 rfl dL_law_817 rfl ?_
          refine q_iload_n cx (pc' := 819) 3 rfl dL_law_818 rfl ?_
          refine q_iconst cx (pc' := 820) ki_1 dL_law_819 rfl ?_
          refine q_iadd cx (pc' := 821) dL_law_820 rfl ?_
          obtain ⟨hi821, x821, ex821, h⟩ := scA_i h
          refine q_sld cx (pc' := 822) hX hi821 ex821 dL_law_821 rfl ?_
          obtain ⟨hk822, h⟩ := ck_i h
          obtain ⟨⟨c822, M822⟩, hc822, h⟩ := bnd_i h
          replace h := pr2_i h
          refine q_callV cx (pc' := 825) (S := []) (S1 := [.int c822]) (kc' := kq18) (ks' := sq18) 8 (ct_X8_print Γ l Mw_18 r0 x821 hk822 _ _ hc822) lki_X8_print lkv_X8_print lkc_L_97 hk822 (r := (RX8, TX8, 10)) ⟨rfl, by decide, rfl⟩ rfl rfl (Nat.le_of_ble_eq_true rfl) ⟨(Nat.le_of_ble_eq_true rfl), (Nat.le_of_ble_eq_true rfl)⟩ ⟨(by show kq18 + 0 ≤ 600000; omega), (by show sq18 + 0 ≤ 7302250; omega)⟩ dL_law_822 rfl rfl rfl ?_
          refine q_aload_n cx (pc' := 826) 2 rfl dL_law_825 rfl ?_
          refine q_aload_n cx (pc' := 827) 0 rfl dL_law_826 rfl ?_
          refine q_iload_n cx (pc' := 828) 3 rfl dL_law_827 rfl ?_
          refine q_iconst cx (pc' := 829) ki_1 dL_law_828 rfl ?_
          refine q_iadd cx (pc' := 830) dL_law_829 rfl ?_
          obtain ⟨hi830, x830, ex830, h⟩ := scA_i h
          refine q_sld cx (pc' := 831) hX hi830 ex830 dL_law_830 rfl ?_
          obtain ⟨hk831, h⟩ := ck_i h
          obtain ⟨⟨c831, M831⟩, hc831, h⟩ := bnd_i h
          replace h := pr2_i h
          refine q_callV cx (pc' := 834) (S := [.int c822]) (S1 := [.int c831, .int c822]) (kc' := kq18) (ks' := sq18) 9 (ct_X9_print Γ l M822 r8 x830 hk831 _ _ hc831) lki_X9_print lkv_X9_print lkc_L_100 hk831 (r := (RX9, TX9, 70)) ⟨rfl, by decide, rfl⟩ rfl rfl (Nat.le_of_ble_eq_true rfl) ⟨(Nat.le_of_ble_eq_true rfl), (Nat.le_of_ble_eq_true rfl)⟩ ⟨(by show kq18 + 0 ≤ 600000; omega), (by show sq18 + 0 ≤ 7302250; omega)⟩ dL_law_831 rfl rfl rfl ?_
          refine q_icmp_eq cx (pc' := 837) (tgt := 1581) dL_law_834 (by decide) rfl (fun c834 => ?_) (fun c834 => ?_)
          · replace h := ip c834 h
            obtain ⟨v3_1581, ev3_1581, h⟩ := nm_i h
            refine q_iinc cx (pc' := 1584) 3 rfl ki_6 ev3_1581 (by decide) (L' := [(3, .int v3_1581), (0, .ref b), (1, .ref r0), (2, .ref r8)]) rfl dL_law_1581 rfl ?_
            refine q_goto cx dL_law_1584 (tgt := 18) (by decide) ?_
            refine q_sub cx [1, 2, 3, 0] rfl ?_
            exact ih _ _ _ _ (by omega) (by omega) (hz18.1 _ h)
          · replace h := ine c834 h
            refine q_iconst cx (pc' := 838) ki_0 dL_law_837 rfl ?_
            replace h := hk18_r _ _ (hz18.2 _ h)
            obtain ⟨rfl, rfl⟩ := o2_i h
            exact absurd hz1 (by decide)
        replace h := ine c33_20 h
        rcases Decidable.em (s33 = 21) with c33_21 | c33_21
        · replace h := ip c33_21 h
          refine q_tabIn cx (off := 806) (tgt := 839) (es33.symm.trans c33_21) dL_law_33 (by decide) (by decide) ?_
          refine q_aload_n cx (pc' := 840) 1 rfl dL_law_839 rfl ?_
          refine q_aload_n cx (pc' := 841) 0 rfl dL_law_840 rfl ?_
          refine q_iload_n cx (pc' := 842) 3 rfl dL_law_841 rfl ?_
          refine q_iconst cx (pc' := 843) ki_1 dL_law_842 rfl ?_
          refine q_iadd cx (pc' := 844) dL_law_843 rfl ?_
          obtain ⟨hi844, x844, ex844, h⟩ := scA_i h
          refine q_sld cx (pc' := 845) hX hi844 ex844 dL_law_844 rfl ?_
          refine q_aload_n cx (pc' := 846) 0 rfl dL_law_845 rfl ?_
          refine q_iload_n cx (pc' := 847) 3 rfl dL_law_846 rfl ?_
          refine q_iconst cx (pc' := 848) ki_2 dL_law_847 rfl ?_
          refine q_iadd cx (pc' := 849) dL_law_848 rfl ?_
          obtain ⟨hi849, x849, ex849, h⟩ := scA_i h
          refine q_sld cx (pc' := 850) hX hi849 ex849 dL_law_849 rfl ?_
          refine q_if_eq cx (pc' := 853) (tgt := 857) dL_law_850 (by decide) rfl (fun c850 => ?_) (fun c850 => ?_)
          · replace h := ip c850 h
            refine q_iconst cx (pc' := 858) ki_0 dL_law_857 rfl ?_
            refine q_sub cx [0, 1, 2, 3] rfl ?_
            exact hj858 _ _ _ _ _ h
          · replace h := ine c850 h
            refine q_iconst cx (pc' := 854) ki_1 dL_law_853 rfl ?_
            refine q_goto cx dL_law_854 (tgt := 858) (by decide) ?_
            refine q_sub cx [0, 1, 2, 3] rfl ?_
            exact hj858 _ _ _ _ _ h
        replace h := ine c33_21 h
        rcases Decidable.em (s33 = 22) with c33_22 | c33_22
        · replace h := ip c33_22 h
          refine q_tabIn cx (off := 865) (tgt := 898) (es33.symm.trans c33_22) dL_law_33 (by decide) (by decide) ?_
          refine q_aload_n cx (pc' := 899) 1 rfl dL_law_898 rfl ?_
          refine q_aload_n cx (pc' := 900) 0 rfl dL_law_899 rfl ?_
          refine q_iload_n cx (pc' := 901) 3 rfl dL_law_900 rfl ?_
          refine q_iconst cx (pc' := 902) ki_1 dL_law_901 rfl ?_
          refine q_iadd cx (pc' := 903) dL_law_902 rfl ?_
          obtain ⟨hi903, x903, ex903, h⟩ := scA_i h
          refine q_sld cx (pc' := 904) hX hi903 ex903 dL_law_903 rfl ?_
          refine q_aload_n cx (pc' := 905) 0 rfl dL_law_904 rfl ?_
          refine q_iload_n cx (pc' := 906) 3 rfl dL_law_905 rfl ?_
          refine q_iconst cx (pc' := 907) ki_2 dL_law_906 rfl ?_
          refine q_iadd cx (pc' := 908) dL_law_907 rfl ?_
          obtain ⟨hi908, x908, ex908, h⟩ := scA_i h
          refine q_sld cx (pc' := 909) hX hi908 ex908 dL_law_908 rfl ?_
          obtain ⟨hk909, h⟩ := ck_i h
          obtain ⟨⟨c909, M909⟩, hc909, h⟩ := bnd_i h
          replace h := pr2_i h
          refine q_callV cx (pc' := 912) (S := []) (S1 := [.int c909]) (kc' := kq18) (ks' := sq18) 8 (ct_X8_heft Γ l Mw_18 r0 x903 x908 hk909 _ _ hc909) lki_X8_heft lkv_X8_heft lkc_L_106 hk909 (r := (RX8, TX8, 10)) ⟨rfl, by decide, rfl⟩ rfl rfl (Nat.le_of_ble_eq_true rfl) ⟨(Nat.le_of_ble_eq_true rfl), (Nat.le_of_ble_eq_true rfl)⟩ ⟨(by show kq18 + 0 ≤ 600000; omega), (by show sq18 + 0 ≤ 7302250; omega)⟩ dL_law_909 rfl rfl rfl ?_
          refine q_aload_n cx (pc' := 913) 2 rfl dL_law_912 rfl ?_
          refine q_aload_n cx (pc' := 914) 0 rfl dL_law_913 rfl ?_
          refine q_iload_n cx (pc' := 915) 3 rfl dL_law_914 rfl ?_
          refine q_iconst cx (pc' := 916) ki_1 dL_law_915 rfl ?_
          refine q_iadd cx (pc' := 917) dL_law_916 rfl ?_
          obtain ⟨hi917, x917, ex917, h⟩ := scA_i h
          refine q_sld cx (pc' := 918) hX hi917 ex917 dL_law_917 rfl ?_
          refine q_aload_n cx (pc' := 919) 0 rfl dL_law_918 rfl ?_
          refine q_iload_n cx (pc' := 920) 3 rfl dL_law_919 rfl ?_
          refine q_iconst cx (pc' := 921) ki_2 dL_law_920 rfl ?_
          refine q_iadd cx (pc' := 922) dL_law_921 rfl ?_
          obtain ⟨hi922, x922, ex922, h⟩ := scA_i h
          refine q_sld cx (pc' := 923) hX hi922 ex922 dL_law_922 rfl ?_
          obtain ⟨hk923, h⟩ := ck_i h
          obtain ⟨⟨c923, M923⟩, hc923, h⟩ := bnd_i h
          replace h := pr2_i h
          refine q_callV cx (pc' := 926) (S := [.int c909]) (S1 := [.int c923, .int c909]) (kc' := kq18) (ks' := sq18) 9 (ct_X9_heft Γ l M909 r8 x917 x922 hk923 _ _ hc923) lki_X9_heft lkv_X9_heft lkc_L_109 hk923 (r := (RX9, TX9, 70)) ⟨rfl, by decide, rfl⟩ rfl rfl (Nat.le_of_ble_eq_true rfl) ⟨(Nat.le_of_ble_eq_true rfl), (Nat.le_of_ble_eq_true rfl)⟩ ⟨(by show kq18 + 0 ≤ 600000; omega), (by show sq18 + 0 ≤ 7302250; omega)⟩ dL_law_923 rfl rfl rfl ?_
          refine q_icmp_eq cx (pc' := 929) (tgt := 1581) dL_law_926 (by decide) rfl (fun c926 => ?_) (fun c926 => ?_)
          · replace h := ip c926 h
            obtain ⟨v3_1581, ev3_1581, h⟩ := nm_i h
            refine q_iinc cx (pc' := 1584) 3 rfl ki_6 ev3_1581 (by decide) (L' := [(3, .int v3_1581), (0, .ref b), (1, .ref r0), (2, .ref r8)]) rfl dL_law_1581 rfl ?_
            refine q_goto cx dL_law_1584 (tgt := 18) (by decide) ?_
            refine q_sub cx [1, 2, 3, 0] rfl ?_
            exact ih _ _ _ _ (by omega) (by omega) (hz18.1 _ h)
          · replace h := ine c926 h
            refine q_iconst cx (pc' := 930) ki_0 dL_law_929 rfl ?_
            replace h := hk18_r _ _ (hz18.2 _ h)
            obtain ⟨rfl, rfl⟩ := o2_i h
            exact absurd hz1 (by decide)
        replace h := ine c33_22 h
        rcases Decidable.em (s33 = 23) with c33_23 | c33_23
        · replace h := ip c33_23 h
          refine q_tabIn cx (off := 898) (tgt := 931) (es33.symm.trans c33_23) dL_law_33 (by decide) (by decide) ?_
          refine q_aload_n cx (pc' := 932) 1 rfl dL_law_931 rfl ?_
          refine q_aload_n cx (pc' := 933) 0 rfl dL_law_932 rfl ?_
          refine q_iload_n cx (pc' := 934) 3 rfl dL_law_933 rfl ?_
          refine q_iconst cx (pc' := 935) ki_1 dL_law_934 rfl ?_
          refine q_iadd cx (pc' := 936) dL_law_935 rfl ?_
          obtain ⟨hi936, x936, ex936, h⟩ := scA_i h
          refine q_sld cx (pc' := 937) hX hi936 ex936 dL_law_936 rfl ?_
          refine q_aload_n cx (pc' := 938) 0 rfl dL_law_937 rfl ?_
          refine q_iload_n cx (pc' := 939) 3 rfl dL_law_938 rfl ?_
          refine q_iconst cx (pc' := 940) ki_2 dL_law_939 rfl ?_
          refine q_iadd cx (pc' := 941) dL_law_940 rfl ?_
          obtain ⟨hi941, x941, ex941, h⟩ := scA_i h
          refine q_sld cx (pc' := 942) hX hi941 ex941 dL_law_941 rfl ?_
          obtain ⟨hk942, h⟩ := ck_i h
          obtain ⟨⟨c942, M942⟩, hc942, h⟩ := bnd_i h
          replace h := pr2_i h
          refine q_callV cx (pc' := 945) (S := []) (S1 := [.int c942]) (kc' := kq18) (ks' := sq18) 8 (ct_X8_can Γ l Mw_18 r0 x936 x941 hk942 _ _ hc942) lki_X8_can lkv_X8_can lkc_L_110 hk942 (r := (RX8, TX8, 10)) ⟨rfl, by decide, rfl⟩ rfl rfl (Nat.le_of_ble_eq_true rfl) ⟨(Nat.le_of_ble_eq_true rfl), (Nat.le_of_ble_eq_true rfl)⟩ ⟨(by show kq18 + 0 ≤ 600000; omega), (by show sq18 + 0 ≤ 7302250; omega)⟩ dL_law_942 rfl rfl rfl ?_
          refine q_aload_n cx (pc' := 946) 2 rfl dL_law_945 rfl ?_
          refine q_aload_n cx (pc' := 947) 0 rfl dL_law_946 rfl ?_
          refine q_iload_n cx (pc' := 948) 3 rfl dL_law_947 rfl ?_
          refine q_iconst cx (pc' := 949) ki_1 dL_law_948 rfl ?_
          refine q_iadd cx (pc' := 950) dL_law_949 rfl ?_
          obtain ⟨hi950, x950, ex950, h⟩ := scA_i h
          refine q_sld cx (pc' := 951) hX hi950 ex950 dL_law_950 rfl ?_
          refine q_aload_n cx (pc' := 952) 0 rfl dL_law_951 rfl ?_
          refine q_iload_n cx (pc' := 953) 3 rfl dL_law_952 rfl ?_
          refine q_iconst cx (pc' := 954) ki_2 dL_law_953 rfl ?_
          refine q_iadd cx (pc' := 955) dL_law_954 rfl ?_
          obtain ⟨hi955, x955, ex955, h⟩ := scA_i h
          refine q_sld cx (pc' := 956) hX hi955 ex955 dL_law_955 rfl ?_
          obtain ⟨hk956, h⟩ := ck_i h
          obtain ⟨⟨c956, M956⟩, hc956, h⟩ := bnd_i h
          replace h := pr2_i h
          refine q_callV cx (pc' := 959) (S := [.int c942]) (S1 := [.int c956, .int c942]) (kc' := kq18) (ks' := sq18) 9 (ct_X9_can Γ l M942 r8 x950 x955 hk956 _ _ hc956) lki_X9_can lkv_X9_can lkc_L_113 hk956 (r := (RX9, TX9, 70)) ⟨rfl, by decide, rfl⟩ rfl rfl (Nat.le_of_ble_eq_true rfl) ⟨(Nat.le_of_ble_eq_true rfl), (Nat.le_of_ble_eq_true rfl)⟩ ⟨(by show kq18 + 0 ≤ 600000; omega), (by show sq18 + 0 ≤ 7302250; omega)⟩ dL_law_956 rfl rfl rfl ?_
          refine q_icmp_eq cx (pc' := 962) (tgt := 1581) dL_law_959 (by decide) rfl (fun c959 => ?_) (fun c959 => ?_)
          · replace h := ip c959 h
            obtain ⟨v3_1581, ev3_1581, h⟩ := nm_i h
            refine q_iinc cx (pc' := 1584) 3 rfl ki_6 ev3_1581 (by decide) (L' := [(3, .int v3_1581), (0, .ref b), (1, .ref r0), (2, .ref r8)]) rfl dL_law_1581 rfl ?_
            refine q_goto cx dL_law_1584 (tgt := 18) (by decide) ?_
            refine q_sub cx [1, 2, 3, 0] rfl ?_
            exact ih _ _ _ _ (by omega) (by omega) (hz18.1 _ h)
          · replace h := ine c959 h
            refine q_iconst cx (pc' := 963) ki_0 dL_law_962 rfl ?_
            replace h := hk18_r _ _ (hz18.2 _ h)
            obtain ⟨rfl, rfl⟩ := o2_i h
            exact absurd hz1 (by decide)
        replace h := ine c33_23 h
        rcases Decidable.em (s33 = 24) with c33_24 | c33_24
        · replace h := ip c33_24 h
          refine q_tabIn cx (off := 931) (tgt := 964) (es33.symm.trans c33_24) dL_law_33 (by decide) (by decide) ?_
          refine q_aload_n cx (pc' := 965) 1 rfl dL_law_964 rfl ?_
          refine q_aload_n cx (pc' := 966) 0 rfl dL_law_965 rfl ?_
          refine q_iload_n cx (pc' := 967) 3 rfl dL_law_966 rfl ?_
          refine q_iconst cx (pc' := 968) ki_1 dL_law_967 rfl ?_
          refine q_iadd cx (pc' := 969) dL_law_968 rfl ?_
          obtain ⟨hi969, x969, ex969, h⟩ := scA_i h
          refine q_sld cx (pc' := 970) hX hi969 ex969 dL_law_969 rfl ?_
          refine q_aload_n cx (pc' := 971) 0 rfl dL_law_970 rfl ?_
          refine q_iload_n cx (pc' := 972) 3 rfl dL_law_971 rfl ?_
          refine q_iconst cx (pc' := 973) ki_2 dL_law_972 rfl ?_
          refine q_iadd cx (pc' := 974) dL_law_973 rfl ?_
          obtain ⟨hi974, x974, ex974, h⟩ := scA_i h
          refine q_sld cx (pc' := 975) hX hi974 ex974 dL_law_974 rfl ?_
          refine q_aload_n cx (pc' := 976) 0 rfl dL_law_975 rfl ?_
          refine q_iload_n cx (pc' := 977) 3 rfl dL_law_976 rfl ?_
          refine q_iconst cx (pc' := 978) ki_3 dL_law_977 rfl ?_
          refine q_iadd cx (pc' := 979) dL_law_978 rfl ?_
          obtain ⟨hi979, x979, ex979, h⟩ := scA_i h
          refine q_sld cx (pc' := 980) hX hi979 ex979 dL_law_979 rfl ?_
          refine q_aload_n cx (pc' := 981) 0 rfl dL_law_980 rfl ?_
          refine q_iload_n cx (pc' := 982) 3 rfl dL_law_981 rfl ?_
          refine q_iconst cx (pc' := 983) ki_4 dL_law_982 rfl ?_
          refine q_iadd cx (pc' := 984) dL_law_983 rfl ?_
          obtain ⟨hi984, x984, ex984, h⟩ := scA_i h
          refine q_sld cx (pc' := 985) hX hi984 ex984 dL_law_984 rfl ?_
          obtain ⟨hk985, h⟩ := ck_i h
          obtain ⟨⟨c985, M985⟩, hc985, h⟩ := bnd_i h
          replace h := pr2_i h
          refine q_callV cx (pc' := 988) (S := []) (S1 := [.int c985]) (kc' := kq18) (ks' := sq18) 8 (ct_X8_was Γ l Mw_18 r0 x969 x974 x979 x984 hk985 _ _ hc985) lki_X8_was lkv_X8_was lkc_L_114 hk985 (r := (RX8, TX8, 10)) ⟨rfl, by decide, rfl⟩ rfl rfl (Nat.le_of_ble_eq_true rfl) ⟨(Nat.le_of_ble_eq_true rfl), (Nat.le_of_ble_eq_true rfl)⟩ ⟨(by show kq18 + 0 ≤ 600000; omega), (by show sq18 + 0 ≤ 7302250; omega)⟩ dL_law_985 rfl rfl rfl ?_
          refine q_aload_n cx (pc' := 989) 2 rfl dL_law_988 rfl ?_
          refine q_aload_n cx (pc' := 990) 0 rfl dL_law_989 rfl ?_
          refine q_iload_n cx (pc' := 991) 3 rfl dL_law_990 rfl ?_
          refine q_iconst cx (pc' := 992) ki_1 dL_law_991 rfl ?_
          refine q_iadd cx (pc' := 993) dL_law_992 rfl ?_
          obtain ⟨hi993, x993, ex993, h⟩ := scA_i h
          refine q_sld cx (pc' := 994) hX hi993 ex993 dL_law_993 rfl ?_
          refine q_aload_n cx (pc' := 995) 0 rfl dL_law_994 rfl ?_
          refine q_iload_n cx (pc' := 996) 3 rfl dL_law_995 rfl ?_
          refine q_iconst cx (pc' := 997) ki_2 dL_law_996 rfl ?_
          refine q_iadd cx (pc' := 998) dL_law_997 rfl ?_
          obtain ⟨hi998, x998, ex998, h⟩ := scA_i h
          refine q_sld cx (pc' := 999) hX hi998 ex998 dL_law_998 rfl ?_
          refine q_aload_n cx (pc' := 1000) 0 rfl dL_law_999 rfl ?_
          refine q_iload_n cx (pc' := 1001) 3 rfl dL_law_1000 rfl ?_
          refine q_iconst cx (pc' := 1002) ki_3 dL_law_1001 rfl ?_
          refine q_iadd cx (pc' := 1003) dL_law_1002 rfl ?_
          obtain ⟨hi1003, x1003, ex1003, h⟩ := scA_i h
          refine q_sld cx (pc' := 1004) hX hi1003 ex1003 dL_law_1003 rfl ?_
          refine q_aload_n cx (pc' := 1005) 0 rfl dL_law_1004 rfl ?_
          refine q_iload_n cx (pc' := 1006) 3 rfl dL_law_1005 rfl ?_
          refine q_iconst cx (pc' := 1007) ki_4 dL_law_1006 rfl ?_
          refine q_iadd cx (pc' := 1008) dL_law_1007 rfl ?_
          obtain ⟨hi1008, x1008, ex1008, h⟩ := scA_i h
          refine q_sld cx (pc' := 1009) hX hi1008 ex1008 dL_law_1008 rfl ?_
          obtain ⟨hk1009, h⟩ := ck_i h
          obtain ⟨⟨c1009, M1009⟩, hc1009, h⟩ := bnd_i h
          replace h := pr2_i h
          refine q_callV cx (pc' := 1012) (S := [.int c985]) (S1 := [.int c1009, .int c985]) (kc' := kq18) (ks' := sq18) 9 (ct_X9_was Γ l M985 r8 x993 x998 x1003 x1008 hk1009 _ _ hc1009) lki_X9_was lkv_X9_was lkc_L_118 hk1009 (r := (RX9, TX9, 70)) ⟨rfl, by decide, rfl⟩ rfl rfl (Nat.le_of_ble_eq_true rfl) ⟨(Nat.le_of_ble_eq_true rfl), (Nat.le_of_ble_eq_true rfl)⟩ ⟨(by show kq18 + 0 ≤ 600000; omega), (by show sq18 + 0 ≤ 7302250; omega)⟩ dL_law_1009 rfl rfl rfl ?_
          refine q_icmp_eq cx (pc' := 1015) (tgt := 1581) dL_law_1012 (by decide) rfl (fun c1012 => ?_) (fun c1012 => ?_)
          · replace h := ip c1012 h
            obtain ⟨v3_1581, ev3_1581, h⟩ := nm_i h
            refine q_iinc cx (pc' := 1584) 3 rfl ki_6 ev3_1581 (by decide) (L' := [(3, .int v3_1581), (0, .ref b), (1, .ref r0), (2, .ref r8)]) rfl dL_law_1581 rfl ?_
            refine q_goto cx dL_law_1584 (tgt := 18) (by decide) ?_
            refine q_sub cx [1, 2, 3, 0] rfl ?_
            exact ih _ _ _ _ (by omega) (by omega) (hz18.1 _ h)
          · replace h := ine c1012 h
            refine q_iconst cx (pc' := 1016) ki_0 dL_law_1015 rfl ?_
            replace h := hk18_r _ _ (hz18.2 _ h)
            obtain ⟨rfl, rfl⟩ := o2_i h
            exact absurd hz1 (by decide)
        replace h := ine c33_24 h
        rcases Decidable.em (s33 = 25) with c33_25 | c33_25
        · replace h := ip c33_25 h
          refine q_tabIn cx (off := 984) (tgt := 1017) (es33.symm.trans c33_25) dL_law_33 (by decide) (by decide) ?_
          refine q_aload_n cx (pc' := 1018) 1 rfl dL_law_1017 rfl ?_
          refine q_aload_n cx (pc' := 1019) 0 rfl dL_law_1018 rfl ?_
          refine q_iload_n cx (pc' := 1020) 3 rfl dL_law_1019 rfl ?_
          refine q_iconst cx (pc' := 1021) ki_1 dL_law_1020 rfl ?_
          refine q_iadd cx (pc' := 1022) dL_law_1021 rfl ?_
          obtain ⟨hi1022, x1022, ex1022, h⟩ := scA_i h
          refine q_sld cx (pc' := 1023) hX hi1022 ex1022 dL_law_1022 rfl ?_
          refine q_aload_n cx (pc' := 1024) 0 rfl dL_law_1023 rfl ?_
          refine q_iload_n cx (pc' := 1025) 3 rfl dL_law_1024 rfl ?_
          refine q_iconst cx (pc' := 1026) ki_2 dL_law_1025 rfl ?_
          refine q_iadd cx (pc' := 1027) dL_law_1026 rfl ?_
          obtain ⟨hi1027, x1027, ex1027, h⟩ := scA_i h
          refine q_sld cx (pc' := 1028) hX hi1027 ex1027 dL_law_1027 rfl ?_
          obtain ⟨hk1028, h⟩ := ck_i h
          obtain ⟨⟨c1028, M1028⟩, hc1028, h⟩ := bnd_i h
          replace h := pr2_i h
          refine q_callV cx (pc' := 1031) (S := []) (S1 := [.long c1028]) (kc' := kq18) (ks' := sq18) 8 (ct_X8_odds Γ l Mw_18 r0 x1022 x1027 hk1028 _ _ hc1028) lki_X8_odds lkv_X8_odds lkc_L_119 hk1028 (r := (RX8, TX8, 10)) ⟨rfl, by decide, rfl⟩ rfl rfl (Nat.le_of_ble_eq_true rfl) ⟨(Nat.le_of_ble_eq_true rfl), (Nat.le_of_ble_eq_true rfl)⟩ ⟨(by show kq18 + 0 ≤ 600000; omega), (by show sq18 + 0 ≤ 7302250; omega)⟩ dL_law_1028 rfl rfl rfl ?_
          refine q_aload_n cx (pc' := 1032) 2 rfl dL_law_1031 rfl ?_
          refine q_aload_n cx (pc' := 1033) 0 rfl dL_law_1032 rfl ?_
          refine q_iload_n cx (pc' := 1034) 3 rfl dL_law_1033 rfl ?_
          refine q_iconst cx (pc' := 1035) ki_1 dL_law_1034 rfl ?_
          refine q_iadd cx (pc' := 1036) dL_law_1035 rfl ?_
          obtain ⟨hi1036, x1036, ex1036, h⟩ := scA_i h
          refine q_sld cx (pc' := 1037) hX hi1036 ex1036 dL_law_1036 rfl ?_
          refine q_aload_n cx (pc' := 1038) 0 rfl dL_law_1037 rfl ?_
          refine q_iload_n cx (pc' := 1039) 3 rfl dL_law_1038 rfl ?_
          refine q_iconst cx (pc' := 1040) ki_2 dL_law_1039 rfl ?_
          refine q_iadd cx (pc' := 1041) dL_law_1040 rfl ?_
          obtain ⟨hi1041, x1041, ex1041, h⟩ := scA_i h
          refine q_sld cx (pc' := 1042) hX hi1041 ex1041 dL_law_1041 rfl ?_
          obtain ⟨hk1042, h⟩ := ck_i h
          obtain ⟨⟨c1042, M1042⟩, hc1042, h⟩ := bnd_i h
          replace h := pr2_i h
          refine q_callV cx (pc' := 1045) (S := [.long c1028]) (S1 := [.long c1042, .long c1028]) (kc' := kq18) (ks' := sq18) 9 (ct_X9_odds Γ l M1028 r8 x1036 x1041 hk1042 _ _ hc1042) lki_X9_odds lkv_X9_odds lkc_L_123 hk1042 (r := (RX9, TX9, 70)) ⟨rfl, by decide, rfl⟩ rfl rfl (Nat.le_of_ble_eq_true rfl) ⟨(Nat.le_of_ble_eq_true rfl), (Nat.le_of_ble_eq_true rfl)⟩ ⟨(by show kq18 + 0 ≤ 600000; omega), (by show sq18 + 0 ≤ 7302250; omega)⟩ dL_law_1042 rfl rfl rfl ?_
          refine q_lcmp cx (pc' := 1046) dL_law_1045 rfl ?_
          refine q_if_eq cx (pc' := 1049) (tgt := 1581) dL_law_1046 (by decide) rfl (fun c1046 => ?_) (fun c1046 => ?_)
          · replace h := ip c1046 h
            obtain ⟨v3_1581, ev3_1581, h⟩ := nm_i h
            refine q_iinc cx (pc' := 1584) 3 rfl ki_6 ev3_1581 (by decide) (L' := [(3, .int v3_1581), (0, .ref b), (1, .ref r0), (2, .ref r8)]) rfl dL_law_1581 rfl ?_
            refine q_goto cx dL_law_1584 (tgt := 18) (by decide) ?_
            refine q_sub cx [1, 2, 3, 0] rfl ?_
            exact ih _ _ _ _ (by omega) (by omega) (hz18.1 _ h)
          · replace h := ine c1046 h
            refine q_iconst cx (pc' := 1050) ki_0 dL_law_1049 rfl ?_
            replace h := hk18_r _ _ (hz18.2 _ h)
            obtain ⟨rfl, rfl⟩ := o2_i h
            exact absurd hz1 (by decide)
        replace h := ine c33_25 h
        rcases Decidable.em (s33 = 26) with c33_26 | c33_26
        · replace h := ip c33_26 h
          refine q_tabIn cx (off := 1018) (tgt := 1051) (es33.symm.trans c33_26) dL_law_33 (by decide) (by decide) ?_
          refine q_aload_n cx (pc' := 1052) 1 rfl dL_law_1051 rfl ?_
          refine q_aload_n cx (pc' := 1053) 0 rfl dL_law_1052 rfl ?_
          refine q_iload_n cx (pc' := 1054) 3 rfl dL_law_1053 rfl ?_
          refine q_iconst cx (pc' := 1055) ki_1 dL_law_1054 rfl ?_
          refine q_iadd cx (pc' := 1056) dL_law_1055 rfl ?_
          obtain ⟨hi1056, x1056, ex1056, h⟩ := scA_i h
          refine q_sld cx (pc' := 1057) hX hi1056 ex1056 dL_law_1056 rfl ?_
          refine q_aload_n cx (pc' := 1058) 0 rfl dL_law_1057 rfl ?_
          refine q_iload_n cx (pc' := 1059) 3 rfl dL_law_1058 rfl ?_
          refine q_iconst cx (pc' := 1060) ki_2 dL_law_1059 rfl ?_
          refine q_iadd cx (pc' := 1061) dL_law_1060 rfl ?_
          obtain ⟨hi1061, x1061, ex1061, h⟩ := scA_i h
          refine q_sld cx (pc' := 1062) hX hi1061 ex1061 dL_law_1061 rfl ?_
          obtain ⟨hk1062, h⟩ := ck_i h
          obtain ⟨⟨c1062, M1062⟩, hc1062, h⟩ := bnd_i h
          replace h := pr2_i h
          refine q_callV cx (pc' := 1065) (S := []) (S1 := [.long c1062]) (kc' := kq18) (ks' := sq18) 8 (ct_X8_mean Γ l Mw_18 r0 x1056 x1061 hk1062 _ _ hc1062) lki_X8_mean lkv_X8_mean lkc_L_124 hk1062 (r := (RX8, TX8, 10)) ⟨rfl, by decide, rfl⟩ rfl rfl (Nat.le_of_ble_eq_true rfl) ⟨(Nat.le_of_ble_eq_true rfl), (Nat.le_of_ble_eq_true rfl)⟩ ⟨(by show kq18 + 0 ≤ 600000; omega), (by show sq18 + 0 ≤ 7302250; omega)⟩ dL_law_1062 rfl rfl rfl ?_
          refine q_aload_n cx (pc' := 1066) 2 rfl dL_law_1065 rfl ?_
          refine q_aload_n cx (pc' := 1067) 0 rfl dL_law_1066 rfl ?_
          refine q_iload_n cx (pc' := 1068) 3 rfl dL_law_1067 rfl ?_
          refine q_iconst cx (pc' := 1069) ki_1 dL_law_1068 rfl ?_
          refine q_iadd cx (pc' := 1070) dL_law_1069 rfl ?_
          obtain ⟨hi1070, x1070, ex1070, h⟩ := scA_i h
          refine q_sld cx (pc' := 1071) hX hi1070 ex1070 dL_law_1070 rfl ?_
          refine q_aload_n cx (pc' := 1072) 0 rfl dL_law_1071 rfl ?_
          refine q_iload_n cx (pc' := 1073) 3 rfl dL_law_1072 rfl ?_
          refine q_iconst cx (pc' := 1074) ki_2 dL_law_1073 rfl ?_
          refine q_iadd cx (pc' := 1075) dL_law_1074 rfl ?_
          obtain ⟨hi1075, x1075, ex1075, h⟩ := scA_i h
          refine q_sld cx (pc' := 1076) hX hi1075 ex1075 dL_law_1075 rfl ?_
          obtain ⟨hk1076, h⟩ := ck_i h
          obtain ⟨⟨c1076, M1076⟩, hc1076, h⟩ := bnd_i h
          replace h := pr2_i h
          refine q_callV cx (pc' := 1079) (S := [.long c1062]) (S1 := [.long c1076, .long c1062]) (kc' := kq18) (ks' := sq18) 9 (ct_X9_mean Γ l M1062 r8 x1070 x1075 hk1076 _ _ hc1076) lki_X9_mean lkv_X9_mean lkc_L_127 hk1076 (r := (RX9, TX9, 70)) ⟨rfl, by decide, rfl⟩ rfl rfl (Nat.le_of_ble_eq_true rfl) ⟨(Nat.le_of_ble_eq_true rfl), (Nat.le_of_ble_eq_true rfl)⟩ ⟨(by show kq18 + 0 ≤ 600000; omega), (by show sq18 + 0 ≤ 7302250; omega)⟩ dL_law_1076 rfl rfl rfl ?_
          refine q_lcmp cx (pc' := 1080) dL_law_1079 rfl ?_
          refine q_if_eq cx (pc' := 1083) (tgt := 1581) dL_law_1080 (by decide) rfl (fun c1080 => ?_) (fun c1080 => ?_)
          · replace h := ip c1080 h
            obtain ⟨v3_1581, ev3_1581, h⟩ := nm_i h
            refine q_iinc cx (pc' := 1584) 3 rfl ki_6 ev3_1581 (by decide) (L' := [(3, .int v3_1581), (0, .ref b), (1, .ref r0), (2, .ref r8)]) rfl dL_law_1581 rfl ?_
            refine q_goto cx dL_law_1584 (tgt := 18) (by decide) ?_
            refine q_sub cx [1, 2, 3, 0] rfl ?_
            exact ih _ _ _ _ (by omega) (by omega) (hz18.1 _ h)
          · replace h := ine c1080 h
            refine q_iconst cx (pc' := 1084) ki_0 dL_law_1083 rfl ?_
            replace h := hk18_r _ _ (hz18.2 _ h)
            obtain ⟨rfl, rfl⟩ := o2_i h
            exact absurd hz1 (by decide)
        replace h := ine c33_26 h
        rcases Decidable.em (s33 = 27) with c33_27 | c33_27
        · replace h := ip c33_27 h
          refine q_tabIn cx (off := 1052) (tgt := 1085) (es33.symm.trans c33_27) dL_law_33 (by decide) (by decide) ?_
          refine q_aload_n cx (pc' := 1086) 1 rfl dL_law_1085 rfl ?_
          refine q_aload_n cx (pc' := 1087) 0 rfl dL_law_1086 rfl ?_
          refine q_iload_n cx (pc' := 1088) 3 rfl dL_law_1087 rfl ?_
          refine q_iconst cx (pc' := 1089) ki_1 dL_law_1088 rfl ?_
          refine q_iadd cx (pc' := 1090) dL_law_1089 rfl ?_
          obtain ⟨hi1090, x1090, ex1090, h⟩ := scA_i h
          refine q_sld cx (pc' := 1091) hX hi1090 ex1090 dL_law_1090 rfl ?_
          refine q_aload_n cx (pc' := 1092) 0 rfl dL_law_1091 rfl ?_
          refine q_iload_n cx (pc' := 1093) 3 rfl dL_law_1092 rfl ?_
          refine q_iconst cx (pc' := 1094) ki_2 dL_law_1093 rfl ?_
          refine q_iadd cx (pc' := 1095) dL_law_1094 rfl ?_
          obtain ⟨hi1095, x1095, ex1095, h⟩ := scA_i h
          refine q_sld cx (pc' := 1096) hX hi1095 ex1095 dL_law_1095 rfl ?_
          obtain ⟨hk1096, h⟩ := ck_i h
          obtain ⟨⟨c1096, M1096⟩, hc1096, h⟩ := bnd_i h
          replace h := pr2_i h
          refine q_callV cx (pc' := 1099) (S := []) (S1 := [.int c1096]) (kc' := kq18) (ks' := sq18) 8 (ct_X8_afternoon Γ l Mw_18 r0 x1090 x1095 hk1096 _ _ hc1096) lki_X8_afternoon lkv_X8_afternoon lkc_L_128 hk1096 (r := (RX8, TX8, 10)) ⟨rfl, by decide, rfl⟩ rfl rfl (Nat.le_of_ble_eq_true rfl) ⟨(Nat.le_of_ble_eq_true rfl), (Nat.le_of_ble_eq_true rfl)⟩ ⟨(by show kq18 + 0 ≤ 600000; omega), (by show sq18 + 0 ≤ 7302250; omega)⟩ dL_law_1096 rfl rfl rfl ?_
          refine q_aload_n cx (pc' := 1100) 2 rfl dL_law_1099 rfl ?_
          refine q_aload_n cx (pc' := 1101) 0 rfl dL_law_1100 rfl ?_
          refine q_iload_n cx (pc' := 1102) 3 rfl dL_law_1101 rfl ?_
          refine q_iconst cx (pc' := 1103) ki_1 dL_law_1102 rfl ?_
          refine q_iadd cx (pc' := 1104) dL_law_1103 rfl ?_
          obtain ⟨hi1104, x1104, ex1104, h⟩ := scA_i h
          refine q_sld cx (pc' := 1105) hX hi1104 ex1104 dL_law_1104 rfl ?_
          refine q_aload_n cx (pc' := 1106) 0 rfl dL_law_1105 rfl ?_
          refine q_iload_n cx (pc' := 1107) 3 rfl dL_law_1106 rfl ?_
          refine q_iconst cx (pc' := 1108) ki_2 dL_law_1107 rfl ?_
          refine q_iadd cx (pc' := 1109) dL_law_1108 rfl ?_
          obtain ⟨hi1109, x1109, ex1109, h⟩ := scA_i h
          refine q_sld cx (pc' := 1110) hX hi1109 ex1109 dL_law_1109 rfl ?_
          obtain ⟨hk1110, h⟩ := ck_i h
          obtain ⟨⟨c1110, M1110⟩, hc1110, h⟩ := bnd_i h
          replace h := pr2_i h
          refine q_callV cx (pc' := 1113) (S := [.int c1096]) (S1 := [.int c1110, .int c1096]) (kc' := kq18) (ks' := sq18) 9 (ct_X9_afternoon Γ l M1096 r8 x1104 x1109 hk1110 _ _ hc1110) lki_X9_afternoon lkv_X9_afternoon lkc_L_131 hk1110 (r := (RX9, TX9, 70)) ⟨rfl, by decide, rfl⟩ rfl rfl (Nat.le_of_ble_eq_true rfl) ⟨(Nat.le_of_ble_eq_true rfl), (Nat.le_of_ble_eq_true rfl)⟩ ⟨(by show kq18 + 0 ≤ 600000; omega), (by show sq18 + 0 ≤ 7302250; omega)⟩ dL_law_1110 rfl rfl rfl ?_
          refine q_icmp_eq cx (pc' := 1116) (tgt := 1581) dL_law_1113 (by decide) rfl (fun c1113 => ?_) (fun c1113 => ?_)
          · replace h := ip c1113 h
            obtain ⟨v3_1581, ev3_1581, h⟩ := nm_i h
            refine q_iinc cx (pc' := 1584) 3 rfl ki_6 ev3_1581 (by decide) (L' := [(3, .int v3_1581), (0, .ref b), (1, .ref r0), (2, .ref r8)]) rfl dL_law_1581 rfl ?_
            refine q_goto cx dL_law_1584 (tgt := 18) (by decide) ?_
            refine q_sub cx [1, 2, 3, 0] rfl ?_
            exact ih _ _ _ _ (by omega) (by omega) (hz18.1 _ h)
          · replace h := ine c1113 h
            refine q_iconst cx (pc' := 1117) ki_0 dL_law_1116 rfl ?_
            replace h := hk18_r _ _ (hz18.2 _ h)
            obtain ⟨rfl, rfl⟩ := o2_i h
            exact absurd hz1 (by decide)
        replace h := ine c33_27 h
        rcases Decidable.em (s33 = 28) with c33_28 | c33_28
        · replace h := ip c33_28 h
          refine q_tabIn cx (off := 1085) (tgt := 1118) (es33.symm.trans c33_28) dL_law_33 (by decide) (by decide) ?_
          refine q_aload_n cx (pc' := 1119) 1 rfl dL_law_1118 rfl ?_
          refine q_aload_n cx (pc' := 1120) 0 rfl dL_law_1119 rfl ?_
          refine q_iload_n cx (pc' := 1121) 3 rfl dL_law_1120 rfl ?_
          refine q_iconst cx (pc' := 1122) ki_1 dL_law_1121 rfl ?_
          refine q_iadd cx (pc' := 1123) dL_law_1122 rfl ?_
          obtain ⟨hi1123, x1123, ex1123, h⟩ := scA_i h
          refine q_sld cx (pc' := 1124) hX hi1123 ex1123 dL_law_1123 rfl ?_
          obtain ⟨hk1124, h⟩ := ck_i h
          obtain ⟨⟨c1124, M1124⟩, hc1124, h⟩ := bnd_i h
          replace h := pr2_i h
          refine q_callV cx (pc' := 1127) (S := []) (S1 := [.int c1124]) (kc' := kq18) (ks' := sq18) 8 (ct_X8_ends Γ l Mw_18 r0 x1123 hk1124 _ _ hc1124) lki_X8_ends lkv_X8_ends lkc_L_132 hk1124 (r := (RX8, TX8, 10)) ⟨rfl, by decide, rfl⟩ rfl rfl (Nat.le_of_ble_eq_true rfl) ⟨(Nat.le_of_ble_eq_true rfl), (Nat.le_of_ble_eq_true rfl)⟩ ⟨(by show kq18 + 0 ≤ 600000; omega), (by show sq18 + 0 ≤ 7302250; omega)⟩ dL_law_1124 rfl rfl rfl ?_
          refine q_aload_n cx (pc' := 1128) 2 rfl dL_law_1127 rfl ?_
          refine q_aload_n cx (pc' := 1129) 0 rfl dL_law_1128 rfl ?_
          refine q_iload_n cx (pc' := 1130) 3 rfl dL_law_1129 rfl ?_
          refine q_iconst cx (pc' := 1131) ki_1 dL_law_1130 rfl ?_
          refine q_iadd cx (pc' := 1132) dL_law_1131 rfl ?_
          obtain ⟨hi1132, x1132, ex1132, h⟩ := scA_i h
          refine q_sld cx (pc' := 1133) hX hi1132 ex1132 dL_law_1132 rfl ?_
          obtain ⟨hk1133, h⟩ := ck_i h
          obtain ⟨⟨c1133, M1133⟩, hc1133, h⟩ := bnd_i h
          replace h := pr2_i h
          refine q_callV cx (pc' := 1136) (S := [.int c1124]) (S1 := [.int c1133, .int c1124]) (kc' := kq18) (ks' := sq18) 9 (ct_X9_ends Γ l M1124 r8 x1132 hk1133 _ _ hc1133) lki_X9_ends lkv_X9_ends lkc_L_135 hk1133 (r := (RX9, TX9, 70)) ⟨rfl, by decide, rfl⟩ rfl rfl (Nat.le_of_ble_eq_true rfl) ⟨(Nat.le_of_ble_eq_true rfl), (Nat.le_of_ble_eq_true rfl)⟩ ⟨(by show kq18 + 0 ≤ 600000; omega), (by show sq18 + 0 ≤ 7302250; omega)⟩ dL_law_1133 rfl rfl rfl ?_
          refine q_icmp_eq cx (pc' := 1139) (tgt := 1581) dL_law_1136 (by decide) rfl (fun c1136 => ?_) (fun c1136 => ?_)
          · replace h := ip c1136 h
            obtain ⟨v3_1581, ev3_1581, h⟩ := nm_i h
            refine q_iinc cx (pc' := 1584) 3 rfl ki_6 ev3_1581 (by decide) (L' := [(3, .int v3_1581), (0, .ref b), (1, .ref r0), (2, .ref r8)]) rfl dL_law_1581 rfl ?_
            refine q_goto cx dL_law_1584 (tgt := 18) (by decide) ?_
            refine q_sub cx [1, 2, 3, 0] rfl ?_
            exact ih _ _ _ _ (by omega) (by omega) (hz18.1 _ h)
          · replace h := ine c1136 h
            refine q_iconst cx (pc' := 1140) ki_0 dL_law_1139 rfl ?_
            replace h := hk18_r _ _ (hz18.2 _ h)
            obtain ⟨rfl, rfl⟩ := o2_i h
            exact absurd hz1 (by decide)
        replace h := ine c33_28 h
        rcases Decidable.em (s33 = 29) with c33_29 | c33_29
        · replace h := ip c33_29 h
          refine q_tabIn cx (off := 1108) (tgt := 1141) (es33.symm.trans c33_29) dL_law_33 (by decide) (by decide) ?_
          refine q_aload_n cx (pc' := 1142) 1 rfl dL_law_1141 rfl ?_
          refine q_aload_n cx (pc' := 1143) 0 rfl dL_law_1142 rfl ?_
          refine q_iload_n cx (pc' := 1144) 3 rfl dL_law_1143 rfl ?_
          refine q_iconst cx (pc' := 1145) ki_1 dL_law_1144 rfl ?_
          refine q_iadd cx (pc' := 1146) dL_law_1145 rfl ?_
          obtain ⟨hi1146, x1146, ex1146, h⟩ := scA_i h
          refine q_sld cx (pc' := 1147) hX hi1146 ex1146 dL_law_1146 rfl ?_
          refine q_aload_n cx (pc' := 1148) 0 rfl dL_law_1147 rfl ?_
          refine q_iload_n cx (pc' := 1149) 3 rfl dL_law_1148 rfl ?_
          refine q_iconst cx (pc' := 1150) ki_2 dL_law_1149 rfl ?_
          refine q_iadd cx (pc' := 1151) dL_law_1150 rfl ?_
          obtain ⟨hi1151, x1151, ex1151, h⟩ := scA_i h
          refine q_sld cx (pc' := 1152) hX hi1151 ex1151 dL_law_1151 rfl ?_
          obtain ⟨hk1152, h⟩ := ck_i h
          obtain ⟨⟨c1152, M1152⟩, hc1152, h⟩ := bnd_i h
          replace h := pr2_i h
          refine q_callV cx (pc' := 1155) (S := []) (S1 := [.int c1152]) (kc' := kq18) (ks' := sq18) 8 (ct_X8_book Γ l Mw_18 r0 x1146 x1151 hk1152 _ _ hc1152) lki_X8_book lkv_X8_book lkc_L_136 hk1152 (r := (RX8, TX8, 10)) ⟨rfl, by decide, rfl⟩ rfl rfl (Nat.le_of_ble_eq_true rfl) ⟨(Nat.le_of_ble_eq_true rfl), (Nat.le_of_ble_eq_true rfl)⟩ ⟨(by show kq18 + 0 ≤ 600000; omega), (by show sq18 + 0 ≤ 7302250; omega)⟩ dL_law_1152 rfl rfl rfl ?_
          refine q_aload_n cx (pc' := 1156) 2 rfl dL_law_1155 rfl ?_
          refine q_aload_n cx (pc' := 1157) 0 rfl dL_law_1156 rfl ?_
          refine q_iload_n cx (pc' := 1158) 3 rfl dL_law_1157 rfl ?_
          refine q_iconst cx (pc' := 1159) ki_1 dL_law_1158 rfl ?_
          refine q_iadd cx (pc' := 1160) dL_law_1159 rfl ?_
          obtain ⟨hi1160, x1160, ex1160, h⟩ := scA_i h
          refine q_sld cx (pc' := 1161) hX hi1160 ex1160 dL_law_1160 rfl ?_
          refine q_aload_n cx (pc' := 1162) 0 rfl dL_law_1161 rfl ?_
          refine q_iload_n cx (pc' := 1163) 3 rfl dL_law_1162 rfl ?_
          refine q_iconst cx (pc' := 1164) ki_2 dL_law_1163 rfl ?_
          refine q_iadd cx (pc' := 1165) dL_law_1164 rfl ?_
          obtain ⟨hi1165, x1165, ex1165, h⟩ := scA_i h
          refine q_sld cx (pc' := 1166) hX hi1165 ex1165 dL_law_1165 rfl ?_
          obtain ⟨hk1166, h⟩ := ck_i h
          obtain ⟨⟨c1166, M1166⟩, hc1166, h⟩ := bnd_i h
          replace h := pr2_i h
          refine q_callV cx (pc' := 1169) (S := [.int c1152]) (S1 := [.int c1166, .int c1152]) (kc' := kq18) (ks' := sq18) 9 (ct_X9_book Γ l M1152 r8 x1160 x1165 hk1166 _ _ hc1166) lki_X9_book lkv_X9_book lkc_L_139 hk1166 (r := (RX9, TX9, 70)) ⟨rfl, by decide, rfl⟩ rfl rfl (Nat.le_of_ble_eq_true rfl) ⟨(Nat.le_of_ble_eq_true rfl), (Nat.le_of_ble_eq_true rfl)⟩ ⟨(by show kq18 + 0 ≤ 600000; omega), (by show sq18 + 0 ≤ 7302250; omega)⟩ dL_law_1166 rfl rfl rfl ?_
          refine q_icmp_eq cx (pc' := 1172) (tgt := 1581) dL_law_1169 (by decide) rfl (fun c1169 => ?_) (fun c1169 => ?_)
          · replace h := ip c1169 h
            obtain ⟨v3_1581, ev3_1581, h⟩ := nm_i h
            refine q_iinc cx (pc' := 1584) 3 rfl ki_6 ev3_1581 (by decide) (L' := [(3, .int v3_1581), (0, .ref b), (1, .ref r0), (2, .ref r8)]) rfl dL_law_1581 rfl ?_
            refine q_goto cx dL_law_1584 (tgt := 18) (by decide) ?_
            refine q_sub cx [1, 2, 3, 0] rfl ?_
            exact ih _ _ _ _ (by omega) (by omega) (hz18.1 _ h)
          · replace h := ine c1169 h
            refine q_iconst cx (pc' := 1173) ki_0 dL_law_1172 rfl ?_
            replace h := hk18_r _ _ (hz18.2 _ h)
            obtain ⟨rfl, rfl⟩ := o2_i h
            exact absurd hz1 (by decide)
        replace h := ine c33_29 h
        rcases Decidable.em (s33 = 30) with c33_30 | c33_30
        · replace h := ip c33_30 h
          refine q_tabIn cx (off := 1141) (tgt := 1174) (es33.symm.trans c33_30) dL_law_33 (by decide) (by decide) ?_
          refine q_aload_n cx (pc' := 1175) 1 rfl dL_law_1174 rfl ?_
          obtain ⟨hk1175, h⟩ := ck_i h
          obtain ⟨c1175, hc1175, h⟩ := bnd_i h
          refine q_callV cx (pc' := 1178) (S := []) (S1 := [.int c1175]) (kc' := kq18) (ks' := sq18) 8 (ct_X8_looked Γ l Mw_18 r0 hk1175 _ hc1175) lki_X8_looked lkv_X8_looked lkc_L_140 hk1175 (r := (RX8, TX8, 10)) ⟨rfl, by decide, rfl⟩ rfl rfl (Nat.le_of_ble_eq_true rfl) ⟨(Nat.le_of_ble_eq_true rfl), (Nat.le_of_ble_eq_true rfl)⟩ ⟨(by show kq18 + 0 ≤ 600000; omega), (by show sq18 + 0 ≤ 7302250; omega)⟩ dL_law_1175 rfl rfl rfl ?_
          refine q_aload_n cx (pc' := 1179) 2 rfl dL_law_1178 rfl ?_
          obtain ⟨hk1179, h⟩ := ck_i h
          obtain ⟨c1179, hc1179, h⟩ := bnd_i h
          refine q_callV cx (pc' := 1182) (S := [.int c1175]) (S1 := [.int c1179, .int c1175]) (kc' := kq18) (ks' := sq18) 9 (ct_X9_looked Γ l Mw_18 r8 hk1179 _ hc1179) lki_X9_looked lkv_X9_looked lkc_L_143 hk1179 (r := (RX9, TX9, 70)) ⟨rfl, by decide, rfl⟩ rfl rfl (Nat.le_of_ble_eq_true rfl) ⟨(Nat.le_of_ble_eq_true rfl), (Nat.le_of_ble_eq_true rfl)⟩ ⟨(by show kq18 + 0 ≤ 600000; omega), (by show sq18 + 0 ≤ 7302250; omega)⟩ dL_law_1179 rfl rfl rfl ?_
          refine q_icmp_eq cx (pc' := 1185) (tgt := 1581) dL_law_1182 (by decide) rfl (fun c1182 => ?_) (fun c1182 => ?_)
          · replace h := ip c1182 h
            obtain ⟨v3_1581, ev3_1581, h⟩ := nm_i h
            refine q_iinc cx (pc' := 1584) 3 rfl ki_6 ev3_1581 (by decide) (L' := [(3, .int v3_1581), (0, .ref b), (1, .ref r0), (2, .ref r8)]) rfl dL_law_1581 rfl ?_
            refine q_goto cx dL_law_1584 (tgt := 18) (by decide) ?_
            refine q_sub cx [1, 2, 3, 0] rfl ?_
            exact ih _ _ _ _ (by omega) (by omega) (hz18.1 _ h)
          · replace h := ine c1182 h
            refine q_iconst cx (pc' := 1186) ki_0 dL_law_1185 rfl ?_
            replace h := hk18_r _ _ (hz18.2 _ h)
            obtain ⟨rfl, rfl⟩ := o2_i h
            exact absurd hz1 (by decide)
        replace h := ine c33_30 h
        rcases Decidable.em (s33 = 31) with c33_31 | c33_31
        · replace h := ip c33_31 h
          refine q_tabIn cx (off := 1154) (tgt := 1187) (es33.symm.trans c33_31) dL_law_33 (by decide) (by decide) ?_
          refine q_aload_n cx (pc' := 1188) 1 rfl dL_law_1187 rfl ?_
          refine q_aload_n cx (pc' := 1189) 0 rfl dL_law_1188 rfl ?_
          refine q_iload_n cx (pc' := 1190) 3 rfl dL_law_1189 rfl ?_
          refine q_iconst cx (pc' := 1191) ki_1 dL_law_1190 rfl ?_
          refine q_iadd cx (pc' := 1192) dL_law_1191 rfl ?_
          obtain ⟨hi1192, x1192, ex1192, h⟩ := scA_i h
          refine q_sld cx (pc' := 1193) hX hi1192 ex1192 dL_law_1192 rfl ?_
          refine q_aload_n cx (pc' := 1194) 0 rfl dL_law_1193 rfl ?_
          refine q_iload_n cx (pc' := 1195) 3 rfl dL_law_1194 rfl ?_
          refine q_iconst cx (pc' := 1196) ki_2 dL_law_1195 rfl ?_
          refine q_iadd cx (pc' := 1197) dL_law_1196 rfl ?_
          obtain ⟨hi1197, x1197, ex1197, h⟩ := scA_i h
          refine q_sld cx (pc' := 1198) hX hi1197 ex1197 dL_law_1197 rfl ?_
          obtain ⟨hk1198, h⟩ := ck_i h
          obtain ⟨c1198, hc1198, h⟩ := bnd_i h
          refine q_callV cx (pc' := 1201) (S := []) (S1 := [.int c1198]) (kc' := kq18) (ks' := sq18) 8 (ct_X8_judge Γ l Mw_18 r0 x1192 x1197 hk1198 _ hc1198) lki_X8_judge lkv_X8_judge lkc_L_144 hk1198 (r := (RX8, TX8, 10)) ⟨rfl, by decide, rfl⟩ rfl rfl (Nat.le_of_ble_eq_true rfl) ⟨(Nat.le_of_ble_eq_true rfl), (Nat.le_of_ble_eq_true rfl)⟩ ⟨(by show kq18 + 0 ≤ 600000; omega), (by show sq18 + 0 ≤ 7302250; omega)⟩ dL_law_1198 rfl rfl rfl ?_
          refine q_aload_n cx (pc' := 1202) 2 rfl dL_law_1201 rfl ?_
          refine q_aload_n cx (pc' := 1203) 0 rfl dL_law_1202 rfl ?_
          refine q_iload_n cx (pc' := 1204) 3 rfl dL_law_1203 rfl ?_
          refine q_iconst cx (pc' := 1205) ki_1 dL_law_1204 rfl ?_
          refine q_iadd cx (pc' := 1206) dL_law_1205 rfl ?_
          obtain ⟨hi1206, x1206, ex1206, h⟩ := scA_i h
          refine q_sld cx (pc' := 1207) hX hi1206 ex1206 dL_law_1206 rfl ?_
          refine q_aload_n cx (pc' := 1208) 0 rfl dL_law_1207 rfl ?_
          refine q_iload_n cx (pc' := 1209) 3 rfl dL_law_1208 rfl ?_
          refine q_iconst cx (pc' := 1210) ki_2 dL_law_1209 rfl ?_
          refine q_iadd cx (pc' := 1211) dL_law_1210 rfl ?_
          obtain ⟨hi1211, x1211, ex1211, h⟩ := scA_i h
          refine q_sld cx (pc' := 1212) hX hi1211 ex1211 dL_law_1211 rfl ?_
          obtain ⟨hk1212, h⟩ := ck_i h
          obtain ⟨c1212, hc1212, h⟩ := bnd_i h
          refine q_callV cx (pc' := 1215) (S := [.int c1198]) (S1 := [.int c1212, .int c1198]) (kc' := kq18) (ks' := sq18) 9 (ct_X9_judge Γ l Mw_18 r8 x1206 x1211 hk1212 _ hc1212) lki_X9_judge lkv_X9_judge lkc_L_147 hk1212 (r := (RX9, TX9, 70)) ⟨rfl, by decide, rfl⟩ rfl rfl (Nat.le_of_ble_eq_true rfl) ⟨(Nat.le_of_ble_eq_true rfl), (Nat.le_of_ble_eq_true rfl)⟩ ⟨(by show kq18 + 0 ≤ 600000; omega), (by show sq18 + 0 ≤ 7302250; omega)⟩ dL_law_1212 rfl rfl rfl ?_
          refine q_icmp_eq cx (pc' := 1218) (tgt := 1581) dL_law_1215 (by decide) rfl (fun c1215 => ?_) (fun c1215 => ?_)
          · replace h := ip c1215 h
            obtain ⟨v3_1581, ev3_1581, h⟩ := nm_i h
            refine q_iinc cx (pc' := 1584) 3 rfl ki_6 ev3_1581 (by decide) (L' := [(3, .int v3_1581), (0, .ref b), (1, .ref r0), (2, .ref r8)]) rfl dL_law_1581 rfl ?_
            refine q_goto cx dL_law_1584 (tgt := 18) (by decide) ?_
            refine q_sub cx [1, 2, 3, 0] rfl ?_
            exact ih _ _ _ _ (by omega) (by omega) (hz18.1 _ h)
          · replace h := ine c1215 h
            refine q_iconst cx (pc' := 1219) ki_0 dL_law_1218 rfl ?_
            replace h := hk18_r _ _ (hz18.2 _ h)
            obtain ⟨rfl, rfl⟩ := o2_i h
            exact absurd hz1 (by decide)
        replace h := ine c33_31 h
        rcases Decidable.em (s33 = 32) with c33_32 | c33_32
        · replace h := ip c33_32 h
          refine q_tabIn cx (off := 1187) (tgt := 1220) (es33.symm.trans c33_32) dL_law_33 (by decide) (by decide) ?_
          refine q_aload_n cx (pc' := 1221) 1 rfl dL_law_1220 rfl ?_
          obtain ⟨hk1221, h⟩ := ck_i h
          obtain ⟨⟨c1221, M1221⟩, hc1221, h⟩ := bnd_i h
          replace h := pr2_i h
          refine q_callV cx (pc' := 1224) (S := []) (S1 := [.int c1221]) (kc' := kq18) (ks' := sq18) 8 (ct_X8_image Γ l Mw_18 r0 hk1221 _ _ hc1221) lki_X8_image lkv_X8_image lkc_L_148 hk1221 (r := (RX8, TX8, 10)) ⟨rfl, by decide, rfl⟩ rfl rfl (Nat.le_of_ble_eq_true rfl) ⟨(Nat.le_of_ble_eq_true rfl), (Nat.le_of_ble_eq_true rfl)⟩ ⟨(by show kq18 + 0 ≤ 600000; omega), (by show sq18 + 0 ≤ 7302250; omega)⟩ dL_law_1221 rfl rfl rfl ?_
          refine q_aload_n cx (pc' := 1225) 2 rfl dL_law_1224 rfl ?_
          obtain ⟨hk1225, h⟩ := ck_i h
          obtain ⟨⟨c1225, M1225⟩, hc1225, h⟩ := bnd_i h
          replace h := pr2_i h
          refine q_callV cx (pc' := 1228) (S := [.int c1221]) (S1 := [.int c1225, .int c1221]) (kc' := kq18) (ks' := sq18) 9 (ct_X9_image Γ l M1221 r8 hk1225 _ _ hc1225) lki_X9_image lkv_X9_image lkc_L_151 hk1225 (r := (RX9, TX9, 70)) ⟨rfl, by decide, rfl⟩ rfl rfl (Nat.le_of_ble_eq_true rfl) ⟨(Nat.le_of_ble_eq_true rfl), (Nat.le_of_ble_eq_true rfl)⟩ ⟨(by show kq18 + 0 ≤ 600000; omega), (by show sq18 + 0 ≤ 7302250; omega)⟩ dL_law_1225 rfl rfl rfl ?_
          refine q_icmp_eq cx (pc' := 1231) (tgt := 1581) dL_law_1228 (by decide) rfl (fun c1228 => ?_) (fun c1228 => ?_)
          · replace h := ip c1228 h
            obtain ⟨v3_1581, ev3_1581, h⟩ := nm_i h
            refine q_iinc cx (pc' := 1584) 3 rfl ki_6 ev3_1581 (by decide) (L' := [(3, .int v3_1581), (0, .ref b), (1, .ref r0), (2, .ref r8)]) rfl dL_law_1581 rfl ?_
            refine q_goto cx dL_law_1584 (tgt := 18) (by decide) ?_
            refine q_sub cx [1, 2, 3, 0] rfl ?_
            exact ih _ _ _ _ (by omega) (by omega) (hz18.1 _ h)
          · replace h := ine c1228 h
            refine q_iconst cx (pc' := 1232) ki_0 dL_law_1231 rfl ?_
            replace h := hk18_r _ _ (hz18.2 _ h)
            obtain ⟨rfl, rfl⟩ := o2_i h
            exact absurd hz1 (by decide)
        replace h := ine c33_32 h
        rcases Decidable.em (s33 = 33) with c33_33 | c33_33
        · replace h := ip c33_33 h
          refine q_tabIn cx (off := 1200) (tgt := 1233) (es33.symm.trans c33_33) dL_law_33 (by decide) (by decide) ?_
          refine q_aload_n cx (pc' := 1234) 1 rfl dL_law_1233 rfl ?_
          obtain ⟨hk1234, h⟩ := ck_i h
          obtain ⟨⟨c1234, M1234⟩, hc1234, h⟩ := bnd_i h
          replace h := pr2_i h
          refine q_callV cx (pc' := 1237) (S := []) (S1 := [.int c1234]) (kc' := kq18) (ks' := sq18) 8 (ct_X8_undo Γ l Mw_18 r0 hk1234 _ _ hc1234) lki_X8_undo lkv_X8_undo lkc_L_152 hk1234 (r := (RX8, TX8, 10)) ⟨rfl, by decide, rfl⟩ rfl rfl (Nat.le_of_ble_eq_true rfl) ⟨(Nat.le_of_ble_eq_true rfl), (Nat.le_of_ble_eq_true rfl)⟩ ⟨(by show kq18 + 0 ≤ 600000; omega), (by show sq18 + 0 ≤ 7302250; omega)⟩ dL_law_1234 rfl rfl rfl ?_
          refine q_aload_n cx (pc' := 1238) 2 rfl dL_law_1237 rfl ?_
          obtain ⟨hk1238, h⟩ := ck_i h
          obtain ⟨⟨c1238, M1238⟩, hc1238, h⟩ := bnd_i h
          replace h := pr2_i h
          refine q_callV cx (pc' := 1241) (S := [.int c1234]) (S1 := [.int c1238, .int c1234]) (kc' := kq18) (ks' := sq18) 9 (ct_X9_undo Γ l M1234 r8 hk1238 _ _ hc1238) lki_X9_undo lkv_X9_undo lkc_L_155 hk1238 (r := (RX9, TX9, 70)) ⟨rfl, by decide, rfl⟩ rfl rfl (Nat.le_of_ble_eq_true rfl) ⟨(Nat.le_of_ble_eq_true rfl), (Nat.le_of_ble_eq_true rfl)⟩ ⟨(by show kq18 + 0 ≤ 600000; omega), (by show sq18 + 0 ≤ 7302250; omega)⟩ dL_law_1238 rfl rfl rfl ?_
          refine q_icmp_eq cx (pc' := 1244) (tgt := 1581) dL_law_1241 (by decide) rfl (fun c1241 => ?_) (fun c1241 => ?_)
          · replace h := ip c1241 h
            obtain ⟨v3_1581, ev3_1581, h⟩ := nm_i h
            refine q_iinc cx (pc' := 1584) 3 rfl ki_6 ev3_1581 (by decide) (L' := [(3, .int v3_1581), (0, .ref b), (1, .ref r0), (2, .ref r8)]) rfl dL_law_1581 rfl ?_
            refine q_goto cx dL_law_1584 (tgt := 18) (by decide) ?_
            refine q_sub cx [1, 2, 3, 0] rfl ?_
            exact ih _ _ _ _ (by omega) (by omega) (hz18.1 _ h)
          · replace h := ine c1241 h
            refine q_iconst cx (pc' := 1245) ki_0 dL_law_1244 rfl ?_
            replace h := hk18_r _ _ (hz18.2 _ h)
            obtain ⟨rfl, rfl⟩ := o2_i h
            exact absurd hz1 (by decide)
        replace h := ine c33_33 h
        rcases Decidable.em (s33 = 34) with c33_34 | c33_34
        · replace h := ip c33_34 h
          refine q_tabIn cx (off := 1213) (tgt := 1246) (es33.symm.trans c33_34) dL_law_33 (by decide) (by decide) ?_
          refine q_aload_n cx (pc' := 1247) 1 rfl dL_law_1246 rfl ?_
          refine q_aload_n cx (pc' := 1248) 0 rfl dL_law_1247 rfl ?_
          refine q_iload_n cx (pc' := 1249) 3 rfl dL_law_1248 rfl ?_
          refine q_iconst cx (pc' := 1250) ki_1 dL_law_1249 rfl ?_
          refine q_iadd cx (pc' := 1251) dL_law_1250 rfl ?_
          obtain ⟨hi1251, x1251, ex1251, h⟩ := scA_i h
          refine q_sld cx (pc' := 1252) hX hi1251 ex1251 dL_law_1251 rfl ?_
          refine q_aload_n cx (pc' := 1253) 0 rfl dL_law_1252 rfl ?_
          refine q_iload_n cx (pc' := 1254) 3 rfl dL_law_1253 rfl ?_
          refine q_iconst cx (pc' := 1255) ki_2 dL_law_1254 rfl ?_
          refine q_iadd cx (pc' := 1256) dL_law_1255 rfl ?_
          obtain ⟨hi1256, x1256, ex1256, h⟩ := scA_i h
          refine q_sld cx (pc' := 1257) hX hi1256 ex1256 dL_law_1256 rfl ?_
          refine q_aload_n cx (pc' := 1258) 0 rfl dL_law_1257 rfl ?_
          refine q_iload_n cx (pc' := 1259) 3 rfl dL_law_1258 rfl ?_
          refine q_iconst cx (pc' := 1260) ki_3 dL_law_1259 rfl ?_
          refine q_iadd cx (pc' := 1261) dL_law_1260 rfl ?_
          obtain ⟨hi1261, x1261, ex1261, h⟩ := scA_i h
          refine q_sld cx (pc' := 1262) hX hi1261 ex1261 dL_law_1261 rfl ?_
          obtain ⟨hk1262, h⟩ := ck_i h
          obtain ⟨⟨c1262, M1262⟩, hc1262, h⟩ := bnd_i h
          replace h := pr2_i h
          refine q_callV cx (pc' := 1265) (S := []) (S1 := [.int c1262]) (kc' := kq18) (ks' := sq18) 8 (ct_X8_act Γ l Mw_18 r0 x1251 x1256 x1261 hk1262 _ _ hc1262) lki_X8_act lkv_X8_act lkc_L_156 hk1262 (r := (RX8, TX8, 10)) ⟨rfl, by decide, rfl⟩ rfl rfl (Nat.le_of_ble_eq_true rfl) ⟨(Nat.le_of_ble_eq_true rfl), (Nat.le_of_ble_eq_true rfl)⟩ ⟨(by show kq18 + 0 ≤ 600000; omega), (by show sq18 + 0 ≤ 7302250; omega)⟩ dL_law_1262 rfl rfl rfl ?_
          refine q_aload_n cx (pc' := 1266) 2 rfl dL_law_1265 rfl ?_
          refine q_aload_n cx (pc' := 1267) 0 rfl dL_law_1266 rfl ?_
          refine q_iload_n cx (pc' := 1268) 3 rfl dL_law_1267 rfl ?_
          refine q_iconst cx (pc' := 1269) ki_1 dL_law_1268 rfl ?_
          refine q_iadd cx (pc' := 1270) dL_law_1269 rfl ?_
          obtain ⟨hi1270, x1270, ex1270, h⟩ := scA_i h
          refine q_sld cx (pc' := 1271) hX hi1270 ex1270 dL_law_1270 rfl ?_
          refine q_aload_n cx (pc' := 1272) 0 rfl dL_law_1271 rfl ?_
          refine q_iload_n cx (pc' := 1273) 3 rfl dL_law_1272 rfl ?_
          refine q_iconst cx (pc' := 1274) ki_2 dL_law_1273 rfl ?_
          refine q_iadd cx (pc' := 1275) dL_law_1274 rfl ?_
          obtain ⟨hi1275, x1275, ex1275, h⟩ := scA_i h
          refine q_sld cx (pc' := 1276) hX hi1275 ex1275 dL_law_1275 rfl ?_
          refine q_aload_n cx (pc' := 1277) 0 rfl dL_law_1276 rfl ?_
          refine q_iload_n cx (pc' := 1278) 3 rfl dL_law_1277 rfl ?_
          refine q_iconst cx (pc' := 1279) ki_3 dL_law_1278 rfl ?_
          refine q_iadd cx (pc' := 1280) dL_law_1279 rfl ?_
          obtain ⟨hi1280, x1280, ex1280, h⟩ := scA_i h
          refine q_sld cx (pc' := 1281) hX hi1280 ex1280 dL_law_1280 rfl ?_
          obtain ⟨hk1281, h⟩ := ck_i h
          obtain ⟨⟨c1281, M1281⟩, hc1281, h⟩ := bnd_i h
          replace h := pr2_i h
          refine q_callV cx (pc' := 1284) (S := [.int c1262]) (S1 := [.int c1281, .int c1262]) (kc' := kq18) (ks' := sq18) 9 (ct_X9_act Γ l M1262 r8 x1270 x1275 x1280 hk1281 _ _ hc1281) lki_X9_act lkv_X9_act lkc_L_159 hk1281 (r := (RX9, TX9, 70)) ⟨rfl, by decide, rfl⟩ rfl rfl (Nat.le_of_ble_eq_true rfl) ⟨(Nat.le_of_ble_eq_true rfl), (Nat.le_of_ble_eq_true rfl)⟩ ⟨(by show kq18 + 0 ≤ 600000; omega), (by show sq18 + 0 ≤ 7302250; omega)⟩ dL_law_1281 rfl rfl rfl ?_
          refine q_icmp_eq cx (pc' := 1287) (tgt := 1581) dL_law_1284 (by decide) rfl (fun c1284 => ?_) (fun c1284 => ?_)
          · replace h := ip c1284 h
            obtain ⟨v3_1581, ev3_1581, h⟩ := nm_i h
            refine q_iinc cx (pc' := 1584) 3 rfl ki_6 ev3_1581 (by decide) (L' := [(3, .int v3_1581), (0, .ref b), (1, .ref r0), (2, .ref r8)]) rfl dL_law_1581 rfl ?_
            refine q_goto cx dL_law_1584 (tgt := 18) (by decide) ?_
            refine q_sub cx [1, 2, 3, 0] rfl ?_
            exact ih _ _ _ _ (by omega) (by omega) (hz18.1 _ h)
          · replace h := ine c1284 h
            refine q_iconst cx (pc' := 1288) ki_0 dL_law_1287 rfl ?_
            replace h := hk18_r _ _ (hz18.2 _ h)
            obtain ⟨rfl, rfl⟩ := o2_i h
            exact absurd hz1 (by decide)
        replace h := ine c33_34 h
        rcases Decidable.em (s33 = 35) with c33_35 | c33_35
        · replace h := ip c33_35 h
          refine q_tabIn cx (off := 1256) (tgt := 1289) (es33.symm.trans c33_35) dL_law_33 (by decide) (by decide) ?_
          refine q_aload_n cx (pc' := 1290) 1 rfl dL_law_1289 rfl ?_
          refine q_aload_n cx (pc' := 1291) 0 rfl dL_law_1290 rfl ?_
          refine q_iload_n cx (pc' := 1292) 3 rfl dL_law_1291 rfl ?_
          refine q_iconst cx (pc' := 1293) ki_1 dL_law_1292 rfl ?_
          refine q_iadd cx (pc' := 1294) dL_law_1293 rfl ?_
          obtain ⟨hi1294, x1294, ex1294, h⟩ := scA_i h
          refine q_sld cx (pc' := 1295) hX hi1294 ex1294 dL_law_1294 rfl ?_
          obtain ⟨hk1295, h⟩ := ck_i h
          obtain ⟨c1295, hc1295, h⟩ := bnd_i h
          refine q_callV cx (pc' := 1298) (S := []) (S1 := [.int c1295]) (kc' := kq18) (ks' := sq18) 8 (ct_X8_trace Γ l Mw_18 r0 x1294 hk1295 _ hc1295) lki_X8_trace lkv_X8_trace lkc_L_160 hk1295 (r := (RX8, TX8, 10)) ⟨rfl, by decide, rfl⟩ rfl rfl (Nat.le_of_ble_eq_true rfl) ⟨(Nat.le_of_ble_eq_true rfl), (Nat.le_of_ble_eq_true rfl)⟩ ⟨(by show kq18 + 0 ≤ 600000; omega), (by show sq18 + 0 ≤ 7302250; omega)⟩ dL_law_1295 rfl rfl rfl ?_
          refine q_aload_n cx (pc' := 1299) 2 rfl dL_law_1298 rfl ?_
          refine q_aload_n cx (pc' := 1300) 0 rfl dL_law_1299 rfl ?_
          refine q_iload_n cx (pc' := 1301) 3 rfl dL_law_1300 rfl ?_
          refine q_iconst cx (pc' := 1302) ki_1 dL_law_1301 rfl ?_
          refine q_iadd cx (pc' := 1303) dL_law_1302 rfl ?_
          obtain ⟨hi1303, x1303, ex1303, h⟩ := scA_i h
          refine q_sld cx (pc' := 1304) hX hi1303 ex1303 dL_law_1303 rfl ?_
          obtain ⟨hk1304, h⟩ := ck_i h
          obtain ⟨c1304, hc1304, h⟩ := bnd_i h
          refine q_callV cx (pc' := 1307) (S := [.int c1295]) (S1 := [.int c1304, .int c1295]) (kc' := kq18) (ks' := sq18) 9 (ct_X9_trace Γ l Mw_18 r8 x1303 hk1304 _ hc1304) lki_X9_trace lkv_X9_trace lkc_L_163 hk1304 (r := (RX9, TX9, 70)) ⟨rfl, by decide, rfl⟩ rfl rfl (Nat.le_of_ble_eq_true rfl) ⟨(Nat.le_of_ble_eq_true rfl), (Nat.le_of_ble_eq_true rfl)⟩ ⟨(by show kq18 + 0 ≤ 600000; omega), (by show sq18 + 0 ≤ 7302250; omega)⟩ dL_law_1304 rfl rfl rfl ?_
          refine q_icmp_eq cx (pc' := 1310) (tgt := 1581) dL_law_1307 (by decide) rfl (fun c1307 => ?_) (fun c1307 => ?_)
          · replace h := ip c1307 h
            obtain ⟨v3_1581, ev3_1581, h⟩ := nm_i h
            refine q_iinc cx (pc' := 1584) 3 rfl ki_6 ev3_1581 (by decide) (L' := [(3, .int v3_1581), (0, .ref b), (1, .ref r0), (2, .ref r8)]) rfl dL_law_1581 rfl ?_
            refine q_goto cx dL_law_1584 (tgt := 18) (by decide) ?_
            refine q_sub cx [1, 2, 3, 0] rfl ?_
            exact ih _ _ _ _ (by omega) (by omega) (hz18.1 _ h)
          · replace h := ine c1307 h
            refine q_iconst cx (pc' := 1311) ki_0 dL_law_1310 rfl ?_
            replace h := hk18_r _ _ (hz18.2 _ h)
            obtain ⟨rfl, rfl⟩ := o2_i h
            exact absurd hz1 (by decide)
        replace h := ine c33_35 h
        rcases Decidable.em (s33 = 36) with c33_36 | c33_36
        · replace h := ip c33_36 h
          refine q_tabIn cx (off := 1279) (tgt := 1312) (es33.symm.trans c33_36) dL_law_33 (by decide) (by decide) ?_
          refine q_aload_n cx (pc' := 1313) 1 rfl dL_law_1312 rfl ?_
          refine q_aload_n cx (pc' := 1314) 0 rfl dL_law_1313 rfl ?_
          refine q_iload_n cx (pc' := 1315) 3 rfl dL_law_1314 rfl ?_
          refine q_iconst cx (pc' := 1316) ki_1 dL_law_1315 rfl ?_
          refine q_iadd cx (pc' := 1317) dL_law_1316 rfl ?_
          obtain ⟨hi1317, x1317, ex1317, h⟩ := scA_i h
          refine q_sld cx (pc' := 1318) hX hi1317 ex1317 dL_law_1317 rfl ?_
          refine q_aload_n cx (pc' := 1319) 0 rfl dL_law_1318 rfl ?_
          refine q_iload_n cx (pc' := 1320) 3 rfl dL_law_1319 rfl ?_
          refine q_iconst cx (pc' := 1321) ki_2 dL_law_1320 rfl ?_
          refine q_iadd cx (pc' := 1322) dL_law_1321 rfl ?_
          obtain ⟨hi1322, x1322, ex1322, h⟩ := scA_i h
          refine q_sld cx (pc' := 1323) hX hi1322 ex1322 dL_law_1322 rfl ?_
          obtain ⟨hk1323, h⟩ := ck_i h
          obtain ⟨c1323, hc1323, h⟩ := bnd_i h
          refine q_callV cx (pc' := 1326) (S := []) (S1 := [.int c1323]) (kc' := kq18) (ks' := sq18) 8 (ct_X8_taken Γ l Mw_18 r0 x1317 x1322 hk1323 _ hc1323) lki_X8_taken lkv_X8_taken lkc_L_164 hk1323 (r := (RX8, TX8, 10)) ⟨rfl, by decide, rfl⟩ rfl rfl (Nat.le_of_ble_eq_true rfl) ⟨(Nat.le_of_ble_eq_true rfl), (Nat.le_of_ble_eq_true rfl)⟩ ⟨(by show kq18 + 0 ≤ 600000; omega), (by show sq18 + 0 ≤ 7302250; omega)⟩ dL_law_1323 rfl rfl rfl ?_
          refine q_aload_n cx (pc' := 1327) 2 rfl dL_law_1326 rfl ?_
          refine q_aload_n cx (pc' := 1328) 0 rfl dL_law_1327 rfl ?_
          refine q_iload_n cx (pc' := 1329) 3 rfl dL_law_1328 rfl ?_
          refine q_iconst cx (pc' := 1330) ki_1 dL_law_1329 rfl ?_
          refine q_iadd cx (pc' := 1331) dL_law_1330 rfl ?_
          obtain ⟨hi1331, x1331, ex1331, h⟩ := scA_i h
          refine q_sld cx (pc' := 1332) hX hi1331 ex1331 dL_law_1331 rfl ?_
          refine q_aload_n cx (pc' := 1333) 0 rfl dL_law_1332 rfl ?_
          refine q_iload_n cx (pc' := 1334) 3 rfl dL_law_1333 rfl ?_
          refine q_iconst cx (pc' := 1335) ki_2 dL_law_1334 rfl ?_
          refine q_iadd cx (pc' := 1336) dL_law_1335 rfl ?_
          obtain ⟨hi1336, x1336, ex1336, h⟩ := scA_i h
          refine q_sld cx (pc' := 1337) hX hi1336 ex1336 dL_law_1336 rfl ?_
          obtain ⟨hk1337, h⟩ := ck_i h
          obtain ⟨c1337, hc1337, h⟩ := bnd_i h
          refine q_callV cx (pc' := 1340) (S := [.int c1323]) (S1 := [.int c1337, .int c1323]) (kc' := kq18) (ks' := sq18) 9 (ct_X9_taken Γ l Mw_18 r8 x1331 x1336 hk1337 _ hc1337) lki_X9_taken lkv_X9_taken lkc_L_167 hk1337 (r := (RX9, TX9, 70)) ⟨rfl, by decide, rfl⟩ rfl rfl (Nat.le_of_ble_eq_true rfl) ⟨(Nat.le_of_ble_eq_true rfl), (Nat.le_of_ble_eq_true rfl)⟩ ⟨(by show kq18 + 0 ≤ 600000; omega), (by show sq18 + 0 ≤ 7302250; omega)⟩ dL_law_1337 rfl rfl rfl ?_
          refine q_icmp_eq cx (pc' := 1343) (tgt := 1581) dL_law_1340 (by decide) rfl (fun c1340 => ?_) (fun c1340 => ?_)
          · replace h := ip c1340 h
            obtain ⟨v3_1581, ev3_1581, h⟩ := nm_i h
            refine q_iinc cx (pc' := 1584) 3 rfl ki_6 ev3_1581 (by decide) (L' := [(3, .int v3_1581), (0, .ref b), (1, .ref r0), (2, .ref r8)]) rfl dL_law_1581 rfl ?_
            refine q_goto cx dL_law_1584 (tgt := 18) (by decide) ?_
            refine q_sub cx [1, 2, 3, 0] rfl ?_
            exact ih _ _ _ _ (by omega) (by omega) (hz18.1 _ h)
          · replace h := ine c1340 h
            refine q_iconst cx (pc' := 1344) ki_0 dL_law_1343 rfl ?_
            replace h := hk18_r _ _ (hz18.2 _ h)
            obtain ⟨rfl, rfl⟩ := o2_i h
            exact absurd hz1 (by decide)
        replace h := ine c33_36 h
        rcases Decidable.em (s33 = 37) with c33_37 | c33_37
        · replace h := ip c33_37 h
          refine q_tabIn cx (off := 1312) (tgt := 1345) (es33.symm.trans c33_37) dL_law_33 (by decide) (by decide) ?_
          refine q_aload_n cx (pc' := 1346) 1 rfl dL_law_1345 rfl ?_
          refine q_aload_n cx (pc' := 1347) 0 rfl dL_law_1346 rfl ?_
          refine q_iload_n cx (pc' := 1348) 3 rfl dL_law_1347 rfl ?_
          refine q_iconst cx (pc' := 1349) ki_1 dL_law_1348 rfl ?_
          refine q_iadd cx (pc' := 1350) dL_law_1349 rfl ?_
          obtain ⟨hi1350, x1350, ex1350, h⟩ := scA_i h
          refine q_sld cx (pc' := 1351) hX hi1350 ex1350 dL_law_1350 rfl ?_
          obtain ⟨hk1351, h⟩ := ck_i h
          obtain ⟨c1351, hc1351, h⟩ := bnd_i h
          refine q_callV cx (pc' := 1354) (S := []) (S1 := [.int c1351]) (kc' := kq18) (ks' := sq18) 8 (ct_X8_count Γ l Mw_18 r0 x1350 hk1351 _ hc1351) lki_X8_count lkv_X8_count lkc_L_168 hk1351 (r := (RX8, TX8, 10)) ⟨rfl, by decide, rfl⟩ rfl rfl (Nat.le_of_ble_eq_true rfl) ⟨(Nat.le_of_ble_eq_true rfl), (Nat.le_of_ble_eq_true rfl)⟩ ⟨(by show kq18 + 0 ≤ 600000; omega), (by show sq18 + 0 ≤ 7302250; omega)⟩ dL_law_1351 rfl rfl rfl ?_
          refine q_aload_n cx (pc' := 1355) 2 rfl dL_law_1354 rfl ?_
          refine q_aload_n cx (pc' := 1356) 0 rfl dL_law_1355 rfl ?_
          refine q_iload_n cx (pc' := 1357) 3 rfl dL_law_1356 rfl ?_
          refine q_iconst cx (pc' := 1358) ki_1 dL_law_1357 rfl ?_
          refine q_iadd cx (pc' := 1359) dL_law_1358 rfl ?_
          obtain ⟨hi1359, x1359, ex1359, h⟩ := scA_i h
          refine q_sld cx (pc' := 1360) hX hi1359 ex1359 dL_law_1359 rfl ?_
          obtain ⟨hk1360, h⟩ := ck_i h
          obtain ⟨c1360, hc1360, h⟩ := bnd_i h
          refine q_callV cx (pc' := 1363) (S := [.int c1351]) (S1 := [.int c1360, .int c1351]) (kc' := kq18) (ks' := sq18) 9 (ct_X9_count Γ l Mw_18 r8 x1359 hk1360 _ hc1360) lki_X9_count lkv_X9_count lkc_L_171 hk1360 (r := (RX9, TX9, 70)) ⟨rfl, by decide, rfl⟩ rfl rfl (Nat.le_of_ble_eq_true rfl) ⟨(Nat.le_of_ble_eq_true rfl), (Nat.le_of_ble_eq_true rfl)⟩ ⟨(by show kq18 + 0 ≤ 600000; omega), (by show sq18 + 0 ≤ 7302250; omega)⟩ dL_law_1360 rfl rfl rfl ?_
          refine q_icmp_eq cx (pc' := 1366) (tgt := 1581) dL_law_1363 (by decide) rfl (fun c1363 => ?_) (fun c1363 => ?_)
          · replace h := ip c1363 h
            obtain ⟨v3_1581, ev3_1581, h⟩ := nm_i h
            refine q_iinc cx (pc' := 1584) 3 rfl ki_6 ev3_1581 (by decide) (L' := [(3, .int v3_1581), (0, .ref b), (1, .ref r0), (2, .ref r8)]) rfl dL_law_1581 rfl ?_
            refine q_goto cx dL_law_1584 (tgt := 18) (by decide) ?_
            refine q_sub cx [1, 2, 3, 0] rfl ?_
            exact ih _ _ _ _ (by omega) (by omega) (hz18.1 _ h)
          · replace h := ine c1363 h
            refine q_iconst cx (pc' := 1367) ki_0 dL_law_1366 rfl ?_
            replace h := hk18_r _ _ (hz18.2 _ h)
            obtain ⟨rfl, rfl⟩ := o2_i h
            exact absurd hz1 (by decide)
        replace h := ine c33_37 h
        rcases Decidable.em (s33 = 38) with c33_38 | c33_38
        · replace h := ip c33_38 h
          refine q_tabIn cx (off := 1335) (tgt := 1368) (es33.symm.trans c33_38) dL_law_33 (by decide) (by decide) ?_
          refine q_aload_n cx (pc' := 1369) 1 rfl dL_law_1368 rfl ?_
          refine q_aload_n cx (pc' := 1370) 0 rfl dL_law_1369 rfl ?_
          refine q_iload_n cx (pc' := 1371) 3 rfl dL_law_1370 rfl ?_
          refine q_iconst cx (pc' := 1372) ki_1 dL_law_1371 rfl ?_
          refine q_iadd cx (pc' := 1373) dL_law_1372 rfl ?_
          obtain ⟨hi1373, x1373, ex1373, h⟩ := scA_i h
          refine q_sld cx (pc' := 1374) hX hi1373 ex1373 dL_law_1373 rfl ?_
          refine q_aload_n cx (pc' := 1375) 0 rfl dL_law_1374 rfl ?_
          refine q_iload_n cx (pc' := 1376) 3 rfl dL_law_1375 rfl ?_
          refine q_iconst cx (pc' := 1377) ki_2 dL_law_1376 rfl ?_
          refine q_iadd cx (pc' := 1378) dL_law_1377 rfl ?_
          obtain ⟨hi1378, x1378, ex1378, h⟩ := scA_i h
          refine q_sld cx (pc' := 1379) hX hi1378 ex1378 dL_law_1378 rfl ?_
          refine q_aload_n cx (pc' := 1380) 0 rfl dL_law_1379 rfl ?_
          refine q_iload_n cx (pc' := 1381) 3 rfl dL_law_1380 rfl ?_
          refine q_iconst cx (pc' := 1382) ki_3 dL_law_1381 rfl ?_
          refine q_iadd cx (pc' := 1383) dL_law_1382 rfl ?_
          obtain ⟨hi1383, x1383, ex1383, h⟩ := scA_i h
          refine q_sld cx (pc' := 1384) hX hi1383 ex1383 dL_law_1383 rfl ?_
          obtain ⟨hk1384, h⟩ := ck_i h
          obtain ⟨⟨c1384, M1384⟩, hc1384, h⟩ := bnd_i h
          replace h := pr2_i h
          refine q_callV cx (pc' := 1387) (S := []) (S1 := [.int c1384]) (kc' := kq18) (ks' := sq18) 8 (ct_X8_tape Γ l Mw_18 r0 x1373 x1378 x1383 hk1384 _ _ hc1384) lki_X8_tape lkv_X8_tape lkc_L_172 hk1384 (r := (RX8, TX8, 10)) ⟨rfl, by decide, rfl⟩ rfl rfl (Nat.le_of_ble_eq_true rfl) ⟨(Nat.le_of_ble_eq_true rfl), (Nat.le_of_ble_eq_true rfl)⟩ ⟨(by show kq18 + 0 ≤ 600000; omega), (by show sq18 + 0 ≤ 7302250; omega)⟩ dL_law_1384 rfl rfl rfl ?_
          refine q_aload_n cx (pc' := 1388) 2 rfl dL_law_1387 rfl ?_
          refine q_aload_n cx (pc' := 1389) 0 rfl dL_law_1388 rfl ?_
          refine q_iload_n cx (pc' := 1390) 3 rfl dL_law_1389 rfl ?_
          refine q_iconst cx (pc' := 1391) ki_1 dL_law_1390 rfl ?_
          refine q_iadd cx (pc' := 1392) dL_law_1391 rfl ?_
          obtain ⟨hi1392, x1392, ex1392, h⟩ := scA_i h
          refine q_sld cx (pc' := 1393) hX hi1392 ex1392 dL_law_1392 rfl ?_
          refine q_aload_n cx (pc' := 1394) 0 rfl dL_law_1393 rfl ?_
          refine q_iload_n cx (pc' := 1395) 3 rfl dL_law_1394 rfl ?_
          refine q_iconst cx (pc' := 1396) ki_2 dL_law_1395 rfl ?_
          refine q_iadd cx (pc' := 1397) dL_law_1396 rfl ?_
          obtain ⟨hi1397, x1397, ex1397, h⟩ := scA_i h
          refine q_sld cx (pc' := 1398) hX hi1397 ex1397 dL_law_1397 rfl ?_
          refine q_aload_n cx (pc' := 1399) 0 rfl dL_law_1398 rfl ?_
          refine q_iload_n cx (pc' := 1400) 3 rfl dL_law_1399 rfl ?_
          refine q_iconst cx (pc' := 1401) ki_3 dL_law_1400 rfl ?_
          refine q_iadd cx (pc' := 1402) dL_law_1401 rfl ?_
          obtain ⟨hi1402, x1402, ex1402, h⟩ := scA_i h
          refine q_sld cx (pc' := 1403) hX hi1402 ex1402 dL_law_1402 rfl ?_
          obtain ⟨hk1403, h⟩ := ck_i h
          obtain ⟨⟨c1403, M1403⟩, hc1403, h⟩ := bnd_i h
          replace h := pr2_i h
          refine q_callV cx (pc' := 1406) (S := [.int c1384]) (S1 := [.int c1403, .int c1384]) (kc' := kq18) (ks' := sq18) 9 (ct_X9_tape Γ l M1384 r8 x1392 x1397 x1402 hk1403 _ _ hc1403) lki_X9_tape lkv_X9_tape lkc_L_175 hk1403 (r := (RX9, TX9, 70)) ⟨rfl, by decide, rfl⟩ rfl rfl (Nat.le_of_ble_eq_true rfl) ⟨(Nat.le_of_ble_eq_true rfl), (Nat.le_of_ble_eq_true rfl)⟩ ⟨(by show kq18 + 0 ≤ 600000; omega), (by show sq18 + 0 ≤ 7302250; omega)⟩ dL_law_1403 rfl rfl rfl ?_
          refine q_icmp_eq cx (pc' := 1409) (tgt := 1581) dL_law_1406 (by decide) rfl (fun c1406 => ?_) (fun c1406 => ?_)
          · replace h := ip c1406 h
            obtain ⟨v3_1581, ev3_1581, h⟩ := nm_i h
            refine q_iinc cx (pc' := 1584) 3 rfl ki_6 ev3_1581 (by decide) (L' := [(3, .int v3_1581), (0, .ref b), (1, .ref r0), (2, .ref r8)]) rfl dL_law_1581 rfl ?_
            refine q_goto cx dL_law_1584 (tgt := 18) (by decide) ?_
            refine q_sub cx [1, 2, 3, 0] rfl ?_
            exact ih _ _ _ _ (by omega) (by omega) (hz18.1 _ h)
          · replace h := ine c1406 h
            refine q_iconst cx (pc' := 1410) ki_0 dL_law_1409 rfl ?_
            replace h := hk18_r _ _ (hz18.2 _ h)
            obtain ⟨rfl, rfl⟩ := o2_i h
            exact absurd hz1 (by decide)
        replace h := ine c33_38 h
        rcases Decidable.em (s33 = 39) with c33_39 | c33_39
        · replace h := ip c33_39 h
          refine q_tabIn cx (off := 1378) (tgt := 1411) (es33.symm.trans c33_39) dL_law_33 (by decide) (by decide) ?_
          refine q_aload_n cx (pc' := 1412) 1 rfl dL_law_1411 rfl ?_
          refine q_aload_n cx (pc' := 1413) 0 rfl dL_law_1412 rfl ?_
          refine q_iload_n cx (pc' := 1414) 3 rfl dL_law_1413 rfl ?_
          refine q_iconst cx (pc' := 1415) ki_1 dL_law_1414 rfl ?_
          refine q_iadd cx (pc' := 1416) dL_law_1415 rfl ?_
          obtain ⟨hi1416, x1416, ex1416, h⟩ := scA_i h
          refine q_sld cx (pc' := 1417) hX hi1416 ex1416 dL_law_1416 rfl ?_
          refine q_aload_n cx (pc' := 1418) 0 rfl dL_law_1417 rfl ?_
          refine q_iload_n cx (pc' := 1419) 3 rfl dL_law_1418 rfl ?_
          refine q_iconst cx (pc' := 1420) ki_2 dL_law_1419 rfl ?_
          refine q_iadd cx (pc' := 1421) dL_law_1420 rfl ?_
          obtain ⟨hi1421, x1421, ex1421, h⟩ := scA_i h
          refine q_sld cx (pc' := 1422) hX hi1421 ex1421 dL_law_1421 rfl ?_
          refine q_aload_n cx (pc' := 1423) 0 rfl dL_law_1422 rfl ?_
          refine q_iload_n cx (pc' := 1424) 3 rfl dL_law_1423 rfl ?_
          refine q_iconst cx (pc' := 1425) ki_3 dL_law_1424 rfl ?_
          refine q_iadd cx (pc' := 1426) dL_law_1425 rfl ?_
          obtain ⟨hi1426, x1426, ex1426, h⟩ := scA_i h
          refine q_sld cx (pc' := 1427) hX hi1426 ex1426 dL_law_1426 rfl ?_
          refine q_i2l cx (pc' := 1428) dL_law_1427 rfl ?_
          refine q_bipush cx (pc' := 1430) kb_32 dL_law_1428 rfl ?_
          refine q_lshl cx (pc' := 1431) dL_law_1430 rfl ?_
          refine q_aload_n cx (pc' := 1432) 0 rfl dL_law_1431 rfl ?_
          refine q_iload_n cx (pc' := 1433) 3 rfl dL_law_1432 rfl ?_
          refine q_iconst cx (pc' := 1434) ki_4 dL_law_1433 rfl ?_
          refine q_iadd cx (pc' := 1435) dL_law_1434 rfl ?_
          obtain ⟨hi1435, x1435, ex1435, h⟩ := scA_i h
          refine q_sld cx (pc' := 1436) hX hi1435 ex1435 dL_law_1435 rfl ?_
          refine q_i2l cx (pc' := 1437) dL_law_1436 rfl ?_
          refine q_ldc2 cx (pc' := 1440) aw_161 dL_law_1437 rfl ?_
          refine q_land cx (pc' := 1441) dL_law_1440 rfl ?_
          refine q_lor cx (pc' := 1442) dL_law_1441 rfl ?_
          obtain ⟨hk1442, h⟩ := ck_i h
          obtain ⟨⟨c1442, M1442⟩, hc1442, h⟩ := bnd_i h
          replace h := pr2_i h
          refine q_callV cx (pc' := 1445) (S := []) (S1 := [.int c1442]) (kc' := kq18) (ks' := sq18) 8 (ct_X8_item Γ l Mw_18 r0 x1416 x1421 ((x1426.toInt64 <<< ((32 : Int32).toInt64 &&& 63)) ||| (x1435.toInt64 &&& 4294967295)) hk1442 _ _ hc1442) lki_X8_item lkv_X8_item lkc_L_178 hk1442 (r := (RX8, TX8, 10)) ⟨rfl, by decide, rfl⟩ rfl rfl (Nat.le_of_ble_eq_true rfl) ⟨(Nat.le_of_ble_eq_true rfl), (Nat.le_of_ble_eq_true rfl)⟩ ⟨(by show kq18 + 0 ≤ 600000; omega), (by show sq18 + 0 ≤ 7302250; omega)⟩ dL_law_1442 rfl rfl rfl ?_
          refine q_aload_n cx (pc' := 1446) 2 rfl dL_law_1445 rfl ?_
          refine q_aload_n cx (pc' := 1447) 0 rfl dL_law_1446 rfl ?_
          refine q_iload_n cx (pc' := 1448) 3 rfl dL_law_1447 rfl ?_
          refine q_iconst cx (pc' := 1449) ki_1 dL_law_1448 rfl ?_
          refine q_iadd cx (pc' := 1450) dL_law_1449 rfl ?_
          obtain ⟨hi1450, x1450, ex1450, h⟩ := scA_i h
          refine q_sld cx (pc' := 1451) hX hi1450 ex1450 dL_law_1450 rfl ?_
          refine q_aload_n cx (pc' := 1452) 0 rfl dL_law_1451 rfl ?_
          refine q_iload_n cx (pc' := 1453) 3 rfl dL_law_1452 rfl ?_
          refine q_iconst cx (pc' := 1454) ki_2 dL_law_1453 rfl ?_
          refine q_iadd cx (pc' := 1455) dL_law_1454 rfl ?_
          obtain ⟨hi1455, x1455, ex1455, h⟩ := scA_i h
          refine q_sld cx (pc' := 1456) hX hi1455 ex1455 dL_law_1455 rfl ?_
          refine q_aload_n cx (pc' := 1457) 0 rfl dL_law_1456 rfl ?_
          refine q_iload_n cx (pc' := 1458) 3 rfl dL_law_1457 rfl ?_
          refine q_iconst cx (pc' := 1459) ki_3 dL_law_1458 rfl ?_
          refine q_iadd cx (pc' := 1460) dL_law_1459 rfl ?_
          obtain ⟨hi1460, x1460, ex1460, h⟩ := scA_i h
          refine q_sld cx (pc' := 1461) hX hi1460 ex1460 dL_law_1460 rfl ?_
          refine q_i2l cx (pc' := 1462) dL_law_1461 rfl ?_
          refine q_bipush cx (pc' := 1464) kb_32 dL_law_1462 rfl ?_
          refine q_lshl cx (pc' := 1465) dL_law_1464 rfl ?_
          refine q_aload_n cx (pc' := 1466) 0 rfl dL_law_1465 rfl ?_
          refine q_iload_n cx (pc' := 1467) 3 rfl dL_law_1466 rfl ?_
          refine q_iconst cx (pc' := 1468) ki_4 dL_law_1467 rfl ?_
          refine q_iadd cx (pc' := 1469) dL_law_1468 rfl ?_
          obtain ⟨hi1469, x1469, ex1469, h⟩ := scA_i h
          refine q_sld cx (pc' := 1470) hX hi1469 ex1469 dL_law_1469 rfl ?_
          refine q_i2l cx (pc' := 1471) dL_law_1470 rfl ?_
          refine q_ldc2 cx (pc' := 1474) aw_161 dL_law_1471 rfl ?_
          refine q_land cx (pc' := 1475) dL_law_1474 rfl ?_
          refine q_lor cx (pc' := 1476) dL_law_1475 rfl ?_
          obtain ⟨hk1476, h⟩ := ck_i h
          obtain ⟨⟨c1476, M1476⟩, hc1476, h⟩ := bnd_i h
          replace h := pr2_i h
          refine q_callV cx (pc' := 1479) (S := [.int c1442]) (S1 := [.int c1476, .int c1442]) (kc' := kq18) (ks' := sq18) 9 (ct_X9_item Γ l M1442 r8 x1450 x1455 ((x1460.toInt64 <<< ((32 : Int32).toInt64 &&& 63)) ||| (x1469.toInt64 &&& 4294967295)) hk1476 _ _ hc1476) lki_X9_item lkv_X9_item lkc_L_182 hk1476 (r := (RX9, TX9, 70)) ⟨rfl, by decide, rfl⟩ rfl rfl (Nat.le_of_ble_eq_true rfl) ⟨(Nat.le_of_ble_eq_true rfl), (Nat.le_of_ble_eq_true rfl)⟩ ⟨(by show kq18 + 0 ≤ 600000; omega), (by show sq18 + 0 ≤ 7302250; omega)⟩ dL_law_1476 rfl rfl rfl ?_
          refine q_icmp_eq cx (pc' := 1482) (tgt := 1581) dL_law_1479 (by decide) rfl (fun c1479 => ?_) (fun c1479 => ?_)
          · replace h := ip c1479 h
            obtain ⟨v3_1581, ev3_1581, h⟩ := nm_i h
            refine q_iinc cx (pc' := 1584) 3 rfl ki_6 ev3_1581 (by decide) (L' := [(3, .int v3_1581), (0, .ref b), (1, .ref r0), (2, .ref r8)]) rfl dL_law_1581 rfl ?_
            refine q_goto cx dL_law_1584 (tgt := 18) (by decide) ?_
            refine q_sub cx [1, 2, 3, 0] rfl ?_
            exact ih _ _ _ _ (by omega) (by omega) (hz18.1 _ h)
          · replace h := ine c1479 h
            refine q_iconst cx (pc' := 1483) ki_0 dL_law_1482 rfl ?_
            replace h := hk18_r _ _ (hz18.2 _ h)
            obtain ⟨rfl, rfl⟩ := o2_i h
            exact absurd hz1 (by decide)
        replace h := ine c33_39 h
        rcases Decidable.em (s33 = 40) with c33_40 | c33_40
        · replace h := ip c33_40 h
          refine q_tabIn cx (off := 1451) (tgt := 1484) (es33.symm.trans c33_40) dL_law_33 (by decide) (by decide) ?_
          refine q_aload_n cx (pc' := 1485) 1 rfl dL_law_1484 rfl ?_
          refine q_aload_n cx (pc' := 1486) 0 rfl dL_law_1485 rfl ?_
          refine q_iload_n cx (pc' := 1487) 3 rfl dL_law_1486 rfl ?_
          refine q_iconst cx (pc' := 1488) ki_1 dL_law_1487 rfl ?_
          refine q_iadd cx (pc' := 1489) dL_law_1488 rfl ?_
          obtain ⟨hi1489, x1489, ex1489, h⟩ := scA_i h
          refine q_sld cx (pc' := 1490) hX hi1489 ex1489 dL_law_1489 rfl ?_
          refine q_aload_n cx (pc' := 1491) 0 rfl dL_law_1490 rfl ?_
          refine q_iload_n cx (pc' := 1492) 3 rfl dL_law_1491 rfl ?_
          refine q_iconst cx (pc' := 1493) ki_2 dL_law_1492 rfl ?_
          refine q_iadd cx (pc' := 1494) dL_law_1493 rfl ?_
          obtain ⟨hi1494, x1494, ex1494, h⟩ := scA_i h
          refine q_sld cx (pc' := 1495) hX hi1494 ex1494 dL_law_1494 rfl ?_
          obtain ⟨hk1495, h⟩ := ck_i h
          obtain ⟨c1495, hc1495, h⟩ := bnd_i h
          refine q_callV cx (pc' := 1498) (S := []) (S1 := [.long c1495]) (kc' := kq18) (ks' := sq18) 8 (ct_X8_read Γ l Mw_18 r0 x1489 x1494 hk1495 _ hc1495) lki_X8_read lkv_X8_read lkc_L_183 hk1495 (r := (RX8, TX8, 10)) ⟨rfl, by decide, rfl⟩ rfl rfl (Nat.le_of_ble_eq_true rfl) ⟨(Nat.le_of_ble_eq_true rfl), (Nat.le_of_ble_eq_true rfl)⟩ ⟨(by show kq18 + 0 ≤ 600000; omega), (by show sq18 + 0 ≤ 7302250; omega)⟩ dL_law_1495 rfl rfl rfl ?_
          refine q_aload_n cx (pc' := 1499) 2 rfl dL_law_1498 rfl ?_
          refine q_aload_n cx (pc' := 1500) 0 rfl dL_law_1499 rfl ?_
          refine q_iload_n cx (pc' := 1501) 3 rfl dL_law_1500 rfl ?_
          refine q_iconst cx (pc' := 1502) ki_1 dL_law_1501 rfl ?_
          refine q_iadd cx (pc' := 1503) dL_law_1502 rfl ?_
          obtain ⟨hi1503, x1503, ex1503, h⟩ := scA_i h
          refine q_sld cx (pc' := 1504) hX hi1503 ex1503 dL_law_1503 rfl ?_
          refine q_aload_n cx (pc' := 1505) 0 rfl dL_law_1504 rfl ?_
          refine q_iload_n cx (pc' := 1506) 3 rfl dL_law_1505 rfl ?_
          refine q_iconst cx (pc' := 1507) ki_2 dL_law_1506 rfl ?_
          refine q_iadd cx (pc' := 1508) dL_law_1507 rfl ?_
          obtain ⟨hi1508, x1508, ex1508, h⟩ := scA_i h
          refine q_sld cx (pc' := 1509) hX hi1508 ex1508 dL_law_1508 rfl ?_
          obtain ⟨hk1509, h⟩ := ck_i h
          obtain ⟨c1509, hc1509, h⟩ := bnd_i h
          refine q_callV cx (pc' := 1512) (S := [.long c1495]) (S1 := [.long c1509, .long c1495]) (kc' := kq18) (ks' := sq18) 9 (ct_X9_read Γ l Mw_18 r8 x1503 x1508 hk1509 _ hc1509) lki_X9_read lkv_X9_read lkc_L_186 hk1509 (r := (RX9, TX9, 70)) ⟨rfl, by decide, rfl⟩ rfl rfl (Nat.le_of_ble_eq_true rfl) ⟨(Nat.le_of_ble_eq_true rfl), (Nat.le_of_ble_eq_true rfl)⟩ ⟨(by show kq18 + 0 ≤ 600000; omega), (by show sq18 + 0 ≤ 7302250; omega)⟩ dL_law_1509 rfl rfl rfl ?_
          refine q_lcmp cx (pc' := 1513) dL_law_1512 rfl ?_
          refine q_if_eq cx (pc' := 1516) (tgt := 1581) dL_law_1513 (by decide) rfl (fun c1513 => ?_) (fun c1513 => ?_)
          · replace h := ip c1513 h
            obtain ⟨v3_1581, ev3_1581, h⟩ := nm_i h
            refine q_iinc cx (pc' := 1584) 3 rfl ki_6 ev3_1581 (by decide) (L' := [(3, .int v3_1581), (0, .ref b), (1, .ref r0), (2, .ref r8)]) rfl dL_law_1581 rfl ?_
            refine q_goto cx dL_law_1584 (tgt := 18) (by decide) ?_
            refine q_sub cx [1, 2, 3, 0] rfl ?_
            exact ih _ _ _ _ (by omega) (by omega) (hz18.1 _ h)
          · replace h := ine c1513 h
            refine q_iconst cx (pc' := 1517) ki_0 dL_law_1516 rfl ?_
            replace h := hk18_r _ _ (hz18.2 _ h)
            obtain ⟨rfl, rfl⟩ := o2_i h
            exact absurd hz1 (by decide)
        replace h := ine c33_40 h
        rcases Decidable.em (s33 = 41) with c33_41 | c33_41
        · replace h := ip c33_41 h
          refine q_tabIn cx (off := 1485) (tgt := 1518) (es33.symm.trans c33_41) dL_law_33 (by decide) (by decide) ?_
          refine q_aload_n cx (pc' := 1519) 1 rfl dL_law_1518 rfl ?_
          refine q_aload_n cx (pc' := 1520) 0 rfl dL_law_1519 rfl ?_
          refine q_iload_n cx (pc' := 1521) 3 rfl dL_law_1520 rfl ?_
          refine q_iconst cx (pc' := 1522) ki_1 dL_law_1521 rfl ?_
          refine q_iadd cx (pc' := 1523) dL_law_1522 rfl ?_
          obtain ⟨hi1523, x1523, ex1523, h⟩ := scA_i h
          refine q_sld cx (pc' := 1524) hX hi1523 ex1523 dL_law_1523 rfl ?_
          refine q_aload_n cx (pc' := 1525) 0 rfl dL_law_1524 rfl ?_
          refine q_iload_n cx (pc' := 1526) 3 rfl dL_law_1525 rfl ?_
          refine q_iconst cx (pc' := 1527) ki_2 dL_law_1526 rfl ?_
          refine q_iadd cx (pc' := 1528) dL_law_1527 rfl ?_
          obtain ⟨hi1528, x1528, ex1528, h⟩ := scA_i h
          refine q_sld cx (pc' := 1529) hX hi1528 ex1528 dL_law_1528 rfl ?_
          refine q_aload_n cx (pc' := 1530) 0 rfl dL_law_1529 rfl ?_
          refine q_iload_n cx (pc' := 1531) 3 rfl dL_law_1530 rfl ?_
          refine q_iconst cx (pc' := 1532) ki_3 dL_law_1531 rfl ?_
          refine q_iadd cx (pc' := 1533) dL_law_1532 rfl ?_
          obtain ⟨hi1533, x1533, ex1533, h⟩ := scA_i h
          refine q_sld cx (pc' := 1534) hX hi1533 ex1533 dL_law_1533 rfl ?_
          refine q_aload_n cx (pc' := 1535) 0 rfl dL_law_1534 rfl ?_
          refine q_iload_n cx (pc' := 1536) 3 rfl dL_law_1535 rfl ?_
          refine q_iconst cx (pc' := 1537) ki_4 dL_law_1536 rfl ?_
          refine q_iadd cx (pc' := 1538) dL_law_1537 rfl ?_
          obtain ⟨hi1538, x1538, ex1538, h⟩ := scA_i h
          refine q_sld cx (pc' := 1539) hX hi1538 ex1538 dL_law_1538 rfl ?_
          refine q_aload_n cx (pc' := 1540) 0 rfl dL_law_1539 rfl ?_
          refine q_iload_n cx (pc' := 1541) 3 rfl dL_law_1540 rfl ?_
          refine q_iconst cx (pc' := 1542) ki_5 dL_law_1541 rfl ?_
          refine q_iadd cx (pc' := 1543) dL_law_1542 rfl ?_
          obtain ⟨hi1543, x1543, ex1543, h⟩ := scA_i h
          refine q_sld cx (pc' := 1544) hX hi1543 ex1543 dL_law_1543 rfl ?_
          obtain ⟨hk1544, h⟩ := ck_i h
          obtain ⟨⟨c1544, M1544⟩, hc1544, h⟩ := bnd_i h
          replace h := pr2_i h
          refine q_callV cx (pc' := 1547) (S := []) (S1 := [.int c1544]) (kc' := kq18) (ks' := sq18) 8 (ct_X8_shift Γ l Mw_18 r0 x1523 x1528 x1533 x1538 x1543 hk1544 _ _ hc1544) lki_X8_shift lkv_X8_shift lkc_L_187 hk1544 (r := (RX8, TX8, 10)) ⟨rfl, by decide, rfl⟩ rfl rfl (Nat.le_of_ble_eq_true rfl) ⟨(Nat.le_of_ble_eq_true rfl), (Nat.le_of_ble_eq_true rfl)⟩ ⟨(by show kq18 + 0 ≤ 600000; omega), (by show sq18 + 0 ≤ 7302250; omega)⟩ dL_law_1544 rfl rfl rfl ?_
          refine q_aload_n cx (pc' := 1548) 2 rfl dL_law_1547 rfl ?_
          refine q_aload_n cx (pc' := 1549) 0 rfl dL_law_1548 rfl ?_
          refine q_iload_n cx (pc' := 1550) 3 rfl dL_law_1549 rfl ?_
          refine q_iconst cx (pc' := 1551) ki_1 dL_law_1550 rfl ?_
          refine q_iadd cx (pc' := 1552) dL_law_1551 rfl ?_
          obtain ⟨hi1552, x1552, ex1552, h⟩ := scA_i h
          refine q_sld cx (pc' := 1553) hX hi1552 ex1552 dL_law_1552 rfl ?_
          refine q_aload_n cx (pc' := 1554) 0 rfl dL_law_1553 rfl ?_
          refine q_iload_n cx (pc' := 1555) 3 rfl dL_law_1554 rfl ?_
          refine q_iconst cx (pc' := 1556) ki_2 dL_law_1555 rfl ?_
          refine q_iadd cx (pc' := 1557) dL_law_1556 rfl ?_
          obtain ⟨hi1557, x1557, ex1557, h⟩ := scA_i h
          refine q_sld cx (pc' := 1558) hX hi1557 ex1557 dL_law_1557 rfl ?_
          refine q_aload_n cx (pc' := 1559) 0 rfl dL_law_1558 rfl ?_
          refine q_iload_n cx (pc' := 1560) 3 rfl dL_law_1559 rfl ?_
          refine q_iconst cx (pc' := 1561) ki_3 dL_law_1560 rfl ?_
          refine q_iadd cx (pc' := 1562) dL_law_1561 rfl ?_
          obtain ⟨hi1562, x1562, ex1562, h⟩ := scA_i h
          refine q_sld cx (pc' := 1563) hX hi1562 ex1562 dL_law_1562 rfl ?_
          refine q_aload_n cx (pc' := 1564) 0 rfl dL_law_1563 rfl ?_
          refine q_iload_n cx (pc' := 1565) 3 rfl dL_law_1564 rfl ?_
          refine q_iconst cx (pc' := 1566) ki_4 dL_law_1565 rfl ?_
          refine q_iadd cx (pc' := 1567) dL_law_1566 rfl ?_
          obtain ⟨hi1567, x1567, ex1567, h⟩ := scA_i h
          refine q_sld cx (pc' := 1568) hX hi1567 ex1567 dL_law_1567 rfl ?_
          refine q_aload_n cx (pc' := 1569) 0 rfl dL_law_1568 rfl ?_
          refine q_iload_n cx (pc' := 1570) 3 rfl dL_law_1569 rfl ?_
          refine q_iconst cx (pc' := 1571) ki_5 dL_law_1570 rfl ?_
          refine q_iadd cx (pc' := 1572) dL_law_1571 rfl ?_
          obtain ⟨hi1572, x1572, ex1572, h⟩ := scA_i h
          refine q_sld cx (pc' := 1573) hX hi1572 ex1572 dL_law_1572 rfl ?_
          obtain ⟨hk1573, h⟩ := ck_i h
          obtain ⟨⟨c1573, M1573⟩, hc1573, h⟩ := bnd_i h
          replace h := pr2_i h
          refine q_callV cx (pc' := 1576) (S := [.int c1544]) (S1 := [.int c1573, .int c1544]) (kc' := kq18) (ks' := sq18) 9 (ct_X9_shift Γ l M1544 r8 x1552 x1557 x1562 x1567 x1572 hk1573 _ _ hc1573) lki_X9_shift lkv_X9_shift lkc_L_191 hk1573 (r := (RX9, TX9, 70)) ⟨rfl, by decide, rfl⟩ rfl rfl (Nat.le_of_ble_eq_true rfl) ⟨(Nat.le_of_ble_eq_true rfl), (Nat.le_of_ble_eq_true rfl)⟩ ⟨(by show kq18 + 0 ≤ 600000; omega), (by show sq18 + 0 ≤ 7302250; omega)⟩ dL_law_1573 rfl rfl rfl ?_
          refine q_icmp_eq cx (pc' := 1579) (tgt := 1581) dL_law_1576 (by decide) rfl (fun c1576 => ?_) (fun c1576 => ?_)
          · replace h := ip c1576 h
            obtain ⟨v3_1581, ev3_1581, h⟩ := nm_i h
            refine q_iinc cx (pc' := 1584) 3 rfl ki_6 ev3_1581 (by decide) (L' := [(3, .int v3_1581), (0, .ref b), (1, .ref r0), (2, .ref r8)]) rfl dL_law_1581 rfl ?_
            refine q_goto cx dL_law_1584 (tgt := 18) (by decide) ?_
            refine q_sub cx [1, 2, 3, 0] rfl ?_
            exact ih _ _ _ _ (by omega) (by omega) (hz18.1 _ h)
          · replace h := ine c1576 h
            refine q_iconst cx (pc' := 1580) ki_0 dL_law_1579 rfl ?_
            replace h := hk18_r _ _ (hz18.2 _ h)
            obtain ⟨rfl, rfl⟩ := o2_i h
            exact absurd hz1 (by decide)
        replace h := ine c33_41 h
        have nt33_0 := lv_neT c33_0 (a := 0) rfl
        have nt33_1 := lv_neT c33_1 (a := 1) rfl
        have nt33_2 := lv_neT c33_2 (a := 2) rfl
        have nt33_3 := lv_neT c33_3 (a := 3) rfl
        have nt33_4 := lv_neT c33_4 (a := 4) rfl
        have nt33_5 := lv_neT c33_5 (a := 5) rfl
        have nt33_6 := lv_neT c33_6 (a := 6) rfl
        have nt33_7 := lv_neT c33_7 (a := 7) rfl
        have nt33_8 := lv_neT c33_8 (a := 8) rfl
        have nt33_9 := lv_neT c33_9 (a := 9) rfl
        have nt33_10 := lv_neT c33_10 (a := 10) rfl
        have nt33_11 := lv_neT c33_11 (a := 11) rfl
        have nt33_12 := lv_neT c33_12 (a := 12) rfl
        have nt33_13 := lv_neT c33_13 (a := 13) rfl
        have nt33_14 := lv_neT c33_14 (a := 14) rfl
        have nt33_15 := lv_neT c33_15 (a := 15) rfl
        have nt33_16 := lv_neT c33_16 (a := 16) rfl
        have nt33_17 := lv_neT c33_17 (a := 17) rfl
        have nt33_18 := lv_neT c33_18 (a := 18) rfl
        have nt33_19 := lv_neT c33_19 (a := 19) rfl
        have nt33_20 := lv_neT c33_20 (a := 20) rfl
        have nt33_21 := lv_neT c33_21 (a := 21) rfl
        have nt33_22 := lv_neT c33_22 (a := 22) rfl
        have nt33_23 := lv_neT c33_23 (a := 23) rfl
        have nt33_24 := lv_neT c33_24 (a := 24) rfl
        have nt33_25 := lv_neT c33_25 (a := 25) rfl
        have nt33_26 := lv_neT c33_26 (a := 26) rfl
        have nt33_27 := lv_neT c33_27 (a := 27) rfl
        have nt33_28 := lv_neT c33_28 (a := 28) rfl
        have nt33_29 := lv_neT c33_29 (a := 29) rfl
        have nt33_30 := lv_neT c33_30 (a := 30) rfl
        have nt33_31 := lv_neT c33_31 (a := 31) rfl
        have nt33_32 := lv_neT c33_32 (a := 32) rfl
        have nt33_33 := lv_neT c33_33 (a := 33) rfl
        have nt33_34 := lv_neT c33_34 (a := 34) rfl
        have nt33_35 := lv_neT c33_35 (a := 35) rfl
        have nt33_36 := lv_neT c33_36 (a := 36) rfl
        have nt33_37 := lv_neT c33_37 (a := 37) rfl
        have nt33_38 := lv_neT c33_38 (a := 38) rfl
        have nt33_39 := lv_neT c33_39 (a := 39) rfl
        have nt33_40 := lv_neT c33_40 (a := 40) rfl
        have nt33_41 := lv_neT c33_41 (a := 41) rfl
        rw [es33] at nt33_0 nt33_1 nt33_2 nt33_3 nt33_4 nt33_5 nt33_6 nt33_7 nt33_8 nt33_9 nt33_10 nt33_11 nt33_12 nt33_13 nt33_14 nt33_15 nt33_16 nt33_17 nt33_18 nt33_19 nt33_20 nt33_21 nt33_22 nt33_23 nt33_24 nt33_25 nt33_26 nt33_27 nt33_28 nt33_29 nt33_30 nt33_31 nt33_32 nt33_33 nt33_34 nt33_35 nt33_36 nt33_37 nt33_38 nt33_39 nt33_40 nt33_41
        refine q_tabOut cx (tgt := 1581) dL_law_33 (by omega) (by decide) ?_
        obtain ⟨v3_1581, ev3_1581, h⟩ := nm_i h
        refine q_iinc cx (pc' := 1584) 3 rfl ki_6 ev3_1581 (by decide) (L' := [(3, .int v3_1581), (0, .ref b), (1, .ref r0), (2, .ref r8)]) rfl dL_law_1581 rfl ?_
        refine q_goto cx dL_law_1584 (tgt := 18) (by decide) ?_
        refine q_sub cx [1, 2, 3, 0] rfl ?_
        exact ih _ _ _ _ (by omega) (by omega) (hz18.1 _ h)
  refine q_sub cx [3, 2, 1, 0] rfl ?_
  exact key18 FU _ _ _ _ (by show _ + _ * 2048 ≤ _; omega) (by show _ + _ * 2048 ≤ _; omega) hL18
