theorem ggJ1_indexOf_4cfef_J1_canEncode_9a6ad : GoodIn wsJ1_indexOf_4cfef wsJ1_canEncode_9a6ad := gga_of 474 rfl rfl rfl
theorem gJ1_indexOf_4cfef_J1_canEncode_9a6ad : GoodIn wsJ1_indexOf_4cfef (va_wsS RJ1 88 yJ1_canEncode_9a6ad wsJ1_canEncode_9a6ad) := goodIn_app (ggh_of [472, 473, 74] rfl rfl rfl) ggJ1_indexOf_4cfef_J1_canEncode_9a6ad
theorem ggJ1_indexOf_4cfef_J1_indexOfChar_4cfef : GoodIn wsJ1_indexOf_4cfef wsJ1_indexOfChar_4cfef := gga_of 481 rfl rfl rfl
theorem gJ1_indexOf_4cfef_J1_indexOfChar_4cfef : GoodIn wsJ1_indexOf_4cfef (va_wsS RJ1 95 yJ1_indexOfChar_4cfef wsJ1_indexOfChar_4cfef) := goodIn_app (ggh_of [479, 480, 74] rfl rfl rfl) ggJ1_indexOf_4cfef_J1_indexOfChar_4cfef
theorem ggJ0_indexOf_7cf53_J0_isLatin1_aae02 : GoodIn wsJ0_indexOf_7cf53 wsJ0_isLatin1_aae02 := gga_of 394 rfl rfl rfl
theorem gJ0_indexOf_7cf53_J0_isLatin1_aae02 : GoodIn wsJ0_indexOf_7cf53 (wsV RJ0 492 RJ0 yJ0_isLatin1_aae02 wsJ0_isLatin1_aae02) := goodIn_app (ggh_of [391, 392, 393, 73] rfl rfl rfl) ggJ0_indexOf_7cf53_J0_isLatin1_aae02
theorem ggJ0_indexOf_7cf53_J0_length_8abf5 : GoodIn wsJ0_indexOf_7cf53 wsJ0_length_8abf5 := gga_of 380 rfl rfl rfl
theorem gJ0_indexOf_7cf53_J0_length_8abf5 : GoodIn wsJ0_indexOf_7cf53 (wsV RJ0 505 RJ0 yJ0_length_8abf5 wsJ0_length_8abf5) := goodIn_app (ggh_of [468, 378, 379, 73] rfl rfl rfl) ggJ0_indexOf_7cf53_J0_length_8abf5
theorem ggJ0_indexOf_7cf53_J1_indexOf_4cfef : GoodIn wsJ0_indexOf_7cf53 wsJ1_indexOf_4cfef := gga_of 471 rfl rfl rfl
theorem gJ0_indexOf_7cf53_J1_indexOf_4cfef : GoodIn wsJ0_indexOf_7cf53 (va_wsS RJ0 637 yJ1_indexOf_4cfef wsJ1_indexOf_4cfef) := goodIn_app (ggh_of [469, 470, 74] rfl rfl rfl) ggJ0_indexOf_7cf53_J1_indexOf_4cfef
theorem ggJ0_indexOf_0f7a4_J0_indexOf_7cf53 : GoodIn wsJ0_indexOf_0f7a4 wsJ0_indexOf_7cf53 := gga_of 467 rfl rfl rfl
theorem gJ0_indexOf_0f7a4_J0_indexOf_7cf53 : GoodIn wsJ0_indexOf_0f7a4 (wsV RJ0 633 RJ0 yJ0_indexOf_7cf53 wsJ0_indexOf_7cf53) := goodIn_app (ggh_of [464, 465, 466, 73] rfl rfl rfl) ggJ0_indexOf_0f7a4_J0_indexOf_7cf53
theorem ggX5_readSign_X5_sign : GoodIn wsX5_readSign wsX5_sign := gga_of 435 rfl rfl rfl
theorem gX5_readSign_X5_sign : GoodIn wsX5_readSign (wsV RX5 93 RX5 yX5_sign wsX5_sign) := goodIn_app (ggh_of [432, 434, 3, 65] rfl rfl rfl) ggX5_readSign_X5_sign
theorem ggX5_readNumber_X5_sign : GoodIn wsX5_readNumber wsX5_sign := gga_of 435 rfl rfl rfl
theorem gX5_readNumber_X5_sign : GoodIn wsX5_readNumber (wsV RX5 93 RX5 yX5_sign wsX5_sign) := goodIn_app (ggh_of [432, 434, 3, 65] rfl rfl rfl) ggX5_readNumber_X5_sign
theorem ggX5_readNumber_X5_isDigit : GoodIn wsX5_readNumber wsX5_isDigit := gga_of 438 rfl rfl rfl
theorem gX5_readNumber_X5_isDigit : GoodIn wsX5_readNumber (va_wsS RX5 96 yX5_isDigit wsX5_isDigit) := goodIn_app (ggh_of [436, 437, 65] rfl rfl rfl) ggX5_readNumber_X5_isDigit
theorem ggX5_sameSigns_J0_length_8abf5 : GoodIn wsX5_sameSigns wsJ0_length_8abf5 := gga_of 380 rfl rfl rfl
theorem gX5_sameSigns_J0_length_8abf5 : GoodIn wsX5_sameSigns (wsV RX5 76 RJ0 yJ0_length_8abf5 wsJ0_length_8abf5) := goodIn_app (ggh_of [377, 378, 379, 73] rfl rfl rfl) ggX5_sameSigns_J0_length_8abf5
theorem ggX5_sameSigns_J0_charAt_5068e : GoodIn wsX5_sameSigns wsJ0_charAt_5068e := gga_of 390 rfl rfl rfl
theorem gX5_sameSigns_J0_charAt_5068e : GoodIn wsX5_sameSigns (wsV RX5 89 RJ0 yJ0_charAt_5068e wsJ0_charAt_5068e) := goodIn_app (ggh_of [387, 388, 389, 73] rfl rfl rfl) ggX5_sameSigns_J0_charAt_5068e
theorem ggX5_readWord_X5_textOf : GoodIn wsX5_readWord wsX5_textOf := gga_of 368 rfl rfl rfl
theorem gX5_readWord_X5_textOf : GoodIn wsX5_readWord (va_wsS RX5 62 yX5_textOf wsX5_textOf) := goodIn_app (ggh_of [366, 367, 65] rfl rfl rfl) ggX5_readWord_X5_textOf
theorem ggX5_readWord_X5_sameSigns : GoodIn wsX5_readWord wsX5_sameSigns := gga_of 376 rfl rfl rfl
theorem gX5_readWord_X5_sameSigns : GoodIn wsX5_readWord (wsV RX5 66 RX5 yX5_sameSigns wsX5_sameSigns) := goodIn_app (ggh_of [373, 375, 1, 65] rfl rfl rfl) ggX5_readWord_X5_sameSigns
theorem ggX5_readWord_J0_length_8abf5 : GoodIn wsX5_readWord wsJ0_length_8abf5 := gga_of 380 rfl rfl rfl
theorem gX5_readWord_J0_length_8abf5 : GoodIn wsX5_readWord (wsV RX5 76 RJ0 yJ0_length_8abf5 wsJ0_length_8abf5) := goodIn_app (ggh_of [377, 378, 379, 73] rfl rfl rfl) ggX5_readWord_J0_length_8abf5
theorem ggX5_readTest_X5_sign : GoodIn wsX5_readTest wsX5_sign := gga_of 435 rfl rfl rfl
theorem gX5_readTest_X5_sign : GoodIn wsX5_readTest (wsV RX5 93 RX5 yX5_sign wsX5_sign) := goodIn_app (ggh_of [432, 434, 3, 65] rfl rfl rfl) ggX5_readTest_X5_sign
theorem ggX5_readTest_J0_indexOf_0f7a4 : GoodIn wsX5_readTest wsJ0_indexOf_0f7a4 := gga_of 463 rfl rfl rfl
theorem gX5_readTest_J0_indexOf_0f7a4 : GoodIn wsX5_readTest (wsV RX5 114 RJ0 yJ0_indexOf_0f7a4 wsJ0_indexOf_0f7a4) := goodIn_app (ggh_of [460, 461, 462, 73] rfl rfl rfl) ggX5_readTest_J0_indexOf_0f7a4
theorem ggX5_readTest_X5_readNumber : GoodIn wsX5_readTest wsX5_readNumber := gga_of 431 rfl rfl rfl
theorem gX5_readTest_X5_readNumber : GoodIn wsX5_readTest (wsV RX5 44 RX5 yX5_readNumber wsX5_readNumber) := goodIn_app (ggh_of [428, 430, 2, 65] rfl rfl rfl) ggX5_readTest_X5_readNumber
theorem ggX5_readTest_X5_code : GoodIn wsX5_readTest wsX5_code := gga_of 521 rfl rfl rfl
theorem gX5_readTest_X5_code : GoodIn wsX5_readTest (wsV RX5 102 RX5 yX5_code wsX5_code) := goodIn_app (ggh_of [518, 520, 9, 65] rfl rfl rfl) ggX5_readTest_X5_code
noncomputable def dk15eread_cJ1_canEncode_9a6ad_0 : List (Nat × Instr × Nat) := [(0, .iload_n 0, 1), (1, .ifCond .lt 14, 3), (4, .iload_n 0, 1), (5, .sipush 255, 3), (8, .if_icmp .gt 7, 3), (11, .iconst 1, 1), (12, .goto 4, 3), (16, .ireturn, 1)]
set_option maxRecDepth 100000 in
theorem dk15eread_cJ1_canEncode_9a6ad_0_a : dkA cJ1_canEncode_9a6ad dk15eread_cJ1_canEncode_9a6ad_0 = true := by decide +kernel
theorem dJ1_canEncode_9a6ad_0 : decode cJ1_canEncode_9a6ad 0 = .ok (.iload_n 0, 1) := dkAt dk15eread_cJ1_canEncode_9a6ad_0_a 0 rfl
theorem dJ1_canEncode_9a6ad_1 : decode cJ1_canEncode_9a6ad 1 = .ok (.ifCond .lt 14, 3) := dkAt dk15eread_cJ1_canEncode_9a6ad_0_a 1 rfl
theorem dJ1_canEncode_9a6ad_4 : decode cJ1_canEncode_9a6ad 4 = .ok (.iload_n 0, 1) := dkAt dk15eread_cJ1_canEncode_9a6ad_0_a 2 rfl
theorem dJ1_canEncode_9a6ad_5 : decode cJ1_canEncode_9a6ad 5 = .ok (.sipush 255, 3) := dkAt dk15eread_cJ1_canEncode_9a6ad_0_a 3 rfl
theorem dJ1_canEncode_9a6ad_8 : decode cJ1_canEncode_9a6ad 8 = .ok (.if_icmp .gt 7, 3) := dkAt dk15eread_cJ1_canEncode_9a6ad_0_a 4 rfl
theorem dJ1_canEncode_9a6ad_11 : decode cJ1_canEncode_9a6ad 11 = .ok (.iconst 1, 1) := dkAt dk15eread_cJ1_canEncode_9a6ad_0_a 5 rfl
theorem dJ1_canEncode_9a6ad_12 : decode cJ1_canEncode_9a6ad 12 = .ok (.goto 4, 3) := dkAt dk15eread_cJ1_canEncode_9a6ad_0_a 6 rfl
theorem dJ1_canEncode_9a6ad_16 : decode cJ1_canEncode_9a6ad 16 = .ok (.ireturn, 1) := dkAt dk15eread_cJ1_canEncode_9a6ad_0_a 7 rfl
noncomputable def dk15eread_cJ1_indexOfChar_4cfef_0 : List (Nat × Instr × Nat) := [(0, .iload_n 1, 1), (1, .i2b, 1), (2, .istore 4, 2), (4, .iload_n 2, 1), (5, .istore 5, 2), (7, .iload 5, 2), (9, .iload_n 3, 1), (10, .if_icmp .ge 21, 3), (31, .iconst (-1), 1), (32, .ireturn, 1), (13, .aload_n 0, 1), (14, .iload 5, 2), (16, .baload, 1), (17, .iload 4, 2), (19, .if_icmp .ne 6, 3), (25, .iinc 5 1, 3), (28, .goto (-21), 3), (22, .iload 5, 2), (24, .ireturn, 1)]
set_option maxRecDepth 100000 in
theorem dk15eread_cJ1_indexOfChar_4cfef_0_a : dkA cJ1_indexOfChar_4cfef dk15eread_cJ1_indexOfChar_4cfef_0 = true := by decide +kernel
theorem dJ1_indexOfChar_4cfef_0 : decode cJ1_indexOfChar_4cfef 0 = .ok (.iload_n 1, 1) := dkAt dk15eread_cJ1_indexOfChar_4cfef_0_a 0 rfl
theorem dJ1_indexOfChar_4cfef_1 : decode cJ1_indexOfChar_4cfef 1 = .ok (.i2b, 1) := dkAt dk15eread_cJ1_indexOfChar_4cfef_0_a 1 rfl
theorem dJ1_indexOfChar_4cfef_2 : decode cJ1_indexOfChar_4cfef 2 = .ok (.istore 4, 2) := dkAt dk15eread_cJ1_indexOfChar_4cfef_0_a 2 rfl
theorem dJ1_indexOfChar_4cfef_4 : decode cJ1_indexOfChar_4cfef 4 = .ok (.iload_n 2, 1) := dkAt dk15eread_cJ1_indexOfChar_4cfef_0_a 3 rfl
theorem dJ1_indexOfChar_4cfef_5 : decode cJ1_indexOfChar_4cfef 5 = .ok (.istore 5, 2) := dkAt dk15eread_cJ1_indexOfChar_4cfef_0_a 4 rfl
theorem dJ1_indexOfChar_4cfef_7 : decode cJ1_indexOfChar_4cfef 7 = .ok (.iload 5, 2) := dkAt dk15eread_cJ1_indexOfChar_4cfef_0_a 5 rfl
theorem dJ1_indexOfChar_4cfef_9 : decode cJ1_indexOfChar_4cfef 9 = .ok (.iload_n 3, 1) := dkAt dk15eread_cJ1_indexOfChar_4cfef_0_a 6 rfl
theorem dJ1_indexOfChar_4cfef_10 : decode cJ1_indexOfChar_4cfef 10 = .ok (.if_icmp .ge 21, 3) := dkAt dk15eread_cJ1_indexOfChar_4cfef_0_a 7 rfl
theorem dJ1_indexOfChar_4cfef_31 : decode cJ1_indexOfChar_4cfef 31 = .ok (.iconst (-1), 1) := dkAt dk15eread_cJ1_indexOfChar_4cfef_0_a 8 rfl
theorem dJ1_indexOfChar_4cfef_32 : decode cJ1_indexOfChar_4cfef 32 = .ok (.ireturn, 1) := dkAt dk15eread_cJ1_indexOfChar_4cfef_0_a 9 rfl
theorem dJ1_indexOfChar_4cfef_13 : decode cJ1_indexOfChar_4cfef 13 = .ok (.aload_n 0, 1) := dkAt dk15eread_cJ1_indexOfChar_4cfef_0_a 10 rfl
theorem dJ1_indexOfChar_4cfef_14 : decode cJ1_indexOfChar_4cfef 14 = .ok (.iload 5, 2) := dkAt dk15eread_cJ1_indexOfChar_4cfef_0_a 11 rfl
theorem dJ1_indexOfChar_4cfef_16 : decode cJ1_indexOfChar_4cfef 16 = .ok (.baload, 1) := dkAt dk15eread_cJ1_indexOfChar_4cfef_0_a 12 rfl
theorem dJ1_indexOfChar_4cfef_17 : decode cJ1_indexOfChar_4cfef 17 = .ok (.iload 4, 2) := dkAt dk15eread_cJ1_indexOfChar_4cfef_0_a 13 rfl
theorem dJ1_indexOfChar_4cfef_19 : decode cJ1_indexOfChar_4cfef 19 = .ok (.if_icmp .ne 6, 3) := dkAt dk15eread_cJ1_indexOfChar_4cfef_0_a 14 rfl
theorem dJ1_indexOfChar_4cfef_25 : decode cJ1_indexOfChar_4cfef 25 = .ok (.iinc 5 1, 3) := dkAt dk15eread_cJ1_indexOfChar_4cfef_0_a 15 rfl
theorem dJ1_indexOfChar_4cfef_28 : decode cJ1_indexOfChar_4cfef 28 = .ok (.goto (-21), 3) := dkAt dk15eread_cJ1_indexOfChar_4cfef_0_a 16 rfl
theorem dJ1_indexOfChar_4cfef_22 : decode cJ1_indexOfChar_4cfef 22 = .ok (.iload 5, 2) := dkAt dk15eread_cJ1_indexOfChar_4cfef_0_a 17 rfl
theorem dJ1_indexOfChar_4cfef_24 : decode cJ1_indexOfChar_4cfef 24 = .ok (.ireturn, 1) := dkAt dk15eread_cJ1_indexOfChar_4cfef_0_a 18 rfl
noncomputable def dk15eread_cJ1_indexOf_4cfef_0 : List (Nat × Instr × Nat) := [(0, .iload_n 1, 1), (1, .invokestatic 88, 3), (4, .ifCond .ne 5, 3), (9, .iload_n 2, 1), (10, .iconst 0, 1), (11, .invokestatic 92, 3), (14, .istore_n 2, 1), (15, .iload_n 3, 1), (16, .aload_n 0, 1), (17, .arraylength, 1), (18, .invokestatic 38, 3), (21, .istore_n 3, 1), (22, .iload_n 2, 1), (23, .iload_n 3, 1), (24, .if_icmp .lt 5, 3), (29, .aload_n 0, 1), (30, .iload_n 1, 1), (31, .iload_n 2, 1), (32, .iload_n 3, 1), (33, .invokestatic 95, 3), (36, .ireturn, 1), (27, .iconst (-1), 1), (28, .ireturn, 1)]
set_option maxRecDepth 100000 in
theorem dk15eread_cJ1_indexOf_4cfef_0_a : dkA cJ1_indexOf_4cfef dk15eread_cJ1_indexOf_4cfef_0 = true := by decide +kernel
theorem dJ1_indexOf_4cfef_0 : decode cJ1_indexOf_4cfef 0 = .ok (.iload_n 1, 1) := dkAt dk15eread_cJ1_indexOf_4cfef_0_a 0 rfl
theorem dJ1_indexOf_4cfef_1 : decode cJ1_indexOf_4cfef 1 = .ok (.invokestatic 88, 3) := dkAt dk15eread_cJ1_indexOf_4cfef_0_a 1 rfl
theorem dJ1_indexOf_4cfef_4 : decode cJ1_indexOf_4cfef 4 = .ok (.ifCond .ne 5, 3) := dkAt dk15eread_cJ1_indexOf_4cfef_0_a 2 rfl
theorem dJ1_indexOf_4cfef_9 : decode cJ1_indexOf_4cfef 9 = .ok (.iload_n 2, 1) := dkAt dk15eread_cJ1_indexOf_4cfef_0_a 3 rfl
theorem dJ1_indexOf_4cfef_10 : decode cJ1_indexOf_4cfef 10 = .ok (.iconst 0, 1) := dkAt dk15eread_cJ1_indexOf_4cfef_0_a 4 rfl
theorem dJ1_indexOf_4cfef_11 : decode cJ1_indexOf_4cfef 11 = .ok (.invokestatic 92, 3) := dkAt dk15eread_cJ1_indexOf_4cfef_0_a 5 rfl
theorem dJ1_indexOf_4cfef_14 : decode cJ1_indexOf_4cfef 14 = .ok (.istore_n 2, 1) := dkAt dk15eread_cJ1_indexOf_4cfef_0_a 6 rfl
theorem dJ1_indexOf_4cfef_15 : decode cJ1_indexOf_4cfef 15 = .ok (.iload_n 3, 1) := dkAt dk15eread_cJ1_indexOf_4cfef_0_a 7 rfl
theorem dJ1_indexOf_4cfef_16 : decode cJ1_indexOf_4cfef 16 = .ok (.aload_n 0, 1) := dkAt dk15eread_cJ1_indexOf_4cfef_0_a 8 rfl
theorem dJ1_indexOf_4cfef_17 : decode cJ1_indexOf_4cfef 17 = .ok (.arraylength, 1) := dkAt dk15eread_cJ1_indexOf_4cfef_0_a 9 rfl
theorem dJ1_indexOf_4cfef_18 : decode cJ1_indexOf_4cfef 18 = .ok (.invokestatic 38, 3) := dkAt dk15eread_cJ1_indexOf_4cfef_0_a 10 rfl
theorem dJ1_indexOf_4cfef_21 : decode cJ1_indexOf_4cfef 21 = .ok (.istore_n 3, 1) := dkAt dk15eread_cJ1_indexOf_4cfef_0_a 11 rfl
theorem dJ1_indexOf_4cfef_22 : decode cJ1_indexOf_4cfef 22 = .ok (.iload_n 2, 1) := dkAt dk15eread_cJ1_indexOf_4cfef_0_a 12 rfl
theorem dJ1_indexOf_4cfef_23 : decode cJ1_indexOf_4cfef 23 = .ok (.iload_n 3, 1) := dkAt dk15eread_cJ1_indexOf_4cfef_0_a 13 rfl
theorem dJ1_indexOf_4cfef_24 : decode cJ1_indexOf_4cfef 24 = .ok (.if_icmp .lt 5, 3) := dkAt dk15eread_cJ1_indexOf_4cfef_0_a 14 rfl
theorem dJ1_indexOf_4cfef_29 : decode cJ1_indexOf_4cfef 29 = .ok (.aload_n 0, 1) := dkAt dk15eread_cJ1_indexOf_4cfef_0_a 15 rfl
theorem dJ1_indexOf_4cfef_30 : decode cJ1_indexOf_4cfef 30 = .ok (.iload_n 1, 1) := dkAt dk15eread_cJ1_indexOf_4cfef_0_a 16 rfl
theorem dJ1_indexOf_4cfef_31 : decode cJ1_indexOf_4cfef 31 = .ok (.iload_n 2, 1) := dkAt dk15eread_cJ1_indexOf_4cfef_0_a 17 rfl
theorem dJ1_indexOf_4cfef_32 : decode cJ1_indexOf_4cfef 32 = .ok (.iload_n 3, 1) := dkAt dk15eread_cJ1_indexOf_4cfef_0_a 18 rfl
theorem dJ1_indexOf_4cfef_33 : decode cJ1_indexOf_4cfef 33 = .ok (.invokestatic 95, 3) := dkAt dk15eread_cJ1_indexOf_4cfef_0_a 19 rfl
theorem dJ1_indexOf_4cfef_36 : decode cJ1_indexOf_4cfef 36 = .ok (.ireturn, 1) := dkAt dk15eread_cJ1_indexOf_4cfef_0_a 20 rfl
theorem dJ1_indexOf_4cfef_27 : decode cJ1_indexOf_4cfef 27 = .ok (.iconst (-1), 1) := dkAt dk15eread_cJ1_indexOf_4cfef_0_a 21 rfl
theorem dJ1_indexOf_4cfef_28 : decode cJ1_indexOf_4cfef 28 = .ok (.ireturn, 1) := dkAt dk15eread_cJ1_indexOf_4cfef_0_a 22 rfl
noncomputable def dk15eread_cJ0_indexOf_7cf53_0 : List (Nat × Instr × Nat) := [(0, .aload_n 0, 1), (1, .invokevirtual 492, 3), (4, .ifCond .eq 19, 3), (7, .aload_n 0, 1), (8, .getfield 9, 3), (11, .iload_n 1, 1), (12, .iload_n 2, 1), (13, .aload_n 0, 1), (14, .invokevirtual 505, 3), (17, .invokestatic 637, 3), (20, .goto 16, 3), (36, .ireturn, 1)]
set_option maxRecDepth 100000 in
theorem dk15eread_cJ0_indexOf_7cf53_0_a : dkA cJ0_indexOf_7cf53 dk15eread_cJ0_indexOf_7cf53_0 = true := by decide +kernel
theorem dJ0_indexOf_7cf53_0 : decode cJ0_indexOf_7cf53 0 = .ok (.aload_n 0, 1) := dkAt dk15eread_cJ0_indexOf_7cf53_0_a 0 rfl
theorem dJ0_indexOf_7cf53_1 : decode cJ0_indexOf_7cf53 1 = .ok (.invokevirtual 492, 3) := dkAt dk15eread_cJ0_indexOf_7cf53_0_a 1 rfl
theorem dJ0_indexOf_7cf53_4 : decode cJ0_indexOf_7cf53 4 = .ok (.ifCond .eq 19, 3) := dkAt dk15eread_cJ0_indexOf_7cf53_0_a 2 rfl
theorem dJ0_indexOf_7cf53_7 : decode cJ0_indexOf_7cf53 7 = .ok (.aload_n 0, 1) := dkAt dk15eread_cJ0_indexOf_7cf53_0_a 3 rfl
theorem dJ0_indexOf_7cf53_8 : decode cJ0_indexOf_7cf53 8 = .ok (.getfield 9, 3) := dkAt dk15eread_cJ0_indexOf_7cf53_0_a 4 rfl
theorem dJ0_indexOf_7cf53_11 : decode cJ0_indexOf_7cf53 11 = .ok (.iload_n 1, 1) := dkAt dk15eread_cJ0_indexOf_7cf53_0_a 5 rfl
theorem dJ0_indexOf_7cf53_12 : decode cJ0_indexOf_7cf53 12 = .ok (.iload_n 2, 1) := dkAt dk15eread_cJ0_indexOf_7cf53_0_a 6 rfl
theorem dJ0_indexOf_7cf53_13 : decode cJ0_indexOf_7cf53 13 = .ok (.aload_n 0, 1) := dkAt dk15eread_cJ0_indexOf_7cf53_0_a 7 rfl
theorem dJ0_indexOf_7cf53_14 : decode cJ0_indexOf_7cf53 14 = .ok (.invokevirtual 505, 3) := dkAt dk15eread_cJ0_indexOf_7cf53_0_a 8 rfl
theorem dJ0_indexOf_7cf53_17 : decode cJ0_indexOf_7cf53 17 = .ok (.invokestatic 637, 3) := dkAt dk15eread_cJ0_indexOf_7cf53_0_a 9 rfl
theorem dJ0_indexOf_7cf53_20 : decode cJ0_indexOf_7cf53 20 = .ok (.goto 16, 3) := dkAt dk15eread_cJ0_indexOf_7cf53_0_a 10 rfl
theorem dJ0_indexOf_7cf53_36 : decode cJ0_indexOf_7cf53 36 = .ok (.ireturn, 1) := dkAt dk15eread_cJ0_indexOf_7cf53_0_a 11 rfl
noncomputable def dk15eread_cJ0_indexOf_0f7a4_0 : List (Nat × Instr × Nat) := [(0, .aload_n 0, 1), (1, .iload_n 1, 1), (2, .iconst 0, 1), (3, .invokevirtual 633, 3), (6, .ireturn, 1)]
set_option maxRecDepth 100000 in
theorem dk15eread_cJ0_indexOf_0f7a4_0_a : dkA cJ0_indexOf_0f7a4 dk15eread_cJ0_indexOf_0f7a4_0 = true := by decide +kernel
theorem dJ0_indexOf_0f7a4_0 : decode cJ0_indexOf_0f7a4 0 = .ok (.aload_n 0, 1) := dkAt dk15eread_cJ0_indexOf_0f7a4_0_a 0 rfl
theorem dJ0_indexOf_0f7a4_1 : decode cJ0_indexOf_0f7a4 1 = .ok (.iload_n 1, 1) := dkAt dk15eread_cJ0_indexOf_0f7a4_0_a 1 rfl
theorem dJ0_indexOf_0f7a4_2 : decode cJ0_indexOf_0f7a4 2 = .ok (.iconst 0, 1) := dkAt dk15eread_cJ0_indexOf_0f7a4_0_a 2 rfl
theorem dJ0_indexOf_0f7a4_3 : decode cJ0_indexOf_0f7a4 3 = .ok (.invokevirtual 633, 3) := dkAt dk15eread_cJ0_indexOf_0f7a4_0_a 3 rfl
theorem dJ0_indexOf_0f7a4_6 : decode cJ0_indexOf_0f7a4 6 = .ok (.ireturn, 1) := dkAt dk15eread_cJ0_indexOf_0f7a4_0_a 4 rfl
noncomputable def dk15eread_cX5_textOf_0 : List (Nat × Instr × Nat) := [(0, .iload_n 0, 1), (1, .tableswitch 36 0 2 #[27, 30, 33], 27), (28, .ldc 81, 2), (30, .areturn, 1), (31, .ldc 83, 2), (33, .areturn, 1), (34, .ldc 85, 2), (36, .areturn, 1), (37, .ldc 87, 2), (39, .areturn, 1)]
set_option maxRecDepth 100000 in
theorem dk15eread_cX5_textOf_0_a : dkA cX5_textOf dk15eread_cX5_textOf_0 = true := by decide +kernel
theorem dX5_textOf_0 : decode cX5_textOf 0 = .ok (.iload_n 0, 1) := dkAt dk15eread_cX5_textOf_0_a 0 rfl
theorem dX5_textOf_1 : decode cX5_textOf 1 = .ok (.tableswitch 36 0 2 #[27, 30, 33], 27) := dkAt dk15eread_cX5_textOf_0_a 1 rfl
theorem dX5_textOf_28 : decode cX5_textOf 28 = .ok (.ldc 81, 2) := dkAt dk15eread_cX5_textOf_0_a 2 rfl
theorem dX5_textOf_30 : decode cX5_textOf 30 = .ok (.areturn, 1) := dkAt dk15eread_cX5_textOf_0_a 3 rfl
theorem dX5_textOf_31 : decode cX5_textOf 31 = .ok (.ldc 83, 2) := dkAt dk15eread_cX5_textOf_0_a 4 rfl
theorem dX5_textOf_33 : decode cX5_textOf 33 = .ok (.areturn, 1) := dkAt dk15eread_cX5_textOf_0_a 5 rfl
theorem dX5_textOf_34 : decode cX5_textOf 34 = .ok (.ldc 85, 2) := dkAt dk15eread_cX5_textOf_0_a 6 rfl
theorem dX5_textOf_36 : decode cX5_textOf 36 = .ok (.areturn, 1) := dkAt dk15eread_cX5_textOf_0_a 7 rfl
theorem dX5_textOf_37 : decode cX5_textOf 37 = .ok (.ldc 87, 2) := dkAt dk15eread_cX5_textOf_0_a 8 rfl
theorem dX5_textOf_39 : decode cX5_textOf 39 = .ok (.areturn, 1) := dkAt dk15eread_cX5_textOf_0_a 9 rfl
noncomputable def dk15eread_cX5_sign_0 : List (Nat × Instr × Nat) := [(0, .aload_n 0, 1), (1, .getfield 34, 3), (4, .aload_n 0, 1), (5, .getfield 31, 3), (8, .if_icmp .ge 15, 3), (23, .iconst 0, 1), (24, .ireturn, 1), (11, .aload_n 0, 1), (12, .getfield 28, 3), (15, .aload_n 0, 1), (16, .getfield 34, 3), (19, .iaload, 1), (20, .goto 4, 3)]
set_option maxRecDepth 100000 in
theorem dk15eread_cX5_sign_0_a : dkA cX5_sign dk15eread_cX5_sign_0 = true := by decide +kernel
theorem dX5_sign_0 : decode cX5_sign 0 = .ok (.aload_n 0, 1) := dkAt dk15eread_cX5_sign_0_a 0 rfl
theorem dX5_sign_1 : decode cX5_sign 1 = .ok (.getfield 34, 3) := dkAt dk15eread_cX5_sign_0_a 1 rfl
theorem dX5_sign_4 : decode cX5_sign 4 = .ok (.aload_n 0, 1) := dkAt dk15eread_cX5_sign_0_a 2 rfl
theorem dX5_sign_5 : decode cX5_sign 5 = .ok (.getfield 31, 3) := dkAt dk15eread_cX5_sign_0_a 3 rfl
theorem dX5_sign_8 : decode cX5_sign 8 = .ok (.if_icmp .ge 15, 3) := dkAt dk15eread_cX5_sign_0_a 4 rfl
theorem dX5_sign_23 : decode cX5_sign 23 = .ok (.iconst 0, 1) := dkAt dk15eread_cX5_sign_0_a 5 rfl
theorem dX5_sign_24 : decode cX5_sign 24 = .ok (.ireturn, 1) := dkAt dk15eread_cX5_sign_0_a 6 rfl
theorem dX5_sign_11 : decode cX5_sign 11 = .ok (.aload_n 0, 1) := dkAt dk15eread_cX5_sign_0_a 7 rfl
theorem dX5_sign_12 : decode cX5_sign 12 = .ok (.getfield 28, 3) := dkAt dk15eread_cX5_sign_0_a 8 rfl
theorem dX5_sign_15 : decode cX5_sign 15 = .ok (.aload_n 0, 1) := dkAt dk15eread_cX5_sign_0_a 9 rfl
theorem dX5_sign_16 : decode cX5_sign 16 = .ok (.getfield 34, 3) := dkAt dk15eread_cX5_sign_0_a 10 rfl
theorem dX5_sign_19 : decode cX5_sign 19 = .ok (.iaload, 1) := dkAt dk15eread_cX5_sign_0_a 11 rfl
theorem dX5_sign_20 : decode cX5_sign 20 = .ok (.goto 4, 3) := dkAt dk15eread_cX5_sign_0_a 12 rfl
noncomputable def dk15eread_cX5_isDigit_0 : List (Nat × Instr × Nat) := [(0, .iload_n 0, 1), (1, .bipush 48, 2), (3, .if_icmp .lt 13, 3), (16, .iconst 0, 1), (17, .ireturn, 1), (6, .iload_n 0, 1), (7, .bipush 57, 2), (9, .if_icmp .gt 7, 3), (12, .iconst 1, 1), (13, .goto 4, 3)]
set_option maxRecDepth 100000 in
theorem dk15eread_cX5_isDigit_0_a : dkA cX5_isDigit dk15eread_cX5_isDigit_0 = true := by decide +kernel
theorem dX5_isDigit_0 : decode cX5_isDigit 0 = .ok (.iload_n 0, 1) := dkAt dk15eread_cX5_isDigit_0_a 0 rfl
theorem dX5_isDigit_1 : decode cX5_isDigit 1 = .ok (.bipush 48, 2) := dkAt dk15eread_cX5_isDigit_0_a 1 rfl
theorem dX5_isDigit_3 : decode cX5_isDigit 3 = .ok (.if_icmp .lt 13, 3) := dkAt dk15eread_cX5_isDigit_0_a 2 rfl
theorem dX5_isDigit_16 : decode cX5_isDigit 16 = .ok (.iconst 0, 1) := dkAt dk15eread_cX5_isDigit_0_a 3 rfl
theorem dX5_isDigit_17 : decode cX5_isDigit 17 = .ok (.ireturn, 1) := dkAt dk15eread_cX5_isDigit_0_a 4 rfl
theorem dX5_isDigit_6 : decode cX5_isDigit 6 = .ok (.iload_n 0, 1) := dkAt dk15eread_cX5_isDigit_0_a 5 rfl
theorem dX5_isDigit_7 : decode cX5_isDigit 7 = .ok (.bipush 57, 2) := dkAt dk15eread_cX5_isDigit_0_a 6 rfl
theorem dX5_isDigit_9 : decode cX5_isDigit 9 = .ok (.if_icmp .gt 7, 3) := dkAt dk15eread_cX5_isDigit_0_a 7 rfl
theorem dX5_isDigit_12 : decode cX5_isDigit 12 = .ok (.iconst 1, 1) := dkAt dk15eread_cX5_isDigit_0_a 8 rfl
theorem dX5_isDigit_13 : decode cX5_isDigit 13 = .ok (.goto 4, 3) := dkAt dk15eread_cX5_isDigit_0_a 9 rfl
noncomputable def dk15eread_cX5_readSign_0 : List (Nat × Instr × Nat) := [(0, .aload_n 0, 1), (1, .invokevirtual 93, 3), (4, .iload_n 1, 1), (5, .if_icmp .eq 5, 3), (10, .aload_n 0, 1), (11, .dup, 1), (12, .getfield 34, 3), (15, .iconst 1, 1), (16, .iadd, 1), (17, .putfield 34, 3), (20, .iconst 1, 1), (21, .ireturn, 1), (8, .iconst 0, 1), (9, .ireturn, 1)]
set_option maxRecDepth 100000 in
theorem dk15eread_cX5_readSign_0_a : dkA cX5_readSign dk15eread_cX5_readSign_0 = true := by decide +kernel
theorem dX5_readSign_0 : decode cX5_readSign 0 = .ok (.aload_n 0, 1) := dkAt dk15eread_cX5_readSign_0_a 0 rfl
theorem dX5_readSign_1 : decode cX5_readSign 1 = .ok (.invokevirtual 93, 3) := dkAt dk15eread_cX5_readSign_0_a 1 rfl
theorem dX5_readSign_4 : decode cX5_readSign 4 = .ok (.iload_n 1, 1) := dkAt dk15eread_cX5_readSign_0_a 2 rfl
theorem dX5_readSign_5 : decode cX5_readSign 5 = .ok (.if_icmp .eq 5, 3) := dkAt dk15eread_cX5_readSign_0_a 3 rfl
theorem dX5_readSign_10 : decode cX5_readSign 10 = .ok (.aload_n 0, 1) := dkAt dk15eread_cX5_readSign_0_a 4 rfl
theorem dX5_readSign_11 : decode cX5_readSign 11 = .ok (.dup, 1) := dkAt dk15eread_cX5_readSign_0_a 5 rfl
theorem dX5_readSign_12 : decode cX5_readSign 12 = .ok (.getfield 34, 3) := dkAt dk15eread_cX5_readSign_0_a 6 rfl
theorem dX5_readSign_15 : decode cX5_readSign 15 = .ok (.iconst 1, 1) := dkAt dk15eread_cX5_readSign_0_a 7 rfl
theorem dX5_readSign_16 : decode cX5_readSign 16 = .ok (.iadd, 1) := dkAt dk15eread_cX5_readSign_0_a 8 rfl
theorem dX5_readSign_17 : decode cX5_readSign 17 = .ok (.putfield 34, 3) := dkAt dk15eread_cX5_readSign_0_a 9 rfl
theorem dX5_readSign_20 : decode cX5_readSign 20 = .ok (.iconst 1, 1) := dkAt dk15eread_cX5_readSign_0_a 10 rfl
theorem dX5_readSign_21 : decode cX5_readSign 21 = .ok (.ireturn, 1) := dkAt dk15eread_cX5_readSign_0_a 11 rfl
theorem dX5_readSign_8 : decode cX5_readSign 8 = .ok (.iconst 0, 1) := dkAt dk15eread_cX5_readSign_0_a 12 rfl
theorem dX5_readSign_9 : decode cX5_readSign 9 = .ok (.ireturn, 1) := dkAt dk15eread_cX5_readSign_0_a 13 rfl
noncomputable def dk15eread_cX5_readNumber_0 : List (Nat × Instr × Nat) := [(0, .aload_n 0, 1), (1, .invokevirtual 93, 3), (4, .invokestatic 96, 3), (7, .ifCond .ne 5, 3), (12, .aload_n 0, 1), (13, .aload_n 0, 1), (14, .invokevirtual 93, 3), (17, .bipush 48, 2), (19, .isub, 1), (20, .putfield 48, 3), (23, .aload_n 0, 1), (24, .dup, 1), (25, .getfield 34, 3), (28, .iconst 1, 1), (29, .iadd, 1), (30, .putfield 34, 3), (33, .aload_n 0, 1), (34, .getfield 48, 3), (37, .ifCond .le 42, 3), (79, .iconst 1, 1), (80, .ireturn, 1), (40, .aload_n 0, 1), (41, .invokevirtual 93, 3), (44, .invokestatic 96, 3), (47, .ifCond .eq 32, 3), (50, .aload_n 0, 1), (51, .aload_n 0, 1), (52, .getfield 48, 3), (55, .bipush 10, 2), (57, .imul, 1), (58, .aload_n 0, 1), (59, .invokevirtual 93, 3), (62, .iadd, 1), (63, .bipush 48, 2), (65, .isub, 1), (66, .putfield 48, 3), (69, .aload_n 0, 1), (70, .dup, 1), (71, .getfield 34, 3), (74, .iconst 1, 1)]
set_option maxRecDepth 100000 in
theorem dk15eread_cX5_readNumber_0_a : dkA cX5_readNumber dk15eread_cX5_readNumber_0 = true := by decide +kernel
theorem dX5_readNumber_0 : decode cX5_readNumber 0 = .ok (.aload_n 0, 1) := dkAt dk15eread_cX5_readNumber_0_a 0 rfl
theorem dX5_readNumber_1 : decode cX5_readNumber 1 = .ok (.invokevirtual 93, 3) := dkAt dk15eread_cX5_readNumber_0_a 1 rfl
theorem dX5_readNumber_4 : decode cX5_readNumber 4 = .ok (.invokestatic 96, 3) := dkAt dk15eread_cX5_readNumber_0_a 2 rfl
theorem dX5_readNumber_7 : decode cX5_readNumber 7 = .ok (.ifCond .ne 5, 3) := dkAt dk15eread_cX5_readNumber_0_a 3 rfl
theorem dX5_readNumber_12 : decode cX5_readNumber 12 = .ok (.aload_n 0, 1) := dkAt dk15eread_cX5_readNumber_0_a 4 rfl
theorem dX5_readNumber_13 : decode cX5_readNumber 13 = .ok (.aload_n 0, 1) := dkAt dk15eread_cX5_readNumber_0_a 5 rfl
theorem dX5_readNumber_14 : decode cX5_readNumber 14 = .ok (.invokevirtual 93, 3) := dkAt dk15eread_cX5_readNumber_0_a 6 rfl
theorem dX5_readNumber_17 : decode cX5_readNumber 17 = .ok (.bipush 48, 2) := dkAt dk15eread_cX5_readNumber_0_a 7 rfl
theorem dX5_readNumber_19 : decode cX5_readNumber 19 = .ok (.isub, 1) := dkAt dk15eread_cX5_readNumber_0_a 8 rfl
theorem dX5_readNumber_20 : decode cX5_readNumber 20 = .ok (.putfield 48, 3) := dkAt dk15eread_cX5_readNumber_0_a 9 rfl
theorem dX5_readNumber_23 : decode cX5_readNumber 23 = .ok (.aload_n 0, 1) := dkAt dk15eread_cX5_readNumber_0_a 10 rfl
theorem dX5_readNumber_24 : decode cX5_readNumber 24 = .ok (.dup, 1) := dkAt dk15eread_cX5_readNumber_0_a 11 rfl
theorem dX5_readNumber_25 : decode cX5_readNumber 25 = .ok (.getfield 34, 3) := dkAt dk15eread_cX5_readNumber_0_a 12 rfl
theorem dX5_readNumber_28 : decode cX5_readNumber 28 = .ok (.iconst 1, 1) := dkAt dk15eread_cX5_readNumber_0_a 13 rfl
theorem dX5_readNumber_29 : decode cX5_readNumber 29 = .ok (.iadd, 1) := dkAt dk15eread_cX5_readNumber_0_a 14 rfl
theorem dX5_readNumber_30 : decode cX5_readNumber 30 = .ok (.putfield 34, 3) := dkAt dk15eread_cX5_readNumber_0_a 15 rfl
theorem dX5_readNumber_33 : decode cX5_readNumber 33 = .ok (.aload_n 0, 1) := dkAt dk15eread_cX5_readNumber_0_a 16 rfl
theorem dX5_readNumber_34 : decode cX5_readNumber 34 = .ok (.getfield 48, 3) := dkAt dk15eread_cX5_readNumber_0_a 17 rfl
theorem dX5_readNumber_37 : decode cX5_readNumber 37 = .ok (.ifCond .le 42, 3) := dkAt dk15eread_cX5_readNumber_0_a 18 rfl
theorem dX5_readNumber_79 : decode cX5_readNumber 79 = .ok (.iconst 1, 1) := dkAt dk15eread_cX5_readNumber_0_a 19 rfl
theorem dX5_readNumber_80 : decode cX5_readNumber 80 = .ok (.ireturn, 1) := dkAt dk15eread_cX5_readNumber_0_a 20 rfl
theorem dX5_readNumber_40 : decode cX5_readNumber 40 = .ok (.aload_n 0, 1) := dkAt dk15eread_cX5_readNumber_0_a 21 rfl
theorem dX5_readNumber_41 : decode cX5_readNumber 41 = .ok (.invokevirtual 93, 3) := dkAt dk15eread_cX5_readNumber_0_a 22 rfl
theorem dX5_readNumber_44 : decode cX5_readNumber 44 = .ok (.invokestatic 96, 3) := dkAt dk15eread_cX5_readNumber_0_a 23 rfl
theorem dX5_readNumber_47 : decode cX5_readNumber 47 = .ok (.ifCond .eq 32, 3) := dkAt dk15eread_cX5_readNumber_0_a 24 rfl
theorem dX5_readNumber_50 : decode cX5_readNumber 50 = .ok (.aload_n 0, 1) := dkAt dk15eread_cX5_readNumber_0_a 25 rfl
theorem dX5_readNumber_51 : decode cX5_readNumber 51 = .ok (.aload_n 0, 1) := dkAt dk15eread_cX5_readNumber_0_a 26 rfl
theorem dX5_readNumber_52 : decode cX5_readNumber 52 = .ok (.getfield 48, 3) := dkAt dk15eread_cX5_readNumber_0_a 27 rfl
theorem dX5_readNumber_55 : decode cX5_readNumber 55 = .ok (.bipush 10, 2) := dkAt dk15eread_cX5_readNumber_0_a 28 rfl
theorem dX5_readNumber_57 : decode cX5_readNumber 57 = .ok (.imul, 1) := dkAt dk15eread_cX5_readNumber_0_a 29 rfl
theorem dX5_readNumber_58 : decode cX5_readNumber 58 = .ok (.aload_n 0, 1) := dkAt dk15eread_cX5_readNumber_0_a 30 rfl
theorem dX5_readNumber_59 : decode cX5_readNumber 59 = .ok (.invokevirtual 93, 3) := dkAt dk15eread_cX5_readNumber_0_a 31 rfl
theorem dX5_readNumber_62 : decode cX5_readNumber 62 = .ok (.iadd, 1) := dkAt dk15eread_cX5_readNumber_0_a 32 rfl
theorem dX5_readNumber_63 : decode cX5_readNumber 63 = .ok (.bipush 48, 2) := dkAt dk15eread_cX5_readNumber_0_a 33 rfl
theorem dX5_readNumber_65 : decode cX5_readNumber 65 = .ok (.isub, 1) := dkAt dk15eread_cX5_readNumber_0_a 34 rfl
theorem dX5_readNumber_66 : decode cX5_readNumber 66 = .ok (.putfield 48, 3) := dkAt dk15eread_cX5_readNumber_0_a 35 rfl
theorem dX5_readNumber_69 : decode cX5_readNumber 69 = .ok (.aload_n 0, 1) := dkAt dk15eread_cX5_readNumber_0_a 36 rfl
theorem dX5_readNumber_70 : decode cX5_readNumber 70 = .ok (.dup, 1) := dkAt dk15eread_cX5_readNumber_0_a 37 rfl
theorem dX5_readNumber_71 : decode cX5_readNumber 71 = .ok (.getfield 34, 3) := dkAt dk15eread_cX5_readNumber_0_a 38 rfl
theorem dX5_readNumber_74 : decode cX5_readNumber 74 = .ok (.iconst 1, 1) := dkAt dk15eread_cX5_readNumber_0_a 39 rfl
noncomputable def dk15eread_cX5_readNumber_40 : List (Nat × Instr × Nat) := [(75, .iadd, 1), (76, .putfield 34, 3), (10, .iconst 0, 1), (11, .ireturn, 1)]
set_option maxRecDepth 100000 in
theorem dk15eread_cX5_readNumber_40_a : dkA cX5_readNumber dk15eread_cX5_readNumber_40 = true := by decide +kernel
theorem dX5_readNumber_75 : decode cX5_readNumber 75 = .ok (.iadd, 1) := dkAt dk15eread_cX5_readNumber_40_a 0 rfl
theorem dX5_readNumber_76 : decode cX5_readNumber 76 = .ok (.putfield 34, 3) := dkAt dk15eread_cX5_readNumber_40_a 1 rfl
theorem dX5_readNumber_10 : decode cX5_readNumber 10 = .ok (.iconst 0, 1) := dkAt dk15eread_cX5_readNumber_40_a 2 rfl
theorem dX5_readNumber_11 : decode cX5_readNumber 11 = .ok (.ireturn, 1) := dkAt dk15eread_cX5_readNumber_40_a 3 rfl
noncomputable def dk15eread_cX5_sameSigns_0 : List (Nat × Instr × Nat) := [(0, .iconst 0, 1), (1, .istore_n 2, 1), (2, .iload_n 2, 1), (3, .aload_n 1, 1), (4, .invokevirtual 76, 3), (7, .if_icmp .ge 41, 3), (48, .iload_n 2, 1), (49, .ireturn, 1), (10, .aload_n 0, 1), (11, .getfield 34, 3), (14, .iload_n 2, 1), (15, .iadd, 1), (16, .aload_n 0, 1), (17, .getfield 31, 3), (20, .if_icmp .ge 28, 3), (23, .aload_n 0, 1), (24, .getfield 28, 3), (27, .aload_n 0, 1), (28, .getfield 34, 3), (31, .iload_n 2, 1), (32, .iadd, 1), (33, .iaload, 1), (34, .aload_n 1, 1), (35, .iload_n 2, 1), (36, .invokevirtual 89, 3), (39, .if_icmp .ne 9, 3), (42, .iinc 2 1, 3), (45, .goto (-43), 3)]
set_option maxRecDepth 100000 in
theorem dk15eread_cX5_sameSigns_0_a : dkA cX5_sameSigns dk15eread_cX5_sameSigns_0 = true := by decide +kernel
theorem dX5_sameSigns_0 : decode cX5_sameSigns 0 = .ok (.iconst 0, 1) := dkAt dk15eread_cX5_sameSigns_0_a 0 rfl
theorem dX5_sameSigns_1 : decode cX5_sameSigns 1 = .ok (.istore_n 2, 1) := dkAt dk15eread_cX5_sameSigns_0_a 1 rfl
theorem dX5_sameSigns_2 : decode cX5_sameSigns 2 = .ok (.iload_n 2, 1) := dkAt dk15eread_cX5_sameSigns_0_a 2 rfl
theorem dX5_sameSigns_3 : decode cX5_sameSigns 3 = .ok (.aload_n 1, 1) := dkAt dk15eread_cX5_sameSigns_0_a 3 rfl
theorem dX5_sameSigns_4 : decode cX5_sameSigns 4 = .ok (.invokevirtual 76, 3) := dkAt dk15eread_cX5_sameSigns_0_a 4 rfl
theorem dX5_sameSigns_7 : decode cX5_sameSigns 7 = .ok (.if_icmp .ge 41, 3) := dkAt dk15eread_cX5_sameSigns_0_a 5 rfl
theorem dX5_sameSigns_48 : decode cX5_sameSigns 48 = .ok (.iload_n 2, 1) := dkAt dk15eread_cX5_sameSigns_0_a 6 rfl
theorem dX5_sameSigns_49 : decode cX5_sameSigns 49 = .ok (.ireturn, 1) := dkAt dk15eread_cX5_sameSigns_0_a 7 rfl
theorem dX5_sameSigns_10 : decode cX5_sameSigns 10 = .ok (.aload_n 0, 1) := dkAt dk15eread_cX5_sameSigns_0_a 8 rfl
theorem dX5_sameSigns_11 : decode cX5_sameSigns 11 = .ok (.getfield 34, 3) := dkAt dk15eread_cX5_sameSigns_0_a 9 rfl
theorem dX5_sameSigns_14 : decode cX5_sameSigns 14 = .ok (.iload_n 2, 1) := dkAt dk15eread_cX5_sameSigns_0_a 10 rfl
theorem dX5_sameSigns_15 : decode cX5_sameSigns 15 = .ok (.iadd, 1) := dkAt dk15eread_cX5_sameSigns_0_a 11 rfl
theorem dX5_sameSigns_16 : decode cX5_sameSigns 16 = .ok (.aload_n 0, 1) := dkAt dk15eread_cX5_sameSigns_0_a 12 rfl
theorem dX5_sameSigns_17 : decode cX5_sameSigns 17 = .ok (.getfield 31, 3) := dkAt dk15eread_cX5_sameSigns_0_a 13 rfl
theorem dX5_sameSigns_20 : decode cX5_sameSigns 20 = .ok (.if_icmp .ge 28, 3) := dkAt dk15eread_cX5_sameSigns_0_a 14 rfl
theorem dX5_sameSigns_23 : decode cX5_sameSigns 23 = .ok (.aload_n 0, 1) := dkAt dk15eread_cX5_sameSigns_0_a 15 rfl
theorem dX5_sameSigns_24 : decode cX5_sameSigns 24 = .ok (.getfield 28, 3) := dkAt dk15eread_cX5_sameSigns_0_a 16 rfl
theorem dX5_sameSigns_27 : decode cX5_sameSigns 27 = .ok (.aload_n 0, 1) := dkAt dk15eread_cX5_sameSigns_0_a 17 rfl
theorem dX5_sameSigns_28 : decode cX5_sameSigns 28 = .ok (.getfield 34, 3) := dkAt dk15eread_cX5_sameSigns_0_a 18 rfl
theorem dX5_sameSigns_31 : decode cX5_sameSigns 31 = .ok (.iload_n 2, 1) := dkAt dk15eread_cX5_sameSigns_0_a 19 rfl
theorem dX5_sameSigns_32 : decode cX5_sameSigns 32 = .ok (.iadd, 1) := dkAt dk15eread_cX5_sameSigns_0_a 20 rfl
theorem dX5_sameSigns_33 : decode cX5_sameSigns 33 = .ok (.iaload, 1) := dkAt dk15eread_cX5_sameSigns_0_a 21 rfl
theorem dX5_sameSigns_34 : decode cX5_sameSigns 34 = .ok (.aload_n 1, 1) := dkAt dk15eread_cX5_sameSigns_0_a 22 rfl
theorem dX5_sameSigns_35 : decode cX5_sameSigns 35 = .ok (.iload_n 2, 1) := dkAt dk15eread_cX5_sameSigns_0_a 23 rfl
theorem dX5_sameSigns_36 : decode cX5_sameSigns 36 = .ok (.invokevirtual 89, 3) := dkAt dk15eread_cX5_sameSigns_0_a 24 rfl
theorem dX5_sameSigns_39 : decode cX5_sameSigns 39 = .ok (.if_icmp .ne 9, 3) := dkAt dk15eread_cX5_sameSigns_0_a 25 rfl
theorem dX5_sameSigns_42 : decode cX5_sameSigns 42 = .ok (.iinc 2 1, 3) := dkAt dk15eread_cX5_sameSigns_0_a 26 rfl
theorem dX5_sameSigns_45 : decode cX5_sameSigns 45 = .ok (.goto (-43), 3) := dkAt dk15eread_cX5_sameSigns_0_a 27 rfl
noncomputable def dk15eread_cX5_readWord_0 : List (Nat × Instr × Nat) := [(0, .iconst 0, 1), (1, .istore_n 1, 1), (2, .iconst 0, 1), (3, .istore_n 2, 1), (4, .iload_n 2, 1), (5, .iconst 4, 1), (6, .if_icmp .ge 50, 3), (9, .iload_n 2, 1), (10, .invokestatic 62, 3), (13, .astore_n 3, 1), (14, .aload_n 0, 1), (15, .aload_n 3, 1), (16, .invokevirtual 66, 3), (19, .istore 4, 2), (21, .iload_n 1, 1), (22, .iload 4, 2), (24, .invokestatic 70, 3), (27, .istore_n 1, 1), (28, .iload 4, 2), (30, .aload_n 3, 1), (31, .invokevirtual 76, 3), (34, .if_icmp .ne 16, 3), (50, .iinc 2 1, 3), (53, .goto (-49), 3), (56, .aload_n 0, 1), (57, .dup, 1), (58, .getfield 34, 3), (61, .iload_n 1, 1), (62, .iadd, 1), (63, .putfield 34, 3), (66, .iconst (-1), 1), (67, .ireturn, 1), (37, .aload_n 0, 1), (38, .dup, 1), (39, .getfield 34, 3), (42, .iload 4, 2), (44, .iadd, 1), (45, .putfield 34, 3), (48, .iload_n 2, 1), (49, .ireturn, 1)]
set_option maxRecDepth 100000 in
theorem dk15eread_cX5_readWord_0_a : dkA cX5_readWord dk15eread_cX5_readWord_0 = true := by decide +kernel
theorem dX5_readWord_0 : decode cX5_readWord 0 = .ok (.iconst 0, 1) := dkAt dk15eread_cX5_readWord_0_a 0 rfl
theorem dX5_readWord_1 : decode cX5_readWord 1 = .ok (.istore_n 1, 1) := dkAt dk15eread_cX5_readWord_0_a 1 rfl
theorem dX5_readWord_2 : decode cX5_readWord 2 = .ok (.iconst 0, 1) := dkAt dk15eread_cX5_readWord_0_a 2 rfl
theorem dX5_readWord_3 : decode cX5_readWord 3 = .ok (.istore_n 2, 1) := dkAt dk15eread_cX5_readWord_0_a 3 rfl
theorem dX5_readWord_4 : decode cX5_readWord 4 = .ok (.iload_n 2, 1) := dkAt dk15eread_cX5_readWord_0_a 4 rfl
theorem dX5_readWord_5 : decode cX5_readWord 5 = .ok (.iconst 4, 1) := dkAt dk15eread_cX5_readWord_0_a 5 rfl
theorem dX5_readWord_6 : decode cX5_readWord 6 = .ok (.if_icmp .ge 50, 3) := dkAt dk15eread_cX5_readWord_0_a 6 rfl
theorem dX5_readWord_9 : decode cX5_readWord 9 = .ok (.iload_n 2, 1) := dkAt dk15eread_cX5_readWord_0_a 7 rfl
theorem dX5_readWord_10 : decode cX5_readWord 10 = .ok (.invokestatic 62, 3) := dkAt dk15eread_cX5_readWord_0_a 8 rfl
theorem dX5_readWord_13 : decode cX5_readWord 13 = .ok (.astore_n 3, 1) := dkAt dk15eread_cX5_readWord_0_a 9 rfl
theorem dX5_readWord_14 : decode cX5_readWord 14 = .ok (.aload_n 0, 1) := dkAt dk15eread_cX5_readWord_0_a 10 rfl
theorem dX5_readWord_15 : decode cX5_readWord 15 = .ok (.aload_n 3, 1) := dkAt dk15eread_cX5_readWord_0_a 11 rfl
theorem dX5_readWord_16 : decode cX5_readWord 16 = .ok (.invokevirtual 66, 3) := dkAt dk15eread_cX5_readWord_0_a 12 rfl
theorem dX5_readWord_19 : decode cX5_readWord 19 = .ok (.istore 4, 2) := dkAt dk15eread_cX5_readWord_0_a 13 rfl
theorem dX5_readWord_21 : decode cX5_readWord 21 = .ok (.iload_n 1, 1) := dkAt dk15eread_cX5_readWord_0_a 14 rfl
theorem dX5_readWord_22 : decode cX5_readWord 22 = .ok (.iload 4, 2) := dkAt dk15eread_cX5_readWord_0_a 15 rfl
theorem dX5_readWord_24 : decode cX5_readWord 24 = .ok (.invokestatic 70, 3) := dkAt dk15eread_cX5_readWord_0_a 16 rfl
theorem dX5_readWord_27 : decode cX5_readWord 27 = .ok (.istore_n 1, 1) := dkAt dk15eread_cX5_readWord_0_a 17 rfl
theorem dX5_readWord_28 : decode cX5_readWord 28 = .ok (.iload 4, 2) := dkAt dk15eread_cX5_readWord_0_a 18 rfl
theorem dX5_readWord_30 : decode cX5_readWord 30 = .ok (.aload_n 3, 1) := dkAt dk15eread_cX5_readWord_0_a 19 rfl
theorem dX5_readWord_31 : decode cX5_readWord 31 = .ok (.invokevirtual 76, 3) := dkAt dk15eread_cX5_readWord_0_a 20 rfl
theorem dX5_readWord_34 : decode cX5_readWord 34 = .ok (.if_icmp .ne 16, 3) := dkAt dk15eread_cX5_readWord_0_a 21 rfl
theorem dX5_readWord_50 : decode cX5_readWord 50 = .ok (.iinc 2 1, 3) := dkAt dk15eread_cX5_readWord_0_a 22 rfl
theorem dX5_readWord_53 : decode cX5_readWord 53 = .ok (.goto (-49), 3) := dkAt dk15eread_cX5_readWord_0_a 23 rfl
theorem dX5_readWord_56 : decode cX5_readWord 56 = .ok (.aload_n 0, 1) := dkAt dk15eread_cX5_readWord_0_a 24 rfl
theorem dX5_readWord_57 : decode cX5_readWord 57 = .ok (.dup, 1) := dkAt dk15eread_cX5_readWord_0_a 25 rfl
theorem dX5_readWord_58 : decode cX5_readWord 58 = .ok (.getfield 34, 3) := dkAt dk15eread_cX5_readWord_0_a 26 rfl
theorem dX5_readWord_61 : decode cX5_readWord 61 = .ok (.iload_n 1, 1) := dkAt dk15eread_cX5_readWord_0_a 27 rfl
theorem dX5_readWord_62 : decode cX5_readWord 62 = .ok (.iadd, 1) := dkAt dk15eread_cX5_readWord_0_a 28 rfl
theorem dX5_readWord_63 : decode cX5_readWord 63 = .ok (.putfield 34, 3) := dkAt dk15eread_cX5_readWord_0_a 29 rfl
theorem dX5_readWord_66 : decode cX5_readWord 66 = .ok (.iconst (-1), 1) := dkAt dk15eread_cX5_readWord_0_a 30 rfl
theorem dX5_readWord_67 : decode cX5_readWord 67 = .ok (.ireturn, 1) := dkAt dk15eread_cX5_readWord_0_a 31 rfl
theorem dX5_readWord_37 : decode cX5_readWord 37 = .ok (.aload_n 0, 1) := dkAt dk15eread_cX5_readWord_0_a 32 rfl
theorem dX5_readWord_38 : decode cX5_readWord 38 = .ok (.dup, 1) := dkAt dk15eread_cX5_readWord_0_a 33 rfl
theorem dX5_readWord_39 : decode cX5_readWord 39 = .ok (.getfield 34, 3) := dkAt dk15eread_cX5_readWord_0_a 34 rfl
theorem dX5_readWord_42 : decode cX5_readWord 42 = .ok (.iload 4, 2) := dkAt dk15eread_cX5_readWord_0_a 35 rfl
theorem dX5_readWord_44 : decode cX5_readWord 44 = .ok (.iadd, 1) := dkAt dk15eread_cX5_readWord_0_a 36 rfl
theorem dX5_readWord_45 : decode cX5_readWord 45 = .ok (.putfield 34, 3) := dkAt dk15eread_cX5_readWord_0_a 37 rfl
theorem dX5_readWord_48 : decode cX5_readWord 48 = .ok (.iload_n 2, 1) := dkAt dk15eread_cX5_readWord_0_a 38 rfl
theorem dX5_readWord_49 : decode cX5_readWord 49 = .ok (.ireturn, 1) := dkAt dk15eread_cX5_readWord_0_a 39 rfl
noncomputable def dk15eread_cX5_code_0 : List (Nat × Instr × Nat) := [(0, .aload_n 0, 1), (1, .getfield 37, 3), (4, .bipush 100, 2), (6, .if_icmp .lt 4, 3), (10, .aload_n 0, 1), (11, .getfield 25, 3), (14, .aload_n 0, 1), (15, .getfield 37, 3), (18, .iload_n 1, 1), (19, .iastore, 1), (20, .aload_n 0, 1), (21, .dup, 1), (22, .getfield 37, 3), (25, .iconst 1, 1), (26, .iadd, 1), (27, .putfield 37, 3), (30, .return_, 1)]
set_option maxRecDepth 100000 in
theorem dk15eread_cX5_code_0_a : dkA cX5_code dk15eread_cX5_code_0 = true := by decide +kernel
theorem dX5_code_0 : decode cX5_code 0 = .ok (.aload_n 0, 1) := dkAt dk15eread_cX5_code_0_a 0 rfl
theorem dX5_code_1 : decode cX5_code 1 = .ok (.getfield 37, 3) := dkAt dk15eread_cX5_code_0_a 1 rfl
theorem dX5_code_4 : decode cX5_code 4 = .ok (.bipush 100, 2) := dkAt dk15eread_cX5_code_0_a 2 rfl
theorem dX5_code_6 : decode cX5_code 6 = .ok (.if_icmp .lt 4, 3) := dkAt dk15eread_cX5_code_0_a 3 rfl
theorem dX5_code_10 : decode cX5_code 10 = .ok (.aload_n 0, 1) := dkAt dk15eread_cX5_code_0_a 4 rfl
theorem dX5_code_11 : decode cX5_code 11 = .ok (.getfield 25, 3) := dkAt dk15eread_cX5_code_0_a 5 rfl
theorem dX5_code_14 : decode cX5_code 14 = .ok (.aload_n 0, 1) := dkAt dk15eread_cX5_code_0_a 6 rfl
theorem dX5_code_15 : decode cX5_code 15 = .ok (.getfield 37, 3) := dkAt dk15eread_cX5_code_0_a 7 rfl
theorem dX5_code_18 : decode cX5_code 18 = .ok (.iload_n 1, 1) := dkAt dk15eread_cX5_code_0_a 8 rfl
theorem dX5_code_19 : decode cX5_code 19 = .ok (.iastore, 1) := dkAt dk15eread_cX5_code_0_a 9 rfl
theorem dX5_code_20 : decode cX5_code 20 = .ok (.aload_n 0, 1) := dkAt dk15eread_cX5_code_0_a 10 rfl
theorem dX5_code_21 : decode cX5_code 21 = .ok (.dup, 1) := dkAt dk15eread_cX5_code_0_a 11 rfl
theorem dX5_code_22 : decode cX5_code 22 = .ok (.getfield 37, 3) := dkAt dk15eread_cX5_code_0_a 12 rfl
theorem dX5_code_25 : decode cX5_code 25 = .ok (.iconst 1, 1) := dkAt dk15eread_cX5_code_0_a 13 rfl
theorem dX5_code_26 : decode cX5_code 26 = .ok (.iadd, 1) := dkAt dk15eread_cX5_code_0_a 14 rfl
theorem dX5_code_27 : decode cX5_code 27 = .ok (.putfield 37, 3) := dkAt dk15eread_cX5_code_0_a 15 rfl
theorem dX5_code_30 : decode cX5_code 30 = .ok (.return_, 1) := dkAt dk15eread_cX5_code_0_a 16 rfl
noncomputable def dk15eread_cX5_readTest_0 : List (Nat × Instr × Nat) := [(0, .ldc 112, 2), (2, .aload_n 0, 1), (3, .invokevirtual 93, 3), (6, .i2c, 1), (7, .invokevirtual 114, 3), (10, .istore_n 1, 1), (11, .iload_n 1, 1), (12, .ifCond .ge 5, 3), (15, .iconst 0, 1), (16, .ireturn, 1), (17, .aload_n 0, 1), (18, .dup, 1), (19, .getfield 34, 3), (22, .iconst 1, 1), (23, .iadd, 1), (24, .putfield 34, 3), (27, .ldc 118, 2), (29, .aload_n 0, 1), (30, .invokevirtual 93, 3), (33, .i2c, 1), (34, .invokevirtual 114, 3), (37, .istore_n 2, 1), (38, .iload_n 2, 1), (39, .ifCond .ge 5, 3), (42, .iconst 0, 1), (43, .ireturn, 1), (44, .aload_n 0, 1), (45, .dup, 1), (46, .getfield 34, 3), (49, .iconst 1, 1), (50, .iadd, 1), (51, .putfield 34, 3), (54, .aload_n 0, 1), (55, .invokevirtual 44, 3), (58, .ifCond .ne 5, 3), (63, .aload_n 0, 1), (64, .iload_n 1, 1), (65, .sipush 300, 3), (68, .imul, 1), (69, .iload_n 2, 1)]
set_option maxRecDepth 100000 in
theorem dk15eread_cX5_readTest_0_a : dkA cX5_readTest dk15eread_cX5_readTest_0 = true := by decide +kernel
theorem dX5_readTest_0 : decode cX5_readTest 0 = .ok (.ldc 112, 2) := dkAt dk15eread_cX5_readTest_0_a 0 rfl
theorem dX5_readTest_2 : decode cX5_readTest 2 = .ok (.aload_n 0, 1) := dkAt dk15eread_cX5_readTest_0_a 1 rfl
theorem dX5_readTest_3 : decode cX5_readTest 3 = .ok (.invokevirtual 93, 3) := dkAt dk15eread_cX5_readTest_0_a 2 rfl
theorem dX5_readTest_6 : decode cX5_readTest 6 = .ok (.i2c, 1) := dkAt dk15eread_cX5_readTest_0_a 3 rfl
theorem dX5_readTest_7 : decode cX5_readTest 7 = .ok (.invokevirtual 114, 3) := dkAt dk15eread_cX5_readTest_0_a 4 rfl
theorem dX5_readTest_10 : decode cX5_readTest 10 = .ok (.istore_n 1, 1) := dkAt dk15eread_cX5_readTest_0_a 5 rfl
theorem dX5_readTest_11 : decode cX5_readTest 11 = .ok (.iload_n 1, 1) := dkAt dk15eread_cX5_readTest_0_a 6 rfl
theorem dX5_readTest_12 : decode cX5_readTest 12 = .ok (.ifCond .ge 5, 3) := dkAt dk15eread_cX5_readTest_0_a 7 rfl
theorem dX5_readTest_15 : decode cX5_readTest 15 = .ok (.iconst 0, 1) := dkAt dk15eread_cX5_readTest_0_a 8 rfl
theorem dX5_readTest_16 : decode cX5_readTest 16 = .ok (.ireturn, 1) := dkAt dk15eread_cX5_readTest_0_a 9 rfl
theorem dX5_readTest_17 : decode cX5_readTest 17 = .ok (.aload_n 0, 1) := dkAt dk15eread_cX5_readTest_0_a 10 rfl
theorem dX5_readTest_18 : decode cX5_readTest 18 = .ok (.dup, 1) := dkAt dk15eread_cX5_readTest_0_a 11 rfl
theorem dX5_readTest_19 : decode cX5_readTest 19 = .ok (.getfield 34, 3) := dkAt dk15eread_cX5_readTest_0_a 12 rfl
theorem dX5_readTest_22 : decode cX5_readTest 22 = .ok (.iconst 1, 1) := dkAt dk15eread_cX5_readTest_0_a 13 rfl
theorem dX5_readTest_23 : decode cX5_readTest 23 = .ok (.iadd, 1) := dkAt dk15eread_cX5_readTest_0_a 14 rfl
theorem dX5_readTest_24 : decode cX5_readTest 24 = .ok (.putfield 34, 3) := dkAt dk15eread_cX5_readTest_0_a 15 rfl
theorem dX5_readTest_27 : decode cX5_readTest 27 = .ok (.ldc 118, 2) := dkAt dk15eread_cX5_readTest_0_a 16 rfl
theorem dX5_readTest_29 : decode cX5_readTest 29 = .ok (.aload_n 0, 1) := dkAt dk15eread_cX5_readTest_0_a 17 rfl
theorem dX5_readTest_30 : decode cX5_readTest 30 = .ok (.invokevirtual 93, 3) := dkAt dk15eread_cX5_readTest_0_a 18 rfl
theorem dX5_readTest_33 : decode cX5_readTest 33 = .ok (.i2c, 1) := dkAt dk15eread_cX5_readTest_0_a 19 rfl
theorem dX5_readTest_34 : decode cX5_readTest 34 = .ok (.invokevirtual 114, 3) := dkAt dk15eread_cX5_readTest_0_a 20 rfl
theorem dX5_readTest_37 : decode cX5_readTest 37 = .ok (.istore_n 2, 1) := dkAt dk15eread_cX5_readTest_0_a 21 rfl
theorem dX5_readTest_38 : decode cX5_readTest 38 = .ok (.iload_n 2, 1) := dkAt dk15eread_cX5_readTest_0_a 22 rfl
theorem dX5_readTest_39 : decode cX5_readTest 39 = .ok (.ifCond .ge 5, 3) := dkAt dk15eread_cX5_readTest_0_a 23 rfl
theorem dX5_readTest_42 : decode cX5_readTest 42 = .ok (.iconst 0, 1) := dkAt dk15eread_cX5_readTest_0_a 24 rfl
theorem dX5_readTest_43 : decode cX5_readTest 43 = .ok (.ireturn, 1) := dkAt dk15eread_cX5_readTest_0_a 25 rfl
theorem dX5_readTest_44 : decode cX5_readTest 44 = .ok (.aload_n 0, 1) := dkAt dk15eread_cX5_readTest_0_a 26 rfl
theorem dX5_readTest_45 : decode cX5_readTest 45 = .ok (.dup, 1) := dkAt dk15eread_cX5_readTest_0_a 27 rfl
theorem dX5_readTest_46 : decode cX5_readTest 46 = .ok (.getfield 34, 3) := dkAt dk15eread_cX5_readTest_0_a 28 rfl
theorem dX5_readTest_49 : decode cX5_readTest 49 = .ok (.iconst 1, 1) := dkAt dk15eread_cX5_readTest_0_a 29 rfl
theorem dX5_readTest_50 : decode cX5_readTest 50 = .ok (.iadd, 1) := dkAt dk15eread_cX5_readTest_0_a 30 rfl
theorem dX5_readTest_51 : decode cX5_readTest 51 = .ok (.putfield 34, 3) := dkAt dk15eread_cX5_readTest_0_a 31 rfl
theorem dX5_readTest_54 : decode cX5_readTest 54 = .ok (.aload_n 0, 1) := dkAt dk15eread_cX5_readTest_0_a 32 rfl
theorem dX5_readTest_55 : decode cX5_readTest 55 = .ok (.invokevirtual 44, 3) := dkAt dk15eread_cX5_readTest_0_a 33 rfl
theorem dX5_readTest_58 : decode cX5_readTest 58 = .ok (.ifCond .ne 5, 3) := dkAt dk15eread_cX5_readTest_0_a 34 rfl
theorem dX5_readTest_63 : decode cX5_readTest 63 = .ok (.aload_n 0, 1) := dkAt dk15eread_cX5_readTest_0_a 35 rfl
theorem dX5_readTest_64 : decode cX5_readTest 64 = .ok (.iload_n 1, 1) := dkAt dk15eread_cX5_readTest_0_a 36 rfl
theorem dX5_readTest_65 : decode cX5_readTest 65 = .ok (.sipush 300, 3) := dkAt dk15eread_cX5_readTest_0_a 37 rfl
theorem dX5_readTest_68 : decode cX5_readTest 68 = .ok (.imul, 1) := dkAt dk15eread_cX5_readTest_0_a 38 rfl
theorem dX5_readTest_69 : decode cX5_readTest 69 = .ok (.iload_n 2, 1) := dkAt dk15eread_cX5_readTest_0_a 39 rfl
noncomputable def dk15eread_cX5_readTest_40 : List (Nat × Instr × Nat) := [(70, .bipush 100, 2), (72, .imul, 1), (73, .iadd, 1), (74, .aload_n 0, 1), (75, .getfield 48, 3), (78, .iadd, 1), (79, .invokevirtual 102, 3), (82, .iconst 1, 1), (83, .ireturn, 1), (61, .iconst 0, 1), (62, .ireturn, 1)]
set_option maxRecDepth 100000 in
theorem dk15eread_cX5_readTest_40_a : dkA cX5_readTest dk15eread_cX5_readTest_40 = true := by decide +kernel
theorem dX5_readTest_70 : decode cX5_readTest 70 = .ok (.bipush 100, 2) := dkAt dk15eread_cX5_readTest_40_a 0 rfl
theorem dX5_readTest_72 : decode cX5_readTest 72 = .ok (.imul, 1) := dkAt dk15eread_cX5_readTest_40_a 1 rfl
theorem dX5_readTest_73 : decode cX5_readTest 73 = .ok (.iadd, 1) := dkAt dk15eread_cX5_readTest_40_a 2 rfl
theorem dX5_readTest_74 : decode cX5_readTest 74 = .ok (.aload_n 0, 1) := dkAt dk15eread_cX5_readTest_40_a 3 rfl
theorem dX5_readTest_75 : decode cX5_readTest 75 = .ok (.getfield 48, 3) := dkAt dk15eread_cX5_readTest_40_a 4 rfl
theorem dX5_readTest_78 : decode cX5_readTest 78 = .ok (.iadd, 1) := dkAt dk15eread_cX5_readTest_40_a 5 rfl
theorem dX5_readTest_79 : decode cX5_readTest 79 = .ok (.invokevirtual 102, 3) := dkAt dk15eread_cX5_readTest_40_a 6 rfl
theorem dX5_readTest_82 : decode cX5_readTest 82 = .ok (.iconst 1, 1) := dkAt dk15eread_cX5_readTest_40_a 7 rfl
theorem dX5_readTest_83 : decode cX5_readTest 83 = .ok (.ireturn, 1) := dkAt dk15eread_cX5_readTest_40_a 8 rfl
theorem dX5_readTest_61 : decode cX5_readTest 61 = .ok (.iconst 0, 1) := dkAt dk15eread_cX5_readTest_40_a 9 rfl
theorem dX5_readTest_62 : decode cX5_readTest 62 = .ok (.ireturn, 1) := dkAt dk15eread_cX5_readTest_40_a 10 rfl
noncomputable def sgv (f : Nat → Int32) (p E : Nat) : Int32 := if p < E then f p else 0
theorem sg_lt {f : Nat → Int32} {p E : Nat} (h : ¬ sgv f p E = 0) : p < E := by
  rcases Nat.lt_or_ge p E with q | q
  · exact q
  · exact absurd (if_neg (Nat.not_lt.mpr q)) h
theorem nI_n0 {k : Nat} (h : 0 < k) (h2 : k < 2 ^ 31) : ¬ nI k = 0 := fun e => absurd ((nI_eq (a := k) (b := 0) h2 (by omega)).mp e) (by omega)
theorem okC_up {f : Nat → Int32} {k : Nat} {v : Int32} (h : ∀ k0, k0 < 100 → okC (f k0)) (hv : okC v) : ∀ k0, k0 < 100 → okC (upd f k v k0) := by
  intro k0 hk
  by_cases q : k0 = k
  · subst q; rw [pk_us]; exact hv
  · rw [pk_un q]; exact h k0 hk
theorem mx_eq {a b : Nat} (ha : a < 100) (hb : b < 100) : (if nI a < nI b then nI b else nI a) = nI (max a b) := by
  by_cases h : a < b
  · rw [if_pos (nI_lt h (by omega)), Nat.max_eq_right (by omega)]
  · rw [if_neg (nI_nlt (by omega) (by omega)), Nat.max_eq_left (by omega)]
noncomputable def TX (f : Nat → Int32) (E : Nat) (ss : Nat → Nat) : Prop := (∀ p, p < E → f p = nI (ss p)) ∧ (∀ p, E ≤ p → ss p = 0) ∧ ∀ p, ss p < 128
/-- the class's codes so far -/
noncomputable def XT (f : Nat → Int32) (n : Nat) (K : List Nat) (p : Nat) : Prop := K.length = n ∧ n ≤ p ∧ ∀ i, i < n → f i = ccd (K.getD i 0)
theorem XT.mono {f : Nat → Int32} {n p q : Nat} {K : List Nat} (h : XT f n K p) (hq : p ≤ q) : XT f n K q := ⟨h.1, Nat.le_trans h.2.1 hq, h.2.2⟩
theorem XT.as {f : Nat → Int32} {n p : Nat} {K L M : List Nat} (h : XT f n ((K ++ L) ++ M) p) : XT f n (K ++ (L ++ M)) p := by rw [← List.append_assoc]; exact h
theorem XT.add {f : Nat → Int32} {n p b : Nat} {K : List Nat} {x : Int32} (h : XT f n K p) (hx : x = ccd b) : ∀ i, i < n + 1 → upd f n x i = ccd ((K ++ [b]).getD i 0) := by
  obtain ⟨h1, h2, h3⟩ := h
  intro i hi
  by_cases q : i = n
  · subst q; rw [pk_us, ← h1, getD_r, hx]
  · rw [pk_un q, getD_l (by omega)]; exact h3 i (by omega)
theorem ccd_t {k : Nat} (h : k < 1800) : nI k = ccd k := (if_pos h).symm
noncomputable def pWord (s : Nat → Nat) (p : Nat) : Option Nat × Nat := if mlen s p (sTx 0) = 4 then (some 0, p + 4) else if mlen s p (sTx 1) = 5 then (some 1, p + 5) else if mlen s p (sTx 2) = 6 then (some 2, p + 6) else if mlen s p (sTx 3) = 6 then (some 3, p + 6) else (none, p + max (max (max (max 0 (mlen s p (sTx 0))) (mlen s p (sTx 1))) (mlen s p (sTx 2))) (mlen s p (sTx 3)))
section
variable {s : Nat → Nat} {p q w : Nat}
theorem wd_s (h : pWord s p = (some w, q)) : pCl s p = pRs s w q := by
  have t0 : sTx 0 = [115, 101, 101, 32] := rfl
  have t1 : sTx 1 = [104, 105, 100, 101, 32] := rfl
  have t2 : sTx 2 = [115, 105, 103, 104, 116, 32] := rfl
  have t3 : sTx 3 = [100, 114, 105, 102, 116, 32] := rfl
  rw [pWord, t0, t1, t2, t3] at h
  by_cases h0 : mlen s p [115, 101, 101, 32] = 4
  · rw [if_pos h0] at h
    have hp : s p = 115 := Decidable.byContradiction (fun z => by rw [ml_c0 z] at h0; omega)
    rw [ml_c1 hp] at h0
    have hp1 : s (p + 1) = 101 := Decidable.byContradiction (fun z => by rw [ml_c0 z] at h0; omega)
    obtain ⟨rfl, rfl⟩ : 0 = w ∧ p + 4 = q := ⟨Option.some.inj (congrArg Prod.fst h), congrArg Prod.snd h⟩
    rw [cl_s1 hp hp1, pm_rs (by omega) (by omega)]
  · rw [if_neg h0] at h
    by_cases h1 : mlen s p [104, 105, 100, 101, 32] = 5
    · rw [if_pos h1] at h
      have hp : s p = 104 := Decidable.byContradiction (fun z => by rw [ml_c0 z] at h1; omega)
      obtain ⟨rfl, rfl⟩ : 1 = w ∧ p + 5 = q := ⟨Option.some.inj (congrArg Prod.fst h), congrArg Prod.snd h⟩
      rw [cl_h hp, pm_rs h1 (by omega)]
    · rw [if_neg h1] at h
      by_cases h2 : mlen s p [115, 105, 103, 104, 116, 32] = 6
      · rw [if_pos h2] at h
        have hp : s p = 115 := Decidable.byContradiction (fun z => by rw [ml_c0 z] at h2; omega)
        rw [ml_c1 hp] at h2
        have hp1 : s (p + 1) = 105 := Decidable.byContradiction (fun z => by rw [ml_c0 z] at h2; omega)
        obtain ⟨rfl, rfl⟩ : 2 = w ∧ p + 6 = q := ⟨Option.some.inj (congrArg Prod.fst h), congrArg Prod.snd h⟩
        rw [cl_s2 hp (by omega), sg_rs (by omega)]
      · rw [if_neg h2] at h
        by_cases h3 : mlen s p [100, 114, 105, 102, 116, 32] = 6
        · rw [if_pos h3] at h
          have hp : s p = 100 := Decidable.byContradiction (fun z => by rw [ml_c0 z] at h3; omega)
          obtain ⟨rfl, rfl⟩ : 3 = w ∧ p + 6 = q := ⟨Option.some.inj (congrArg Prod.fst h), congrArg Prod.snd h⟩
          rw [cl_d hp, pm_rs h3 (by omega)]
        · rw [if_neg h3] at h
          exact absurd (congrArg Prod.fst h) (by simp)
theorem wd_n (h : pWord s p = (none, q)) : pCl s p = (none, q) := by
  have t0 : sTx 0 = [115, 101, 101, 32] := rfl
  have t1 : sTx 1 = [104, 105, 100, 101, 32] := rfl
  have t2 : sTx 2 = [115, 105, 103, 104, 116, 32] := rfl
  have t3 : sTx 3 = [100, 114, 105, 102, 116, 32] := rfl
  rw [pWord, t0, t1, t2, t3] at h
  by_cases h0 : mlen s p [115, 101, 101, 32] = 4
  · rw [if_pos h0] at h; exact absurd (congrArg Prod.fst h) (by simp)
  by_cases h1 : mlen s p [104, 105, 100, 101, 32] = 5
  · rw [if_neg h0, if_pos h1] at h; exact absurd (congrArg Prod.fst h) (by simp)
  by_cases h2 : mlen s p [115, 105, 103, 104, 116, 32] = 6
  · rw [if_neg h0, if_neg h1, if_pos h2] at h; exact absurd (congrArg Prod.fst h) (by simp)
  by_cases h3 : mlen s p [100, 114, 105, 102, 116, 32] = 6
  · rw [if_neg h0, if_neg h1, if_neg h2, if_pos h3] at h; exact absurd (congrArg Prod.fst h) (by simp)
  rw [if_neg h0, if_neg h1, if_neg h2, if_neg h3] at h
  have hq : p + max (max (max (max 0 (mlen s p [115, 101, 101, 32])) (mlen s p [104, 105, 100, 101, 32])) (mlen s p [115, 105, 103, 104, 116, 32])) (mlen s p [100, 114, 105, 102, 116, 32]) = q := congrArg Prod.snd h
  subst hq
  by_cases hp : s p = 115
  · rw [ml_c1 hp] at h0
    rw [ml_c1 hp] at h2
    rw [ml_c1 hp, ml_c0 (show ¬ s p = 104 by omega), ml_c1 hp, ml_c0 (show ¬ s p = 100 by omega)]
    by_cases hp1 : s (p + 1) = 101
    · rw [cl_s1 hp hp1, pm_1 (by omega), ml_c0 (show ¬ s (p + 1) = 105 by omega), ml_c1 hp1]
      congr 1
      omega
    · rw [cl_s2 hp hp1, sg_1 (by omega), ml_c0 hp1]
      congr 1
      omega
  · rw [ml_c0 hp, ml_c0 hp]
    by_cases hq : s p = 104
    · rw [cl_h hq, pm_1 h1, ml_c0 (show ¬ s p = 100 by omega)]
      congr 1
      omega
    · rw [ml_c0 hq]
      by_cases hr : s p = 100
      · rw [cl_d hr, pm_1 h3]
        congr 1
      · rw [cl_n hp hq hr, ml_c0 hr]
        rfl
end
theorem ax6_y {c j : Nat} (hj : j < 6) (e : (sTx 4).getD j 0 = c) : ix6 c = some j := by subst e; exact (by decide : ∀ j, j < 6 → ix6 ((sTx 4).getD j 0) = some j) j hj
theorem ax3_y {c j : Nat} (hj : j < 3) (e : (sTx 5).getD j 0 = c) : ix3 c = some j := by subst e; exact (by decide : ∀ j, j < 3 → ix3 ((sTx 5).getD j 0) = some j) j hj
theorem ax6_n {c : Nat} (h : ∀ q, q < 6 → ¬ (sTx 4).getD q 0 = c) : ix6 c = none := am6_n (fun q hq e => h q hq e.symm)
theorem ax3_n {c : Nat} (h : ∀ q, q < 3 → ¬ (sTx 5).getD q 0 = c) : ix3 c = none := am3_n (fun q hq e => h q hq e.symm)
theorem ix_step {i j k : Nat} (h : ∀ q, q < j → ¬ (sTx i).getD q 0 = k) (h2 : ¬ (sTx i).getD j 0 = k) : ∀ q, q < j + 1 → ¬ (sTx i).getD q 0 = k := by
  intro q hq
  by_cases z : q = j
  · rw [z]; exact h2
  · exact h q (by omega)
theorem end_up {f : Nat → Int32} {k e : Nat} (h : ∀ k0, k0 < 10 → ∃ e0 : Nat, e0 ≤ 100 ∧ f k0 = nI e0) (he : e ≤ 100) : ∀ k0, k0 < 10 → ∃ e0 : Nat, e0 ≤ 100 ∧ upd f k (nI e) k0 = nI e0 := by
  intro k0 hk
  by_cases q : k0 = k
  · subst q; exact ⟨e, he, pk_us⟩
  · rw [pk_un q]; exact h k0 hk

set_option maxHeartbeats 4000000 in
set_option maxRecDepth 100000 in
theorem c_canEnc (l : Launch) (dC : Nat → ClassId) (dI : Nat → Nat → Nat) (k : Nat) (hk8 : k < 128) : Met l yJ1_canEncode_9a6ad wsJ1_canEncode_9a6ad ({ frames := 0, cells := 0, slots := 0, locals := 0 } : Room) (va_Pc [.int (nI k)] (fun U => True)) (vp_Si (fun r => r = 1)) 0 0 (fun _ => False) := by
  refine met_ofQ (cc := cJ1_canEncode_9a6ad) (maxL := 1) (ret := (some .boolean)) (by decide) rfl ?_
  intro p e s m args below meth c s₁ Q B hml hv hQ
  obtain ⟨rfl, -⟩ := hv
  have hx := B.exec
  have hb := B.bytes
  have hr := B.returns
  have hts := atoms_spec (ws := wsJ1_canEncode_9a6ad) B.pre
  have hown : s.vm.findClass RJ1 = some m.cls := findClass_of_methodNamed B.named
  have hlocks := B.notSynchronized
  obtain ⟨A, hAe⟩ : ∃ A : Nat → Prop, A = fun _ => False := ⟨_, rfl⟩
  rw [← hAe] at hQ
  have hS : va_S A s.heap s.heap [] := va_S.rf
  have hl := lv_entry [.int (nI k)] (n := 1) (Nat.le_of_ble_eq_true rfl)
  rw [lg_entry_eq]
  generalize (lg_sl [.int (nI k)] ++ List.replicate (1 - (lg_sl [.int (nI k)]).length) Slot.unset).toArray = ls at hl ⊢
  generalize hag : ([.int (nI k)] : List Value).toArray = args at hts hQ ⊢
  have hl : lv_has ls 1 [(0, .int (nI k))] := hl
  refine lv_iload_n hx hb dJ1_canEncode_9a6ad_0 rfl (lv_at hl 0 rfl) ?_
  refine lv_if_lt (tgt := 15) hx hb dJ1_canEncode_9a6ad_1 (by decide) (fun c_1 => absurd c_1 (nI_pos (by omega))) (fun c_1 => ?_)
  have c_1 : ¬ k < 0 := fun q => c_1 ((nI_ltI (a := k) (b := 0) (by omega) (by omega)).mpr q)
  refine lv_iload_n hx hb dJ1_canEncode_9a6ad_4 rfl (lv_at hl 0 rfl) ?_
  refine lv_sipush (v := 255) hx hb dJ1_canEncode_9a6ad_5 (by decide) ?_
  refine lv_icmp_gt (tgt := 15) hx hb dJ1_canEncode_9a6ad_8 (by decide) (fun c_2 => ?_) (fun c_2 => ?_)
  · skip
    have c_2 : 255 < k := (nI_ltI (a := 255) (b := k) (by omega) (by omega)).mp c_2
    exfalso
    omega
  · skip
    have c_2 : ¬ 255 < k := fun q => c_2 ((nI_ltI (a := 255) (b := k) (by omega) (by omega)).mpr q)
    refine lv_iconst (v := 1) hx hb dJ1_canEncode_9a6ad_11 (by decide) ?_
    refine lv_goto (tgt := 16) hx hb dJ1_canEncode_9a6ad_12 (by decide) ?_
    rw [hQ]
    exact W.zret (v := 1) hx hb hr rfl (fun tQ htQ hWQ => ⟨1, rfl, rfl, by rw [htQ]⟩) (fun q hq => absurd hq List.not_mem_nil) dJ1_canEncode_9a6ad_16

set_option maxHeartbeats 4000000 in
set_option maxRecDepth 100000 in
theorem c_idxChar (l : Launch) (dC : Nat → ClassId) (dI : Nat → Nat → Nat) (sK sV : Nat → Nat) (i k : Nat) (hi12 : i < 12) (hk8 : k < 128) : Met l yJ1_indexOfChar_4cfef wsJ1_indexOfChar_4cfef ({ frames := 0, cells := 0, slots := 0, locals := 0 } : Room) (va_Pc [.ref (sV i), .int (nI k), .int 0, .int (nI (sLen i))] (fun U => Gs sK sV (fun _ => False) U)) (vp_Si (fun r => (r = -1 ∧ ∀ q, q < sLen i → ¬ (sTx i).getD q 0 = k) ∨ (∃ jq : Nat, jq < sLen i ∧ r = nI jq ∧ (sTx i).getD jq 0 = k))) 0 0 (fun _ => False) := by
  refine met_ofQ (cc := cJ1_indexOfChar_4cfef) (maxL := 6) (ret := (some .int)) (by decide) rfl ?_
  intro p e s m args below meth c s₁ Q B hml hv hQ
  obtain ⟨rfl, hE⟩ := hv
  have hx := B.exec
  have hb := B.bytes
  have hr := B.returns
  have hts := atoms_spec (ws := wsJ1_indexOfChar_4cfef) B.pre
  have hown : s.vm.findClass RJ1 = some m.cls := findClass_of_methodNamed B.named
  have hlocks := B.notSynchronized
  obtain ⟨A, hAe⟩ : ∃ A : Nat → Prop, A = fun _ => False := ⟨_, rfl⟩
  rw [← hAe] at hQ hE
  have hS : va_S A s.heap s.heap [] := va_S.rf
  have hl := lv_entry [.ref (sV i), .int (nI k), .int 0, .int (nI (sLen i))] (n := 6) (Nat.le_of_ble_eq_true rfl)
  rw [lg_entry_eq]
  generalize (lg_sl [.ref (sV i), .int (nI k), .int 0, .int (nI (sLen i))] ++ List.replicate (6 - (lg_sl [.ref (sV i), .int (nI k), .int 0, .int (nI (sLen i))]).length) Slot.unset).toArray = ls at hl ⊢
  generalize hag : ([.ref (sV i), .int (nI k), .int 0, .int (nI (sLen i))] : List Value).toArray = args at hts hQ ⊢
  have hl : lv_has ls 6 [(0, .ref (sV i)), (1, .int (nI k)), (2, .int 0), (3, .int (nI (sLen i)))] := hl
  have hs7 := sLen_lt hi12
  refine lv_iload_n hx hb dJ1_indexOfChar_4cfef_0 rfl (lv_at hl 1 rfl) ?_
  refine lv_i2b (v := nI k) hx hb dJ1_indexOfChar_4cfef_1 (by_sm (by omega)) ?_
  refine lv_istore (lv' := [(4, .int (nI k)), (0, .ref (sV i)), (1, .int (nI k)), (2, .int 0), (3, .int (nI (sLen i)))]) hx hb dJ1_indexOfChar_4cfef_2 hl (by decide) rfl (fun ls hl => ?_)
  refine lv_iload_n hx hb dJ1_indexOfChar_4cfef_4 rfl (lv_at hl 3 rfl) ?_
  refine lv_istore (lv' := [(5, .int 0), (4, .int (nI k)), (0, .ref (sV i)), (1, .int (nI k)), (2, .int 0), (3, .int (nI (sLen i)))]) hx hb dJ1_indexOfChar_4cfef_5 hl (by decide) rfl (fun ls hl => ?_)
  have L7 : ∀ (nF : Nat) (j : Nat), sLen i - j < nF → (j ≤ sLen i) → (∀ q, q < j → ¬ (sTx i).getD q 0 = k) → ∀ (ls : Array Slot), lv_has ls 6 [(0, .ref (sV i)), (3, .int (nI (sLen i))), (4, .int (nI k)), (5, .int (nI j))] → W p l e ({ frames := 0, cells := 0, slots := 0, locals := 0 } : Room) s m args below meth c s.heap [] 0 0 Q (F0 m 7 ls []) := by
    intro nF
    induction nF with
    | zero => intro j hm; exact absurd hm (Nat.not_lt_zero _)
    | succ nF ih7 =>
      intro j hm hj hq9 ls hl
      refine lv_iload hx hb dJ1_indexOfChar_4cfef_7 (lv_at hl 3 rfl) ?_
      refine lv_iload_n hx hb dJ1_indexOfChar_4cfef_9 rfl (lv_at hl 1 rfl) ?_
      refine lv_icmp_ge (tgt := 31) hx hb dJ1_indexOfChar_4cfef_10 (by decide) (fun c_1 => ?_) (fun c_1 => ?_)
      · skip
        have c_1 : (sLen i) ≤ j := (nI_leI (a := (sLen i)) (b := j) (by omega) (by omega)).mp c_1
        refine lv_iconst (v := (-1)) hx hb dJ1_indexOfChar_4cfef_31 (by decide) ?_
        rw [hQ]
        exact W.iret (v := (-1)) hx hb hr (fun tQ htQ hWQ => ⟨(-1), rfl, by first | exact Or.inr ⟨_, by omega, rfl, by assumption⟩ | exact Or.inl ⟨rfl, fun q hq => hq9 q (by omega)⟩, by rw [htQ]⟩) (fun q hq => absurd hq List.not_mem_nil) dJ1_indexOfChar_4cfef_32
      · skip
        have c_1 : ¬ (sLen i) ≤ j := fun q => c_1 ((nI_leI (a := (sLen i)) (b := j) (by omega) (by omega)).mpr q)
        refine lv_aload_n hx hb dJ1_indexOfChar_4cfef_13 rfl (lv_at hl 0 rfl) ?_
        refine lv_iload hx hb dJ1_indexOfChar_4cfef_14 (lv_at hl 3 rfl) ?_
        refine va_tb (v := .int (nI ((sTx i).getD j 0))) hx hb (hE.2.1 i hi12).2.2.2 hS (vp_in_nI (n := j) (N := sLen i) (by omega) (by have := sLen_lt hi12; omega)) (by rw [nI_clamp (by omega)]) dJ1_indexOfChar_4cfef_16 ?_
        have hch := sTx_ch hi12 (k := j) (by omega)
        refine lv_iload hx hb dJ1_indexOfChar_4cfef_17 (lv_at hl 2 rfl) ?_
        refine lv_icmp_ne (tgt := 25) hx hb dJ1_indexOfChar_4cfef_19 (by decide) (fun c_2 => ?_) (fun c_2 => ?_)
        · skip
          have c_2 : ¬ ((sTx i).getD j 0) = k := fun q => c_2 ((nI_eq (a := ((sTx i).getD j 0)) (b := k) (by omega) (by omega)).mpr q)
          refine lv_iinc (v := nI (j + 1)) (lv' := [(5, .int (nI (j + 1))), (0, .ref (sV i)), (3, .int (nI (sLen i))), (4, .int (nI k))]) hx hb dJ1_indexOfChar_4cfef_25 hl (k := 3) rfl (nI_add j 1) (by decide) rfl (fun ls hl => ?_)
          refine lv_goto (tgt := 7) hx hb dJ1_indexOfChar_4cfef_28 (by decide) ?_
          exact ih7 (j + 1) (by omega) (by omega) (ix_step hq9 (by assumption)) ls (lv_sub hl [1, 2, 3, 0] rfl)
        · skip
          have c_2 : ((sTx i).getD j 0) = k := (nI_eq (a := ((sTx i).getD j 0)) (b := k) (by omega) (by omega)).mp c_2
          refine lv_iload hx hb dJ1_indexOfChar_4cfef_22 (lv_at hl 3 rfl) ?_
          rw [hQ]
          exact W.iret (v := nI j) hx hb hr (fun tQ htQ hWQ => ⟨nI j, rfl, by first | exact Or.inr ⟨_, by omega, rfl, by assumption⟩ | exact Or.inl ⟨rfl, fun q hq => hq9 q (by omega)⟩, by rw [htQ]⟩) (fun q hq => absurd hq List.not_mem_nil) dJ1_indexOfChar_4cfef_24
  exact L7 _ (0) (Nat.lt_succ_self _) (by omega) (fun q hq => absurd hq (Nat.not_lt_zero q)) ls (lv_sub hl [2, 5, 1, 0] rfl)

theorem kc_idx1_0 : (.methodLink RJ1 92 Lib.Math.max.name : Cond) ∈ wsJ1_indexOf_4cfef := kc_of 475 rfl rfl rfl
theorem kc_idx1_1 : (.static Lib.Math.max.name : Cond) ∈ wsJ1_indexOf_4cfef := kc_of 426 rfl rfl rfl
theorem kc_idx1_2 : (.initialized "java/lang/Math" : Cond) ∈ wsJ1_indexOf_4cfef := kc_of 77 rfl rfl rfl
theorem kc_idx1_3 : (.code Lib.Math.max.name Lib.Math.max.code 2 (some .int) : Cond) ∈ wsJ1_indexOf_4cfef := kc_of 427 rfl rfl rfl
theorem kc_idx1_4 : (.methodLink RJ1 38 Lib.Math.min.name : Cond) ∈ wsJ1_indexOf_4cfef := kc_of 476 rfl rfl rfl
theorem kc_idx1_5 : (.static Lib.Math.min.name : Cond) ∈ wsJ1_indexOf_4cfef := kc_of 477 rfl rfl rfl
theorem kc_idx1_6 : (.code Lib.Math.min.name Lib.Math.min.code 2 (some .int) : Cond) ∈ wsJ1_indexOf_4cfef := kc_of 478 rfl rfl rfl
set_option maxHeartbeats 4000000 in
set_option maxRecDepth 100000 in
theorem c_idx1 (l : Launch) (dC : Nat → ClassId) (dI : Nat → Nat → Nat) (sK sV : Nat → Nat) (i k : Nat) (hi12 : i < 12) (hk8 : k < 128) : Met l yJ1_indexOf_4cfef wsJ1_indexOf_4cfef ({ frames := 1, cells := 0, slots := 0, locals := 25 } : Room) (va_Pc [.ref (sV i), .int (nI k), .int 0, .int (nI (sLen i))] (fun U => Gs sK sV (fun _ => False) U)) (vp_Si (fun r => (r = -1 ∧ ∀ q, q < sLen i → ¬ (sTx i).getD q 0 = k) ∨ (∃ jq : Nat, jq < sLen i ∧ r = nI jq ∧ (sTx i).getD jq 0 = k))) 0 0 (fun _ => False) := by
  refine met_ofQ (cc := cJ1_indexOf_4cfef) (maxL := 4) (ret := (some .int)) (by decide) rfl ?_
  intro p e s m args below meth c s₁ Q B hml hv hQ
  obtain ⟨rfl, hE⟩ := hv
  have hx := B.exec
  have hb := B.bytes
  have hr := B.returns
  have hts := atoms_spec (ws := wsJ1_indexOf_4cfef) B.pre
  have hown : s.vm.findClass RJ1 = some m.cls := findClass_of_methodNamed B.named
  have hlocks := B.notSynchronized
  obtain ⟨A, hAe⟩ : ∃ A : Nat → Prop, A = fun _ => False := ⟨_, rfl⟩
  rw [← hAe] at hQ hE
  have hS : va_S A s.heap s.heap [] := va_S.rf
  have hl := lv_entry [.ref (sV i), .int (nI k), .int 0, .int (nI (sLen i))] (n := 4) (Nat.le_of_ble_eq_true rfl)
  rw [lg_entry_eq]
  generalize (lg_sl [.ref (sV i), .int (nI k), .int 0, .int (nI (sLen i))] ++ List.replicate (4 - (lg_sl [.ref (sV i), .int (nI k), .int 0, .int (nI (sLen i))]).length) Slot.unset).toArray = ls at hl ⊢
  generalize hag : ([.ref (sV i), .int (nI k), .int 0, .int (nI (sLen i))] : List Value).toArray = args at hts hQ ⊢
  have hl : lv_has ls 4 [(0, .ref (sV i)), (1, .int (nI k)), (2, .int 0), (3, .int (nI (sLen i)))] := hl
  have hs7 := sLen_lt hi12
  refine lv_iload_n hx hb dJ1_indexOf_4cfef_0 rfl (lv_at hl 1 rfl) ?_
  refine vp_callSi (va_runS (As := [.int (nI k)]) (rest := []) ⟨hx, hb, hml, hown, hts⟩ (c_canEnc l dC dI k hk8) (va_cwS 1 hts gJ1_indexOf_4cfef_J1_canEncode_9a6ad rfl rfl rfl hd_yJ1_canEncode_9a6ad.2 ⟨Nat.le_of_ble_eq_true rfl, Nat.le_of_ble_eq_true rfl⟩) ⟨fun a U g mk q => ⟨q.1, trivial⟩, fun U hU hW => ⟨rfl, trivial⟩⟩ rfl rfl hl.1 rfl (lv_room (Nat.le_of_ble_eq_true rfl)) dJ1_indexOf_4cfef_1 ⟨Nat.le_of_ble_eq_true rfl, Nat.le_of_ble_eq_true rfl⟩).run (fun r_1 hw_2 => ?_)
  refine qi_as (y := 1) (hw_2) ?_
  refine lv_if_ne (tgt := 9) hx hb dJ1_indexOf_4cfef_4 (by decide) (fun _ => ?_) (fun c_3 => absurd c_3 (by decide))
  refine lv_iload_n hx hb dJ1_indexOf_4cfef_9 rfl (lv_at hl 2 rfl) ?_
  refine lv_iconst (v := 0) hx hb dJ1_indexOf_4cfef_10 (by decide) ?_
  refine va_mmax hx hb (by rw [hml]; exact hl.1.symm) hown (hts (.methodLink RJ1 92 Lib.Math.max.name) kc_idx1_0) (hts (.static Lib.Math.max.name) kc_idx1_1) (hts (.initialized "java/lang/Math") kc_idx1_2) (hts (.code Lib.Math.max.name Lib.Math.max.code 2 (some .int)) kc_idx1_3) (Nat.le_of_ble_eq_true rfl) (Nat.le_of_ble_eq_true rfl) (Nat.le_of_ble_eq_true rfl) (Nat.le_of_ble_eq_true rfl) dJ1_indexOf_4cfef_11 ?_
  refine qi_as (y := 0) (by decide) ?_
  refine lv_istore_n (lv' := [(2, .int 0), (0, .ref (sV i)), (1, .int (nI k)), (3, .int (nI (sLen i)))]) hx hb dJ1_indexOf_4cfef_14 rfl hl (by decide) rfl (fun ls hl => ?_)
  refine lv_iload_n hx hb dJ1_indexOf_4cfef_15 rfl (lv_at hl 3 rfl) ?_
  refine lv_aload_n hx hb dJ1_indexOf_4cfef_16 rfl (lv_at hl 1 rfl) ?_
  refine va_tlen (v := nI (sLen i)) hx hb (hE.2.1 i hi12).2.2.2 hS rfl dJ1_indexOf_4cfef_17 ?_
  refine va_mmin hx hb (by rw [hml]; exact hl.1.symm) hown (hts (.methodLink RJ1 38 Lib.Math.min.name) kc_idx1_4) (hts (.static Lib.Math.min.name) kc_idx1_5) (hts (.initialized "java/lang/Math") kc_idx1_2) (hts (.code Lib.Math.min.name Lib.Math.min.code 2 (some .int)) kc_idx1_6) (Nat.le_of_ble_eq_true rfl) (Nat.le_of_ble_eq_true rfl) (Nat.le_of_ble_eq_true rfl) (Nat.le_of_ble_eq_true rfl) dJ1_indexOf_4cfef_18 ?_
  refine qi_as (y := nI (sLen i)) (ite_self _) ?_
  refine lv_istore_n (lv' := [(3, .int (nI (sLen i))), (2, .int 0), (0, .ref (sV i)), (1, .int (nI k))]) hx hb dJ1_indexOf_4cfef_21 rfl hl (by decide) rfl (fun ls hl => ?_)
  refine lv_iload_n hx hb dJ1_indexOf_4cfef_22 rfl (lv_at hl 1 rfl) ?_
  refine lv_iload_n hx hb dJ1_indexOf_4cfef_23 rfl (lv_at hl 0 rfl) ?_
  refine lv_icmp_lt (tgt := 29) hx hb dJ1_indexOf_4cfef_24 (by decide) (fun c_4 => ?_) (fun c_4 => ?_)
  · skip
    have c_4 : 0 < (sLen i) := (nI_ltI (a := 0) (b := (sLen i)) (by omega) (by omega)).mp c_4
    refine lv_aload_n hx hb dJ1_indexOf_4cfef_29 rfl (lv_at hl 2 rfl) ?_
    refine lv_iload_n hx hb dJ1_indexOf_4cfef_30 rfl (lv_at hl 3 rfl) ?_
    refine lv_iload_n hx hb dJ1_indexOf_4cfef_31 rfl (lv_at hl 1 rfl) ?_
    refine lv_iload_n hx hb dJ1_indexOf_4cfef_32 rfl (lv_at hl 0 rfl) ?_
    refine vp_callSi (va_runS (As := [.ref (sV i), .int (nI k), .int 0, .int (nI (sLen i))]) (rest := []) ⟨hx, hb, hml, hown, hts⟩ (c_idxChar l dC dI sK sV i k hi12 hk8) (va_cwS 4 hts gJ1_indexOf_4cfef_J1_indexOfChar_4cfef rfl rfl rfl hd_yJ1_indexOfChar_4cfef.2 ⟨Nat.le_of_ble_eq_true rfl, Nat.le_of_ble_eq_true rfl⟩) ⟨fun a U g mk q => by obtain ⟨q0, qhE⟩ := q; exact ⟨q0, qhE.same rfl rfl⟩, fun U hU hW => ⟨rfl, hE.callF hS hU hW⟩⟩ rfl rfl hl.1 rfl (lv_room (Nat.le_of_ble_eq_true rfl)) dJ1_indexOf_4cfef_33 ⟨Nat.le_of_ble_eq_true rfl, Nat.le_of_ble_eq_true rfl⟩).run (fun r_5 hw_6 => ?_)
    rw [hQ]
    exact W.iret (v := r_5) hx hb hr (fun tQ htQ hWQ => ⟨r_5, rfl, hw_6, by rw [htQ]⟩) (fun q hq => absurd hq List.not_mem_nil) dJ1_indexOf_4cfef_36
  · skip
    have c_4 : ¬ 0 < (sLen i) := fun q => c_4 ((nI_ltI (a := 0) (b := (sLen i)) (by omega) (by omega)).mpr q)
    refine lv_iconst (v := (-1)) hx hb dJ1_indexOf_4cfef_27 (by decide) ?_
    rw [hQ]
    exact W.iret (v := (-1)) hx hb hr (fun tQ htQ hWQ => ⟨(-1), rfl, Or.inl ⟨rfl, fun q hq => absurd hq (by omega)⟩, by rw [htQ]⟩) (fun q hq => absurd hq List.not_mem_nil) dJ1_indexOf_4cfef_28

theorem kc_idx2_0 : (.fieldLink RJ0 9 "java/lang/String" "value" "[B" : Cond) ∈ wsJ0_indexOf_7cf53 := kc_of 1576 rfl rfl rfl
set_option maxHeartbeats 4000000 in
set_option maxRecDepth 100000 in
theorem c_idx2 (l : Launch) (dC : Nat → ClassId) (dI : Nat → Nat → Nat) (sK sV : Nat → Nat) (i k : Nat) (hi12 : i < 12) (hk8 : k < 128) : Met l yJ0_indexOf_7cf53 wsJ0_indexOf_7cf53 ({ frames := 2, cells := 0, slots := 0, locals := 48 } : Room) (va_Pc [.ref (sK i), .int (nI k), .int 0] (fun U => Gs sK sV (fun _ => False) U)) (vp_Si (fun r => (r = -1 ∧ ∀ q, q < sLen i → ¬ (sTx i).getD q 0 = k) ∨ (∃ jq : Nat, jq < sLen i ∧ r = nI jq ∧ (sTx i).getD jq 0 = k))) 0 0 (fun _ => False) := by
  refine met_ofQ (cc := cJ0_indexOf_7cf53) (maxL := 3) (ret := (some .int)) (by decide) rfl ?_
  intro p e s m args below meth c s₁ Q B hml hv hQ
  obtain ⟨rfl, hE⟩ := hv
  have hx := B.exec
  have hb := B.bytes
  have hr := B.returns
  have hts := atoms_spec (ws := wsJ0_indexOf_7cf53) B.pre
  have hown : s.vm.findClass RJ0 = some m.cls := findClass_of_methodNamed B.named
  have hlocks := B.notSynchronized
  obtain ⟨A, hAe⟩ : ∃ A : Nat → Prop, A = fun _ => False := ⟨_, rfl⟩
  rw [← hAe] at hQ hE
  have hS : va_S A s.heap s.heap [] := va_S.rf
  have hl := lv_entry [.ref (sK i), .int (nI k), .int 0] (n := 3) (Nat.le_of_ble_eq_true rfl)
  rw [lg_entry_eq]
  generalize (lg_sl [.ref (sK i), .int (nI k), .int 0] ++ List.replicate (3 - (lg_sl [.ref (sK i), .int (nI k), .int 0]).length) Slot.unset).toArray = ls at hl ⊢
  generalize hag : ([.ref (sK i), .int (nI k), .int 0] : List Value).toArray = args at hts hQ ⊢
  have hl : lv_has ls 3 [(0, .ref (sK i)), (1, .int (nI k)), (2, .int 0)] := hl
  refine lv_aload_n hx hb dJ0_indexOf_7cf53_0 rfl (lv_at hl 0 rfl) ?_
  refine vp_callSi (va_runV (As := []) (rest := []) ⟨hx, hb, hml, hown, hts⟩ (c_latin l dC dI sK sV i hi12) (cwV 0 hts gJ0_indexOf_7cf53_J0_isLatin1_aae02 rfl rfl rfl hd_yJ0_isLatin1_aae02 ⟨Nat.le_of_ble_eq_true rfl, Nat.le_of_ble_eq_true rfl⟩) ⟨fun a U g mk q => by obtain ⟨q0, qhE⟩ := q; exact ⟨q0, qhE.same rfl rfl⟩, va_Orecv (hE.2.1 i hi12).1 hS, fun U hU hW => ⟨rfl, hE.callF hS hU hW⟩⟩ rfl rfl hl.1 rfl (lv_room (Nat.le_of_ble_eq_true rfl)) dJ0_indexOf_7cf53_1 ⟨Nat.le_of_ble_eq_true rfl, Nat.le_of_ble_eq_true rfl⟩).run (fun r_1 hw_2 => ?_)
  refine qi_as (y := 1) (hw_2) ?_
  refine lv_if_eq (tgt := 23) hx hb dJ0_indexOf_7cf53_4 (by decide) (fun c_3 => absurd c_3 (by decide)) (fun _ => ?_)
  refine lv_aload_n hx hb dJ0_indexOf_7cf53_7 rfl (lv_at hl 0 rfl) ?_
  refine vk_getf (o := "java/lang/String") (n := "value") (d := "[B") (v := .ref (sV i)) hx hb (hE.2.1 i hi12).2.2.1 hS hown (hts (.fieldLink RJ0 9 "java/lang/String" "value" "[B") kc_idx2_0) (fun _ h9 => h9) dJ0_indexOf_7cf53_8 ?_
  refine lv_iload_n hx hb dJ0_indexOf_7cf53_11 rfl (lv_at hl 1 rfl) ?_
  refine lv_iload_n hx hb dJ0_indexOf_7cf53_12 rfl (lv_at hl 2 rfl) ?_
  refine lv_aload_n hx hb dJ0_indexOf_7cf53_13 rfl (lv_at hl 0 rfl) ?_
  refine vp_callSi (va_runV (As := []) (rest := [.int 0, .int (nI k), .ref (sV i)]) ⟨hx, hb, hml, hown, hts⟩ (c_len l dC dI sK sV i hi12) (cwV 0 hts gJ0_indexOf_7cf53_J0_length_8abf5 rfl rfl rfl hd_yJ0_length_8abf5 ⟨Nat.le_of_ble_eq_true rfl, Nat.le_of_ble_eq_true rfl⟩) ⟨fun a U g mk q => by obtain ⟨q0, qhE⟩ := q; exact ⟨q0, qhE.same rfl rfl⟩, va_Orecv (hE.2.1 i hi12).1 hS, fun U hU hW => ⟨rfl, hE.callF hS hU hW⟩⟩ rfl rfl hl.1 rfl (lv_room (Nat.le_of_ble_eq_true rfl)) dJ0_indexOf_7cf53_14 ⟨Nat.le_of_ble_eq_true rfl, Nat.le_of_ble_eq_true rfl⟩).run (fun r_4 hw_5 => ?_)
  refine qi_as (y := nI (sLen i)) (hw_5) ?_
  refine vp_callSi (va_runS (As := [.ref (sV i), .int (nI k), .int 0, .int (nI (sLen i))]) (rest := []) ⟨hx, hb, hml, hown, hts⟩ (c_idx1 l dC dI sK sV i k hi12 hk8) (va_cwS 4 hts gJ0_indexOf_7cf53_J1_indexOf_4cfef rfl rfl rfl hd_yJ1_indexOf_4cfef.2 ⟨Nat.le_of_ble_eq_true rfl, Nat.le_of_ble_eq_true rfl⟩) ⟨fun a U g mk q => by obtain ⟨q0, qhE⟩ := q; exact ⟨q0, qhE.same rfl rfl⟩, fun U hU hW => ⟨rfl, hE.callF hS hU hW⟩⟩ rfl rfl hl.1 rfl (lv_room (Nat.le_of_ble_eq_true rfl)) dJ0_indexOf_7cf53_17 ⟨Nat.le_of_ble_eq_true rfl, Nat.le_of_ble_eq_true rfl⟩).run (fun r_6 hw_7 => ?_)
  refine lv_goto (tgt := 36) hx hb dJ0_indexOf_7cf53_20 (by decide) ?_
  rw [hQ]
  exact W.iret (v := r_6) hx hb hr (fun tQ htQ hWQ => ⟨r_6, rfl, hw_7, by rw [htQ]⟩) (fun q hq => absurd hq List.not_mem_nil) dJ0_indexOf_7cf53_36

set_option maxHeartbeats 4000000 in
set_option maxRecDepth 100000 in
theorem c_idx3 (l : Launch) (dC : Nat → ClassId) (dI : Nat → Nat → Nat) (sK sV : Nat → Nat) (i k : Nat) (hi12 : i < 12) (hk8 : k < 128) : Met l yJ0_indexOf_0f7a4 wsJ0_indexOf_0f7a4 ({ frames := 3, cells := 0, slots := 0, locals := 70 } : Room) (va_Pc [.ref (sK i), .int (nI k)] (fun U => Gs sK sV (fun _ => False) U)) (vp_Si (fun r => (r = -1 ∧ ∀ q, q < sLen i → ¬ (sTx i).getD q 0 = k) ∨ (∃ jq : Nat, jq < sLen i ∧ r = nI jq ∧ (sTx i).getD jq 0 = k))) 0 0 (fun _ => False) := by
  refine met_ofQ (cc := cJ0_indexOf_0f7a4) (maxL := 2) (ret := (some .int)) (by decide) rfl ?_
  intro p e s m args below meth c s₁ Q B hml hv hQ
  obtain ⟨rfl, hE⟩ := hv
  have hx := B.exec
  have hb := B.bytes
  have hr := B.returns
  have hts := atoms_spec (ws := wsJ0_indexOf_0f7a4) B.pre
  have hown : s.vm.findClass RJ0 = some m.cls := findClass_of_methodNamed B.named
  have hlocks := B.notSynchronized
  obtain ⟨A, hAe⟩ : ∃ A : Nat → Prop, A = fun _ => False := ⟨_, rfl⟩
  rw [← hAe] at hQ hE
  have hS : va_S A s.heap s.heap [] := va_S.rf
  have hl := lv_entry [.ref (sK i), .int (nI k)] (n := 2) (Nat.le_of_ble_eq_true rfl)
  rw [lg_entry_eq]
  generalize (lg_sl [.ref (sK i), .int (nI k)] ++ List.replicate (2 - (lg_sl [.ref (sK i), .int (nI k)]).length) Slot.unset).toArray = ls at hl ⊢
  generalize hag : ([.ref (sK i), .int (nI k)] : List Value).toArray = args at hts hQ ⊢
  have hl : lv_has ls 2 [(0, .ref (sK i)), (1, .int (nI k))] := hl
  refine lv_aload_n hx hb dJ0_indexOf_0f7a4_0 rfl (lv_at hl 0 rfl) ?_
  refine lv_iload_n hx hb dJ0_indexOf_0f7a4_1 rfl (lv_at hl 1 rfl) ?_
  refine lv_iconst (v := 0) hx hb dJ0_indexOf_0f7a4_2 (by decide) ?_
  refine vp_callSi (va_runV (As := [.int (nI k), .int 0]) (rest := []) ⟨hx, hb, hml, hown, hts⟩ (c_idx2 l dC dI sK sV i k hi12 hk8) (cwV 2 hts gJ0_indexOf_0f7a4_J0_indexOf_7cf53 rfl rfl rfl hd_yJ0_indexOf_7cf53 ⟨Nat.le_of_ble_eq_true rfl, Nat.le_of_ble_eq_true rfl⟩) ⟨fun a U g mk q => by obtain ⟨q0, qhE⟩ := q; exact ⟨q0, qhE.same rfl rfl⟩, va_Orecv (hE.2.1 i hi12).1 hS, fun U hU hW => ⟨rfl, hE.callF hS hU hW⟩⟩ rfl rfl hl.1 rfl (lv_room (Nat.le_of_ble_eq_true rfl)) dJ0_indexOf_0f7a4_3 ⟨Nat.le_of_ble_eq_true rfl, Nat.le_of_ble_eq_true rfl⟩).run (fun r_1 hw_2 => ?_)
  rw [hQ]
  exact W.iret (v := r_1) hx hb hr (fun tQ htQ hWQ => ⟨r_1, rfl, hw_2, by rw [htQ]⟩) (fun q hq => absurd hq List.not_mem_nil) dJ0_indexOf_0f7a4_6

set_option maxHeartbeats 4000000 in
set_option maxRecDepth 100000 in
theorem c_text0 (l : Launch) (dC : Nat → ClassId) (dI : Nat → Nat → Nat) (sK sV : Nat → Nat) : Met l yX5_textOf wsX5_textOf ({ frames := 0, cells := 0, slots := 0, locals := 0 } : Room) (va_Pc [.int 0] (fun U => Gs sK sV (fun _ => False) U)) (va_Sq (fun r => r = some (sK 0))) 0 0 (fun _ => False) := by
  refine met_ofQ (cc := cX5_textOf) (maxL := 1) (ret := (some (.object "java/lang/String"))) (by decide) rfl ?_
  intro p e s m args below meth c s₁ Q B hml hv hQ
  obtain ⟨rfl, hE⟩ := hv
  have hx := B.exec
  have hb := B.bytes
  have hr := B.returns
  have hts := atoms_spec (ws := wsX5_textOf) B.pre
  have hown : s.vm.findClass RX5 = some m.cls := findClass_of_methodNamed B.named
  have hlocks := B.notSynchronized
  obtain ⟨A, hAe⟩ : ∃ A : Nat → Prop, A = fun _ => False := ⟨_, rfl⟩
  rw [← hAe] at hQ hE
  have hS : va_S A s.heap s.heap [] := va_S.rf
  have hl := lv_entry [.int 0] (n := 1) (Nat.le_of_ble_eq_true rfl)
  rw [lg_entry_eq]
  generalize (lg_sl [.int 0] ++ List.replicate (1 - (lg_sl [.int 0]).length) Slot.unset).toArray = ls at hl ⊢
  generalize hag : ([.int 0] : List Value).toArray = args at hts hQ ⊢
  have hl : lv_has ls 1 [(0, .int 0)] := hl
  refine lv_iload_n hx hb dX5_textOf_0 rfl (lv_at hl 0 rfl) ?_
  refine lv_tableIn (tgt := 28) hx hb dX5_textOf_1 (by decide) (by decide) rfl (by decide) ?_
  refine va_ldcS hx hb hown (show vk_R RX5 81 "see " (sK 0) s from hE.1 0 (by decide)) dX5_textOf_28 ?_
  rw [hQ]
  exact W.aret (v := .ref (sK 0)) hx hb hr (Or.inl ⟨_, rfl⟩) (Or.inr ⟨_, rfl⟩) (fun tQ htQ hWQ => ⟨some (sK 0), rfl, rfl, by rw [htQ]⟩) (fun q hq => absurd hq List.not_mem_nil) dX5_textOf_30

set_option maxHeartbeats 4000000 in
set_option maxRecDepth 100000 in
theorem c_text1 (l : Launch) (dC : Nat → ClassId) (dI : Nat → Nat → Nat) (sK sV : Nat → Nat) : Met l yX5_textOf wsX5_textOf ({ frames := 0, cells := 0, slots := 0, locals := 0 } : Room) (va_Pc [.int 1] (fun U => Gs sK sV (fun _ => False) U)) (va_Sq (fun r => r = some (sK 1))) 0 0 (fun _ => False) := by
  refine met_ofQ (cc := cX5_textOf) (maxL := 1) (ret := (some (.object "java/lang/String"))) (by decide) rfl ?_
  intro p e s m args below meth c s₁ Q B hml hv hQ
  obtain ⟨rfl, hE⟩ := hv
  have hx := B.exec
  have hb := B.bytes
  have hr := B.returns
  have hts := atoms_spec (ws := wsX5_textOf) B.pre
  have hown : s.vm.findClass RX5 = some m.cls := findClass_of_methodNamed B.named
  have hlocks := B.notSynchronized
  obtain ⟨A, hAe⟩ : ∃ A : Nat → Prop, A = fun _ => False := ⟨_, rfl⟩
  rw [← hAe] at hQ hE
  have hS : va_S A s.heap s.heap [] := va_S.rf
  have hl := lv_entry [.int 1] (n := 1) (Nat.le_of_ble_eq_true rfl)
  rw [lg_entry_eq]
  generalize (lg_sl [.int 1] ++ List.replicate (1 - (lg_sl [.int 1]).length) Slot.unset).toArray = ls at hl ⊢
  generalize hag : ([.int 1] : List Value).toArray = args at hts hQ ⊢
  have hl : lv_has ls 1 [(0, .int 1)] := hl
  refine lv_iload_n hx hb dX5_textOf_0 rfl (lv_at hl 0 rfl) ?_
  refine lv_tableIn (tgt := 31) hx hb dX5_textOf_1 (by decide) (by decide) rfl (by decide) ?_
  refine va_ldcS hx hb hown (show vk_R RX5 83 "hide " (sK 1) s from hE.1 1 (by decide)) dX5_textOf_31 ?_
  rw [hQ]
  exact W.aret (v := .ref (sK 1)) hx hb hr (Or.inl ⟨_, rfl⟩) (Or.inr ⟨_, rfl⟩) (fun tQ htQ hWQ => ⟨some (sK 1), rfl, rfl, by rw [htQ]⟩) (fun q hq => absurd hq List.not_mem_nil) dX5_textOf_33

set_option maxHeartbeats 4000000 in
set_option maxRecDepth 100000 in
theorem c_text2 (l : Launch) (dC : Nat → ClassId) (dI : Nat → Nat → Nat) (sK sV : Nat → Nat) : Met l yX5_textOf wsX5_textOf ({ frames := 0, cells := 0, slots := 0, locals := 0 } : Room) (va_Pc [.int 2] (fun U => Gs sK sV (fun _ => False) U)) (va_Sq (fun r => r = some (sK 2))) 0 0 (fun _ => False) := by
  refine met_ofQ (cc := cX5_textOf) (maxL := 1) (ret := (some (.object "java/lang/String"))) (by decide) rfl ?_
  intro p e s m args below meth c s₁ Q B hml hv hQ
  obtain ⟨rfl, hE⟩ := hv
  have hx := B.exec
  have hb := B.bytes
  have hr := B.returns
  have hts := atoms_spec (ws := wsX5_textOf) B.pre
  have hown : s.vm.findClass RX5 = some m.cls := findClass_of_methodNamed B.named
  have hlocks := B.notSynchronized
  obtain ⟨A, hAe⟩ : ∃ A : Nat → Prop, A = fun _ => False := ⟨_, rfl⟩
  rw [← hAe] at hQ hE
  have hS : va_S A s.heap s.heap [] := va_S.rf
  have hl := lv_entry [.int 2] (n := 1) (Nat.le_of_ble_eq_true rfl)
  rw [lg_entry_eq]
  generalize (lg_sl [.int 2] ++ List.replicate (1 - (lg_sl [.int 2]).length) Slot.unset).toArray = ls at hl ⊢
  generalize hag : ([.int 2] : List Value).toArray = args at hts hQ ⊢
  have hl : lv_has ls 1 [(0, .int 2)] := hl
  refine lv_iload_n hx hb dX5_textOf_0 rfl (lv_at hl 0 rfl) ?_
  refine lv_tableIn (tgt := 34) hx hb dX5_textOf_1 (by decide) (by decide) rfl (by decide) ?_
  refine va_ldcS hx hb hown (show vk_R RX5 85 "sight " (sK 2) s from hE.1 2 (by decide)) dX5_textOf_34 ?_
  rw [hQ]
  exact W.aret (v := .ref (sK 2)) hx hb hr (Or.inl ⟨_, rfl⟩) (Or.inr ⟨_, rfl⟩) (fun tQ htQ hWQ => ⟨some (sK 2), rfl, rfl, by rw [htQ]⟩) (fun q hq => absurd hq List.not_mem_nil) dX5_textOf_36

set_option maxHeartbeats 4000000 in
set_option maxRecDepth 100000 in
theorem c_text3 (l : Launch) (dC : Nat → ClassId) (dI : Nat → Nat → Nat) (sK sV : Nat → Nat) : Met l yX5_textOf wsX5_textOf ({ frames := 0, cells := 0, slots := 0, locals := 0 } : Room) (va_Pc [.int 3] (fun U => Gs sK sV (fun _ => False) U)) (va_Sq (fun r => r = some (sK 3))) 0 0 (fun _ => False) := by
  refine met_ofQ (cc := cX5_textOf) (maxL := 1) (ret := (some (.object "java/lang/String"))) (by decide) rfl ?_
  intro p e s m args below meth c s₁ Q B hml hv hQ
  obtain ⟨rfl, hE⟩ := hv
  have hx := B.exec
  have hb := B.bytes
  have hr := B.returns
  have hts := atoms_spec (ws := wsX5_textOf) B.pre
  have hown : s.vm.findClass RX5 = some m.cls := findClass_of_methodNamed B.named
  have hlocks := B.notSynchronized
  obtain ⟨A, hAe⟩ : ∃ A : Nat → Prop, A = fun _ => False := ⟨_, rfl⟩
  rw [← hAe] at hQ hE
  have hS : va_S A s.heap s.heap [] := va_S.rf
  have hl := lv_entry [.int 3] (n := 1) (Nat.le_of_ble_eq_true rfl)
  rw [lg_entry_eq]
  generalize (lg_sl [.int 3] ++ List.replicate (1 - (lg_sl [.int 3]).length) Slot.unset).toArray = ls at hl ⊢
  generalize hag : ([.int 3] : List Value).toArray = args at hts hQ ⊢
  have hl : lv_has ls 1 [(0, .int 3)] := hl
  refine lv_iload_n hx hb dX5_textOf_0 rfl (lv_at hl 0 rfl) ?_
  refine lv_tableOut (tgt := 37) hx hb dX5_textOf_1 (by decide) (by decide) ?_
  refine va_ldcS hx hb hown (show vk_R RX5 87 "drift " (sK 3) s from hE.1 3 (by decide)) dX5_textOf_37 ?_
  rw [hQ]
  exact W.aret (v := .ref (sK 3)) hx hb hr (Or.inl ⟨_, rfl⟩) (Or.inr ⟨_, rfl⟩) (fun tQ htQ hWQ => ⟨some (sK 3), rfl, rfl, by rw [htQ]⟩) (fun q hq => absurd hq List.not_mem_nil) dX5_textOf_39

theorem kc_xSign_0 : ∀ w ∈ wsX50, w ∈ wsX5_sign := fun w h => List.mem_cons_of_mem _ (gin_wsX50 w h)
theorem kc_xSign_1 : (.fieldLink RX5 34 "MistHeaps$Hill" "at" "I" : Cond) ∈ wsX5_sign := kc_of 124 rfl rfl rfl
theorem kc_xSign_2 : (.fieldLink RX5 31 "MistHeaps$Hill" "size" "I" : Cond) ∈ wsX5_sign := kc_of 123 rfl rfl rfl
theorem kc_xSign_3 : (.fieldLink RX5 28 "MistHeaps$Hill" "tape" "[I" : Cond) ∈ wsX5_sign := kc_of 122 rfl rfl rfl
set_option maxHeartbeats 4000000 in
set_option maxRecDepth 100000 in
theorem c_xSign (l : Launch) (dC : Nat → ClassId) (dI : Nat → Nat → Nat) (bl : Nat) (aTp : Nat) (eW : Nat) (eA : Nat) (eE : Nat) (eC : Nat) (ecl : Nat) (ecd : Nat) (esg : Int32) (cTp : ClassId) (fTp : Nat → Int32) (ez : Nat) (ep : Nat) (em : Nat) (ss : Nat → Nat) (hez : ez ≤ 100) (hep : ep ≤ 200) (gX : TX fTp ez ss) : Met l yX5_sign wsX5_sign ({ frames := 0, cells := 0, slots := 0, locals := 0 } : Room) (va_Pc [.ref bl] (fun U => va_P (dC, dI) vwCl [(zo7iirrrririii bl esg (nI ecl) eW eA eE eC (nI ecd) aTp (nI ez) (nI ep) (nI em)), (zaI aTp cTp 100 fTp)] U.heap ∧ va_K (dC, dI) vwCl [(cTp, .int)] U)) (vp_Si (fun r => r = nI (ss ep))) 0 0 (fun _ => False) := by
  refine met_ofQ (cc := cX5_sign) (maxL := 1) (ret := (some .int)) (by decide) rfl ?_
  intro p e s m args below meth c s₁ Q B hml hv hQ
  obtain ⟨rfl, hP, hK⟩ := hv
  have hx := B.exec
  have hb := B.bytes
  have hr := B.returns
  have hts := atoms_spec (ws := wsX5_sign) B.pre
  have hown : s.vm.findClass RX5 = some m.cls := findClass_of_methodNamed B.named
  have hlocks := B.notSynchronized
  obtain ⟨A, hAe⟩ : ∃ A : Nat → Prop, A = fun _ => False := ⟨_, rfl⟩
  rw [← hAe] at hQ
  have hS : va_S A s.heap s.heap [] := va_S.rf
  have hl := lv_entry [.ref bl] (n := 1) (Nat.le_of_ble_eq_true rfl)
  rw [lg_entry_eq]
  generalize (lg_sl [.ref bl] ++ List.replicate (1 - (lg_sl [.ref bl]).length) Slot.unset).toArray = ls at hl ⊢
  generalize hag : ([.ref bl] : List Value).toArray = args at hts hQ ⊢
  have hl : lv_has ls 1 [(0, .ref bl)] := hl
  refine lv_aload_n hx hb dX5_sign_0 rfl (lv_at hl 0 rfl) ?_
  refine va_get (D := (dC, dI)) (ci := 7) (v := .int (nI ep)) (C := RX5) (T := TX5) (N := 11) hx hb hts kc_xSign_0 hown hK hP 0 rfl rfl 9 (by decide) (hts (.fieldLink RX5 34 "MistHeaps$Hill" "at" "I") kc_xSign_1) (fun _ h9 => h9) rfl dX5_sign_1 ?_
  refine lv_aload_n hx hb dX5_sign_4 rfl (lv_at hl 0 rfl) ?_
  refine va_get (D := (dC, dI)) (ci := 7) (v := .int (nI ez)) (C := RX5) (T := TX5) (N := 11) hx hb hts kc_xSign_0 hown hK hP 0 rfl rfl 8 (by decide) (hts (.fieldLink RX5 31 "MistHeaps$Hill" "size" "I") kc_xSign_2) (fun _ h9 => h9) rfl dX5_sign_5 ?_
  refine lv_icmp_ge (tgt := 23) hx hb dX5_sign_8 (by decide) (fun c_1 => ?_) (fun c_1 => ?_)
  · skip
    have c_1 : ez ≤ ep := (nI_leI (a := ez) (b := ep) (by omega) (by omega)).mp c_1
    refine lv_iconst (v := 0) hx hb dX5_sign_23 (by decide) ?_
    rw [hQ]
    exact W.iret (v := 0) hx hb hr (fun tQ htQ hWQ => ⟨0, rfl, by first | rfl | (rw [gX.2.1 ep (by omega)]; rfl), by rw [htQ]⟩) (fun q hq => absurd hq List.not_mem_nil) dX5_sign_24
  · skip
    have c_1 : ¬ ez ≤ ep := fun q => c_1 ((nI_leI (a := ez) (b := ep) (by omega) (by omega)).mpr q)
    refine lv_aload_n hx hb dX5_sign_11 rfl (lv_at hl 0 rfl) ?_
    refine va_get (D := (dC, dI)) (ci := 7) (v := .ref aTp) (C := RX5) (T := TX5) (N := 11) hx hb hts kc_xSign_0 hown hK hP 0 rfl rfl 7 (by decide) (hts (.fieldLink RX5 28 "MistHeaps$Hill" "tape" "[I") kc_xSign_3) (fun _ h9 => h9) rfl dX5_sign_12 ?_
    refine lv_aload_n hx hb dX5_sign_15 rfl (lv_at hl 0 rfl) ?_
    refine va_get (D := (dC, dI)) (ci := 7) (v := .int (nI ep)) (C := RX5) (T := TX5) (N := 11) hx hb hts kc_xSign_0 hown hK hP 0 rfl rfl 9 (by decide) (hts (.fieldLink RX5 34 "MistHeaps$Hill" "at" "I") kc_xSign_1) (fun _ h9 => h9) rfl dX5_sign_16 ?_
    refine va_iald hx hb hK hP 1 0 rfl rfl (vp_in_nI (n := ep) (N := 100) (by omega) (by omega)) dX5_sign_19 ?_
    refine qi_as (y := nI (ss ep)) ((show fTp (nI ep : Int32).toNatClampNeg = fTp ep from by rw [nI_clamp (by omega)]).trans (gX.1 ep (by omega))) ?_
    refine lv_goto (tgt := 24) hx hb dX5_sign_20 (by decide) ?_
    rw [hQ]
    exact W.iret (v := nI (ss ep)) hx hb hr (fun tQ htQ hWQ => ⟨nI (ss ep), rfl, by first | rfl | (rw [gX.2.1 ep (by omega)]; rfl), by rw [htQ]⟩) (fun q hq => absurd hq List.not_mem_nil) dX5_sign_24

set_option maxHeartbeats 4000000 in
set_option maxRecDepth 100000 in
theorem c_xDigit (l : Launch) (dC : Nat → ClassId) (dI : Nat → Nat → Nat) (k : Nat) (hk8 : k < 128) : Met l yX5_isDigit wsX5_isDigit ({ frames := 0, cells := 0, slots := 0, locals := 0 } : Room) (va_Pc [.int (nI k)] (fun U => True)) (vp_Si (fun r => (r = 1 ∧ isD k) ∨ (r = 0 ∧ ¬ isD k))) 0 0 (fun _ => False) := by
  refine met_ofQ (cc := cX5_isDigit) (maxL := 1) (ret := (some .boolean)) (by decide) rfl ?_
  intro p e s m args below meth c s₁ Q B hml hv hQ
  obtain ⟨rfl, -⟩ := hv
  have hx := B.exec
  have hb := B.bytes
  have hr := B.returns
  have hts := atoms_spec (ws := wsX5_isDigit) B.pre
  have hown : s.vm.findClass RX5 = some m.cls := findClass_of_methodNamed B.named
  have hlocks := B.notSynchronized
  obtain ⟨A, hAe⟩ : ∃ A : Nat → Prop, A = fun _ => False := ⟨_, rfl⟩
  rw [← hAe] at hQ
  have hS : va_S A s.heap s.heap [] := va_S.rf
  have hl := lv_entry [.int (nI k)] (n := 1) (Nat.le_of_ble_eq_true rfl)
  rw [lg_entry_eq]
  generalize (lg_sl [.int (nI k)] ++ List.replicate (1 - (lg_sl [.int (nI k)]).length) Slot.unset).toArray = ls at hl ⊢
  generalize hag : ([.int (nI k)] : List Value).toArray = args at hts hQ ⊢
  have hl : lv_has ls 1 [(0, .int (nI k))] := hl
  refine lv_iload_n hx hb dX5_isDigit_0 rfl (lv_at hl 0 rfl) ?_
  refine lv_bipush (v := 48) hx hb dX5_isDigit_1 (by decide) ?_
  refine lv_icmp_lt (tgt := 16) hx hb dX5_isDigit_3 (by decide) (fun c_1 => ?_) (fun c_1 => ?_)
  · skip
    have c_1 : k < 48 := (nI_ltI (a := k) (b := 48) (by omega) (by omega)).mp c_1
    refine lv_iconst (v := 0) hx hb dX5_isDigit_16 (by decide) ?_
    rw [hQ]
    exact W.zret (v := 0) hx hb hr rfl (fun tQ htQ hWQ => ⟨0, rfl, by first | exact Or.inl ⟨rfl, by omega, by omega⟩ | exact Or.inr ⟨rfl, by omega⟩, by rw [htQ]⟩) (fun q hq => absurd hq List.not_mem_nil) dX5_isDigit_17
  · skip
    have c_1 : ¬ k < 48 := fun q => c_1 ((nI_ltI (a := k) (b := 48) (by omega) (by omega)).mpr q)
    refine lv_iload_n hx hb dX5_isDigit_6 rfl (lv_at hl 0 rfl) ?_
    refine lv_bipush (v := 57) hx hb dX5_isDigit_7 (by decide) ?_
    refine lv_icmp_gt (tgt := 16) hx hb dX5_isDigit_9 (by decide) (fun c_2 => ?_) (fun c_2 => ?_)
    · skip
      have c_2 : 57 < k := (nI_ltI (a := 57) (b := k) (by omega) (by omega)).mp c_2
      refine lv_iconst (v := 0) hx hb dX5_isDigit_16 (by decide) ?_
      rw [hQ]
      exact W.zret (v := 0) hx hb hr rfl (fun tQ htQ hWQ => ⟨0, rfl, by first | exact Or.inl ⟨rfl, by omega, by omega⟩ | exact Or.inr ⟨rfl, by omega⟩, by rw [htQ]⟩) (fun q hq => absurd hq List.not_mem_nil) dX5_isDigit_17
    · skip
      have c_2 : ¬ 57 < k := fun q => c_2 ((nI_ltI (a := 57) (b := k) (by omega) (by omega)).mpr q)
      refine lv_iconst (v := 1) hx hb dX5_isDigit_12 (by decide) ?_
      refine lv_goto (tgt := 17) hx hb dX5_isDigit_13 (by decide) ?_
      rw [hQ]
      exact W.zret (v := 1) hx hb hr rfl (fun tQ htQ hWQ => ⟨1, rfl, by first | exact Or.inl ⟨rfl, by omega, by omega⟩ | exact Or.inr ⟨rfl, by omega⟩, by rw [htQ]⟩) (fun q hq => absurd hq List.not_mem_nil) dX5_isDigit_17

theorem kc_xReadSign_0 : ∀ w ∈ wsX50, w ∈ wsX5_readSign := fun w h => List.mem_cons_of_mem _ (gin_wsX50 w h)
theorem kc_xReadSign_1 : (.fieldLink RX5 34 "MistHeaps$Hill" "at" "I" : Cond) ∈ wsX5_readSign := kc_of 124 rfl rfl rfl
set_option maxHeartbeats 4000000 in
set_option maxRecDepth 100000 in
theorem c_xReadSign (l : Launch) (dC : Nat → ClassId) (dI : Nat → Nat → Nat) (bl : Nat) (aTp : Nat) (eW : Nat) (eA : Nat) (eE : Nat) (eC : Nat) (k : Nat) (ecl : Nat) (ecd : Nat) (esg : Int32) (cTp : ClassId) (fTp : Nat → Int32) (ez : Nat) (ep : Nat) (em : Nat) (ss : Nat → Nat) (sz : Nat) (hez : ez ≤ 100) (hep : ep ≤ 200) (hk0 : 0 < k) (hk9 : k < 1000) (gX : TX fTp ez ss) : Met l yX5_readSign wsX5_readSign ({ frames := 1, cells := 0, slots := 0, locals := 20 } : Room) (va_Pc [.ref bl, .int (nI k)] (fun U => U.heap.size = sz ∧ va_P (dC, dI) vwCl [(zo7iirrrririii bl esg (nI ecl) eW eA eE eC (nI ecd) aTp (nI ez) (nI ep) (nI em)), (zaI aTp cTp 100 fTp)] U.heap ∧ va_K (dC, dI) vwCl [(cTp, .int)] U ∧ va_D (fun _ => True) [(zo7iirrrririii bl esg (nI ecl) eW eA eE eC (nI ecd) aTp (nI ez) (nI ep) (nI em)), (zaI aTp cTp 100 fTp)])) (va_Qi (fun (r : Int32) (u : Nat) => match u with | ep9 => (r = 1 ∧ ss ep = k ∧ ep < ez ∧ ep9 = ep + 1) ∨ (r = 0 ∧ ¬ ss ep = k ∧ ep9 = ep)) (fun (u : Nat) (t : State) => match u with | ep9 => va_P (dC, dI) vwCl [(zo7iirrrririii bl esg (nI ecl) eW eA eE eC (nI ecd) aTp (nI ez) (nI ep9) (nI em)), (zaI aTp cTp 100 fTp)] t.heap ∧ va_K (dC, dI) vwCl [(cTp, .int)] t ∧ va_D (va_A [(zo7iirrrririii bl esg (nI ecl) eW eA eE eC (nI ecd) aTp (nI ez) (nI ep) (nI em)), (zaI aTp cTp 100 fTp)] sz) [(zo7iirrrririii bl esg (nI ecl) eW eA eE eC (nI ecd) aTp (nI ez) (nI ep9) (nI em)), (zaI aTp cTp 100 fTp)]) (va_A [(zo7iirrrririii bl esg (nI ecl) eW eA eE eC (nI ecd) aTp (nI ez) (nI ep) (nI em)), (zaI aTp cTp 100 fTp)] sz)) 0 0 (va_A [(zo7iirrrririii bl esg (nI ecl) eW eA eE eC (nI ecd) aTp (nI ez) (nI ep) (nI em)), (zaI aTp cTp 100 fTp)] sz) := by
  refine met_ofQ (cc := cX5_readSign) (maxL := 2) (ret := (some .boolean)) (by decide) rfl ?_
  intro p e s m args below meth c s₁ Q B hml hv hQ
  obtain ⟨rfl, hsz, hP, hK, hD0⟩ := hv
  have hx := B.exec
  have hb := B.bytes
  have hr := B.returns
  have hts := atoms_spec (ws := wsX5_readSign) B.pre
  have hown : s.vm.findClass RX5 = some m.cls := findClass_of_methodNamed B.named
  have hlocks := B.notSynchronized
  subst hsz
  have hD := hD0.self (sz := s.heap.size)
  generalize hAe : va_A [(zo7iirrrririii bl esg (nI ecl) eW eA eE eC (nI ecd) aTp (nI ez) (nI ep) (nI em)), (zaI aTp cTp 100 fTp)] s.heap.size = A at hD hQ ⊢
  have hA : ∀ q : Nat, s.heap.size ≤ q → A q := fun q h => by rw [← hAe]; exact Or.inr h
  have hS : va_S A s.heap s.heap [] := va_S.rf
  have hl := lv_entry [.ref bl, .int (nI k)] (n := 2) (Nat.le_of_ble_eq_true rfl)
  rw [lg_entry_eq]
  generalize (lg_sl [.ref bl, .int (nI k)] ++ List.replicate (2 - (lg_sl [.ref bl, .int (nI k)]).length) Slot.unset).toArray = ls at hl ⊢
  generalize hag : ([.ref bl, .int (nI k)] : List Value).toArray = args at hts hQ ⊢
  have hl : lv_has ls 2 [(0, .ref bl), (1, .int (nI k))] := hl
  obtain ⟨H, hH⟩ : ∃ H : Heap, H = s.heap := ⟨_, rfl⟩
  rw [← hH] at hP
  rw [← hH]
  have hS : va_S A s.heap H [] := by rw [hH]; exact hS
  obtain ⟨locs, hlo⟩ : ∃ L : List Loc, L = [] := ⟨_, rfl⟩
  rw [← hlo] at hS
  rw [← hlo]
  clear hH hlo
  refine lv_aload_n hx hb dX5_readSign_0 rfl (lv_at hl 0 rfl) ?_
  have hPc := hP.sub (ws' := [(zo7iirrrririii bl esg (nI ecl) eW eA eE eC (nI ecd) aTp (nI ez) (nI ep) (nI em)), (zaI aTp cTp 100 fTp)]) [0, 1] rfl
  have hKc := hK.sub (tys' := [(cTp, .int)]) [0] rfl
  refine vp_callSi (va_runV (As := []) (rest := []) ⟨hx, hb, hml, hown, hts⟩ (c_xSign l dC dI bl aTp eW eA eE eC ecl ecd esg cTp fTp ez ep em ss (hez) (by omega) (gX)) (cwV 0 hts gX5_readSign_X5_sign rfl rfl rfl hd_yX5_sign ⟨Nat.le_of_ble_eq_true rfl, Nat.le_of_ble_eq_true rfl⟩) ⟨fun a U g mk q => by obtain ⟨q0, qP, qK⟩ := q; exact ⟨q0, qP, va_K.moved (u := U) (U := U.calling g mk a) (Vm.Alike.refl U.vm) qK⟩, va_recv hK hP (ci := 7) (q := (RX5, TX5, 11)) (q0 := 0) rfl rfl, fun U hU hW => ⟨rfl, by rw [hU]; exact hPc, va_K.moved hW.alike hKc⟩⟩ rfl rfl hl.1 rfl (lv_room (Nat.le_of_ble_eq_true rfl)) dX5_readSign_1 ⟨Nat.le_of_ble_eq_true rfl, Nat.le_of_ble_eq_true rfl⟩).run (fun r_1 hw_2 => ?_)
  obtain rfl := hw_2
  have hs8 := gX.2.2 (ep)
  refine lv_iload_n hx hb dX5_readSign_4 rfl (lv_at hl 1 rfl) ?_
  refine lv_icmp_eq (tgt := 10) hx hb dX5_readSign_5 (by decide) (fun c_3 => ?_) (fun c_3 => ?_)
  · skip
    have c_3 : (ss ep) = k := (nI_eq (a := (ss ep)) (b := k) (by omega) (by omega)).mp c_3
    refine lv_aload_n hx hb dX5_readSign_10 rfl (lv_at hl 0 rfl) ?_
    refine lv_dup hx hb dX5_readSign_11 rfl ?_
    refine va_get (D := (dC, dI)) (ci := 7) (v := .int (nI ep)) (C := RX5) (T := TX5) (N := 11) hx hb hts kc_xReadSign_0 hown hK hP 0 rfl rfl 9 (by decide) (hts (.fieldLink RX5 34 "MistHeaps$Hill" "at" "I") kc_xReadSign_1) (fun _ h9 => h9) rfl dX5_readSign_12 ?_
    refine lv_iconst (v := 1) hx hb dX5_readSign_15 (by decide) ?_
    refine lv_iadd hx hb dX5_readSign_16 ?_
    refine qi_as (y := nI (ep + 1)) (nI_add ep 1) ?_
    refine va_put (D := (dC, dI)) (ci := 7) (v := .int (nI (ep + 1))) (ty := .int) (C := RX5) (T := TX5) (N := 11) hx hb hts kc_xReadSign_0 tyX5 tyX5_ok nmX5 hown hK hP hD hS 0 rfl rfl 9 (by decide) (hts (.fieldLink RX5 34 "MistHeaps$Hill" "at" "I") kc_xReadSign_1) (fun _ h9 => h9) rfl (by decide +kernel) rfl rfl (Nat.le_of_ble_eq_true rfl) dX5_readSign_17 (fun H locs hP hD hS => ?_)
    have hP : va_P (dC, dI) vwCl [(zo7iirrrririii bl esg (nI ecl) eW eA eE eC (nI ecd) aTp (nI ez) (nI (ep + 1)) (nI em)), (zaI aTp cTp 100 fTp)] H := hP
    have hD : va_D A [(zo7iirrrririii bl esg (nI ecl) eW eA eE eC (nI ecd) aTp (nI ez) (nI (ep + 1)) (nI em)), (zaI aTp cTp 100 fTp)] := hD
    refine lv_iconst (v := 1) hx hb dX5_readSign_20 (by decide) ?_
    rw [hQ]
    have hP9 := hP.sub (ws' := [(zo7iirrrririii bl esg (nI ecl) eW eA eE eC (nI ecd) aTp (nI ez) (nI (ep + 1)) (nI em)), (zaI aTp cTp 100 fTp)]) [0, 1] rfl
    have hD9 := hD.sub (ws' := [(zo7iirrrririii bl esg (nI ecl) eW eA eE eC (nI ecd) aTp (nI ez) (nI (ep + 1)) (nI em)), (zaI aTp cTp 100 fTp)]) [0, 1] (by decide) rfl
    have hK9 := hK.sub (tys' := [(cTp, .int)]) [0] rfl
    exact W.zret (v := 1) hx hb hr rfl (fun tQ htQ hWQ => ⟨⟨1, (ep + 1), rfl, by first | exact Or.inr ⟨rfl, by assumption, rfl⟩ | exact Or.inl ⟨rfl, by assumption, Nat.lt_of_not_le (fun z => by have := gX.2.1 ep z; omega), rfl⟩, by rw [htQ]; exact hP9, va_K.moved hWQ.alike hK9, hD9⟩, hS.F htQ⟩) hS.2.2 dX5_readSign_21
  · skip
    have c_3 : ¬ (ss ep) = k := fun q => c_3 ((nI_eq (a := (ss ep)) (b := k) (by omega) (by omega)).mpr q)
    refine lv_iconst (v := 0) hx hb dX5_readSign_8 (by decide) ?_
    rw [hQ]
    have hP9 := hP.sub (ws' := [(zo7iirrrririii bl esg (nI ecl) eW eA eE eC (nI ecd) aTp (nI ez) (nI ep) (nI em)), (zaI aTp cTp 100 fTp)]) [0, 1] rfl
    have hD9 := hD.sub (ws' := [(zo7iirrrririii bl esg (nI ecl) eW eA eE eC (nI ecd) aTp (nI ez) (nI ep) (nI em)), (zaI aTp cTp 100 fTp)]) [0, 1] (by decide) rfl
    have hK9 := hK.sub (tys' := [(cTp, .int)]) [0] rfl
    exact W.zret (v := 0) hx hb hr rfl (fun tQ htQ hWQ => ⟨⟨0, ep, rfl, by first | exact Or.inr ⟨rfl, by assumption, rfl⟩ | exact Or.inl ⟨rfl, by assumption, Nat.lt_of_not_le (fun z => by have := gX.2.1 ep z; omega), rfl⟩, by rw [htQ]; exact hP9, va_K.moved hWQ.alike hK9, hD9⟩, hS.F htQ⟩) hS.2.2 dX5_readSign_9

theorem kc_xReadNumber_0 : ∀ w ∈ wsX50, w ∈ wsX5_readNumber := fun w h => List.mem_cons_of_mem _ (gin_wsX50 w h)
theorem kc_xReadNumber_1 : (.fieldLink RX5 48 "MistHeaps$Hill" "number" "I" : Cond) ∈ wsX5_readNumber := kc_of 125 rfl rfl rfl
theorem kc_xReadNumber_2 : (.fieldLink RX5 34 "MistHeaps$Hill" "at" "I" : Cond) ∈ wsX5_readNumber := kc_of 124 rfl rfl rfl
set_option maxHeartbeats 4000000 in
set_option maxRecDepth 100000 in
theorem c_xReadNumber (l : Launch) (dC : Nat → ClassId) (dI : Nat → Nat → Nat) (bl : Nat) (aTp : Nat) (eW : Nat) (eA : Nat) (eE : Nat) (eC : Nat) (ecl : Nat) (ecd : Nat) (esg : Int32) (cTp : ClassId) (fTp : Nat → Int32) (ez : Nat) (ep : Nat) (em : Nat) (ss : Nat → Nat) (sz : Nat) (hez : ez ≤ 100) (hep : ep ≤ ez + 2) (gX : TX fTp ez ss) : Met l yX5_readNumber wsX5_readNumber ({ frames := 1, cells := 0, slots := 0, locals := 20 } : Room) (va_Pc [.ref bl] (fun U => U.heap.size = sz ∧ va_P (dC, dI) vwCl [(zo7iirrrririii bl esg (nI ecl) eW eA eE eC (nI ecd) aTp (nI ez) (nI ep) (nI em)), (zaI aTp cTp 100 fTp)] U.heap ∧ va_K (dC, dI) vwCl [(cTp, .int)] U ∧ va_D (fun _ => True) [(zo7iirrrririii bl esg (nI ecl) eW eA eE eC (nI ecd) aTp (nI ez) (nI ep) (nI em)), (zaI aTp cTp 100 fTp)])) (va_Qi (fun (r : Int32) (u : (Nat) × (Nat)) => match u with | (ep9, em9) => (r = 1 ∧ pNum ss ep = (some em9, ep9) ∧ ep < ep9 ∧ ep9 ≤ ez ∧ em9 ≤ 99) ∨ (r = 0 ∧ pNum ss ep = (none, ep) ∧ ep9 = ep ∧ em9 = em)) (fun (u : (Nat) × (Nat)) (t : State) => match u with | (ep9, em9) => va_P (dC, dI) vwCl [(zo7iirrrririii bl esg (nI ecl) eW eA eE eC (nI ecd) aTp (nI ez) (nI ep9) (nI em9)), (zaI aTp cTp 100 fTp)] t.heap ∧ va_K (dC, dI) vwCl [(cTp, .int)] t ∧ va_D (va_A [(zo7iirrrririii bl esg (nI ecl) eW eA eE eC (nI ecd) aTp (nI ez) (nI ep) (nI em)), (zaI aTp cTp 100 fTp)] sz) [(zo7iirrrririii bl esg (nI ecl) eW eA eE eC (nI ecd) aTp (nI ez) (nI ep9) (nI em9)), (zaI aTp cTp 100 fTp)]) (va_A [(zo7iirrrririii bl esg (nI ecl) eW eA eE eC (nI ecd) aTp (nI ez) (nI ep) (nI em)), (zaI aTp cTp 100 fTp)] sz)) 0 0 (va_A [(zo7iirrrririii bl esg (nI ecl) eW eA eE eC (nI ecd) aTp (nI ez) (nI ep) (nI em)), (zaI aTp cTp 100 fTp)] sz) := by
  refine met_ofQ (cc := cX5_readNumber) (maxL := 1) (ret := (some .boolean)) (by decide) rfl ?_
  intro p e s m args below meth c s₁ Q B hml hv hQ
  obtain ⟨rfl, hsz, hP, hK, hD0⟩ := hv
  have hx := B.exec
  have hb := B.bytes
  have hr := B.returns
  have hts := atoms_spec (ws := wsX5_readNumber) B.pre
  have hown : s.vm.findClass RX5 = some m.cls := findClass_of_methodNamed B.named
  have hlocks := B.notSynchronized
  subst hsz
  have hD := hD0.self (sz := s.heap.size)
  generalize hAe : va_A [(zo7iirrrririii bl esg (nI ecl) eW eA eE eC (nI ecd) aTp (nI ez) (nI ep) (nI em)), (zaI aTp cTp 100 fTp)] s.heap.size = A at hD hQ ⊢
  have hA : ∀ q : Nat, s.heap.size ≤ q → A q := fun q h => by rw [← hAe]; exact Or.inr h
  have hS : va_S A s.heap s.heap [] := va_S.rf
  have hl := lv_entry [.ref bl] (n := 1) (Nat.le_of_ble_eq_true rfl)
  rw [lg_entry_eq]
  generalize (lg_sl [.ref bl] ++ List.replicate (1 - (lg_sl [.ref bl]).length) Slot.unset).toArray = ls at hl ⊢
  generalize hag : ([.ref bl] : List Value).toArray = args at hts hQ ⊢
  have hl : lv_has ls 1 [(0, .ref bl)] := hl
  obtain ⟨H, hH⟩ : ∃ H : Heap, H = s.heap := ⟨_, rfl⟩
  rw [← hH] at hP
  rw [← hH]
  have hS : va_S A s.heap H [] := by rw [hH]; exact hS
  obtain ⟨locs, hlo⟩ : ∃ L : List Loc, L = [] := ⟨_, rfl⟩
  rw [← hlo] at hS
  rw [← hlo]
  clear hH hlo
  refine lv_aload_n hx hb dX5_readNumber_0 rfl (lv_at hl 0 rfl) ?_
  have hPc := hP.sub (ws' := [(zo7iirrrririii bl esg (nI ecl) eW eA eE eC (nI ecd) aTp (nI ez) (nI ep) (nI em)), (zaI aTp cTp 100 fTp)]) [0, 1] rfl
  have hKc := hK.sub (tys' := [(cTp, .int)]) [0] rfl
  refine vp_callSi (va_runV (As := []) (rest := []) ⟨hx, hb, hml, hown, hts⟩ (c_xSign l dC dI bl aTp eW eA eE eC ecl ecd esg cTp fTp ez ep em ss (hez) (by omega) (gX)) (cwV 0 hts gX5_readNumber_X5_sign rfl rfl rfl hd_yX5_sign ⟨Nat.le_of_ble_eq_true rfl, Nat.le_of_ble_eq_true rfl⟩) ⟨fun a U g mk q => by obtain ⟨q0, qP, qK⟩ := q; exact ⟨q0, qP, va_K.moved (u := U) (U := U.calling g mk a) (Vm.Alike.refl U.vm) qK⟩, va_recv hK hP (ci := 7) (q := (RX5, TX5, 11)) (q0 := 0) rfl rfl, fun U hU hW => ⟨rfl, by rw [hU]; exact hPc, va_K.moved hW.alike hKc⟩⟩ rfl rfl hl.1 rfl (lv_room (Nat.le_of_ble_eq_true rfl)) dX5_readNumber_1 ⟨Nat.le_of_ble_eq_true rfl, Nat.le_of_ble_eq_true rfl⟩).run (fun r_1 hw_2 => ?_)
  obtain rfl := hw_2
  have hs8 := gX.2.2 (ep)
  refine vp_callSi (va_runS (As := [.int (nI (ss ep))]) (rest := []) ⟨hx, hb, hml, hown, hts⟩ (c_xDigit l dC dI (ss ep) (by omega)) (va_cwS 1 hts gX5_readNumber_X5_isDigit rfl rfl rfl hd_yX5_isDigit.2 ⟨Nat.le_of_ble_eq_true rfl, Nat.le_of_ble_eq_true rfl⟩) ⟨fun a U g mk q => ⟨q.1, trivial⟩, fun U hU hW => ⟨rfl, trivial⟩⟩ rfl rfl hl.1 rfl (lv_room (Nat.le_of_ble_eq_true rfl)) dX5_readNumber_4 ⟨Nat.le_of_ble_eq_true rfl, Nat.le_of_ble_eq_true rfl⟩).run (fun r_3 hw_4 => ?_)
  rcases hw_4 with ⟨rfl, hd1⟩ | ⟨rfl, hd1⟩
  · skip
    have hl1 : ep < ez := Nat.lt_of_not_le (fun z => by have := gX.2.1 _ z; omega)
    refine lv_if_ne (tgt := 12) hx hb dX5_readNumber_7 (by decide) (fun _ => ?_) (fun c_5 => absurd c_5 (by decide))
    refine lv_aload_n hx hb dX5_readNumber_12 rfl (lv_at hl 0 rfl) ?_
    refine lv_aload_n hx hb dX5_readNumber_13 rfl (lv_at hl 0 rfl) ?_
    have hPc := hP.sub (ws' := [(zo7iirrrririii bl esg (nI ecl) eW eA eE eC (nI ecd) aTp (nI ez) (nI ep) (nI em)), (zaI aTp cTp 100 fTp)]) [0, 1] rfl
    have hKc := hK.sub (tys' := [(cTp, .int)]) [0] rfl
    refine vp_callSi (va_runV (As := []) (rest := [.ref bl]) ⟨hx, hb, hml, hown, hts⟩ (c_xSign l dC dI bl aTp eW eA eE eC ecl ecd esg cTp fTp ez ep em ss (hez) (by omega) (gX)) (cwV 0 hts gX5_readNumber_X5_sign rfl rfl rfl hd_yX5_sign ⟨Nat.le_of_ble_eq_true rfl, Nat.le_of_ble_eq_true rfl⟩) ⟨fun a U g mk q => by obtain ⟨q0, qP, qK⟩ := q; exact ⟨q0, qP, va_K.moved (u := U) (U := U.calling g mk a) (Vm.Alike.refl U.vm) qK⟩, va_recv hK hP (ci := 7) (q := (RX5, TX5, 11)) (q0 := 0) rfl rfl, fun U hU hW => ⟨rfl, by rw [hU]; exact hPc, va_K.moved hW.alike hKc⟩⟩ rfl rfl hl.1 rfl (lv_room (Nat.le_of_ble_eq_true rfl)) dX5_readNumber_14 ⟨Nat.le_of_ble_eq_true rfl, Nat.le_of_ble_eq_true rfl⟩).run (fun r_6 hw_7 => ?_)
    obtain rfl := hw_7
    have hs8 := gX.2.2 (ep)
    refine lv_bipush (v := 48) hx hb dX5_readNumber_17 (by decide) ?_
    refine lv_isub hx hb dX5_readNumber_19 ?_
    refine qi_as (y := nI ((ss ep) - 48)) (pk_sub (a := ss ep) (b := 48) (by omega)) ?_
    refine va_put (D := (dC, dI)) (ci := 7) (v := .int (nI ((ss ep) - 48))) (ty := .int) (C := RX5) (T := TX5) (N := 11) hx hb hts kc_xReadNumber_0 tyX5 tyX5_ok nmX5 hown hK hP hD hS 0 rfl rfl 10 (by decide) (hts (.fieldLink RX5 48 "MistHeaps$Hill" "number" "I") kc_xReadNumber_1) (fun _ h9 => h9) rfl (by decide +kernel) rfl rfl (Nat.le_of_ble_eq_true rfl) dX5_readNumber_20 (fun H locs hP hD hS => ?_)
    have hP : va_P (dC, dI) vwCl [(zo7iirrrririii bl esg (nI ecl) eW eA eE eC (nI ecd) aTp (nI ez) (nI ep) (nI ((ss ep) - 48))), (zaI aTp cTp 100 fTp)] H := hP
    have hD : va_D A [(zo7iirrrririii bl esg (nI ecl) eW eA eE eC (nI ecd) aTp (nI ez) (nI ep) (nI ((ss ep) - 48))), (zaI aTp cTp 100 fTp)] := hD
    refine lv_aload_n hx hb dX5_readNumber_23 rfl (lv_at hl 0 rfl) ?_
    refine lv_dup hx hb dX5_readNumber_24 rfl ?_
    refine va_get (D := (dC, dI)) (ci := 7) (v := .int (nI ep)) (C := RX5) (T := TX5) (N := 11) hx hb hts kc_xReadNumber_0 hown hK hP 0 rfl rfl 9 (by decide) (hts (.fieldLink RX5 34 "MistHeaps$Hill" "at" "I") kc_xReadNumber_2) (fun _ h9 => h9) rfl dX5_readNumber_25 ?_
    refine lv_iconst (v := 1) hx hb dX5_readNumber_28 (by decide) ?_
    refine lv_iadd hx hb dX5_readNumber_29 ?_
    refine qi_as (y := nI (ep + 1)) (nI_add ep 1) ?_
    refine va_put (D := (dC, dI)) (ci := 7) (v := .int (nI (ep + 1))) (ty := .int) (C := RX5) (T := TX5) (N := 11) hx hb hts kc_xReadNumber_0 tyX5 tyX5_ok nmX5 hown hK hP hD hS 0 rfl rfl 9 (by decide) (hts (.fieldLink RX5 34 "MistHeaps$Hill" "at" "I") kc_xReadNumber_2) (fun _ h9 => h9) rfl (by decide +kernel) rfl rfl (Nat.le_of_ble_eq_true rfl) dX5_readNumber_30 (fun H locs hP hD hS => ?_)
    have hP : va_P (dC, dI) vwCl [(zo7iirrrririii bl esg (nI ecl) eW eA eE eC (nI ecd) aTp (nI ez) (nI (ep + 1)) (nI ((ss ep) - 48))), (zaI aTp cTp 100 fTp)] H := hP
    have hD : va_D A [(zo7iirrrririii bl esg (nI ecl) eW eA eE eC (nI ecd) aTp (nI ez) (nI (ep + 1)) (nI ((ss ep) - 48))), (zaI aTp cTp 100 fTp)] := hD
    refine lv_aload_n hx hb dX5_readNumber_33 rfl (lv_at hl 0 rfl) ?_
    refine va_get (D := (dC, dI)) (ci := 7) (v := .int (nI ((ss ep) - 48))) (C := RX5) (T := TX5) (N := 11) hx hb hts kc_xReadNumber_0 hown hK hP 0 rfl rfl 10 (by decide) (hts (.fieldLink RX5 48 "MistHeaps$Hill" "number" "I") kc_xReadNumber_1) (fun _ h9 => h9) rfl dX5_readNumber_34 ?_
    refine lv_if_le (tgt := 79) hx hb dX5_readNumber_37 (by decide) (fun c_8 => ?_) (fun c_8 => ?_)
    · skip
      have c_8 : ((ss ep) - 48) ≤ 0 := (nI_leI (a := ((ss ep) - 48)) (b := 0) (by omega) (by omega)).mp c_8
      refine lv_iconst (v := 1) hx hb dX5_readNumber_79 (by decide) ?_
      rw [hQ]
      have hP9 := hP.sub (ws' := [(zo7iirrrririii bl esg (nI ecl) eW eA eE eC (nI ecd) aTp (nI ez) (nI (ep + 1)) (nI ((ss ep) - 48))), (zaI aTp cTp 100 fTp)]) [0, 1] rfl
      have hD9 := hD.sub (ws' := [(zo7iirrrririii bl esg (nI ecl) eW eA eE eC (nI ecd) aTp (nI ez) (nI (ep + 1)) (nI ((ss ep) - 48))), (zaI aTp cTp 100 fTp)]) [0, 1] (by decide) rfl
      have hK9 := hK.sub (tys' := [(cTp, .int)]) [0] rfl
      exact W.zret (v := 1) hx hb hr rfl (fun tQ htQ hWQ => ⟨⟨1, ((ep + 1), ((ss ep) - 48)), rfl, Or.inl ⟨rfl, pn_t1 hd1 (by omega) (by omega) (by omega), by omega, by omega, by omega⟩, by rw [htQ]; exact hP9, va_K.moved hWQ.alike hK9, hD9⟩, hS.F htQ⟩) hS.2.2 dX5_readNumber_80
    · skip
      have c_8 : ¬ ((ss ep) - 48) ≤ 0 := fun q => c_8 ((nI_leI (a := ((ss ep) - 48)) (b := 0) (by omega) (by omega)).mpr q)
      refine lv_aload_n hx hb dX5_readNumber_40 rfl (lv_at hl 0 rfl) ?_
      have hPc := hP.sub (ws' := [(zo7iirrrririii bl esg (nI ecl) eW eA eE eC (nI ecd) aTp (nI ez) (nI (ep + 1)) (nI ((ss ep) - 48))), (zaI aTp cTp 100 fTp)]) [0, 1] rfl
      have hKc := hK.sub (tys' := [(cTp, .int)]) [0] rfl
      refine vp_callSi (va_runV (As := []) (rest := []) ⟨hx, hb, hml, hown, hts⟩ (c_xSign l dC dI bl aTp eW eA eE eC ecl ecd esg cTp fTp ez (ep + 1) ((ss ep) - 48) ss (hez) (by omega) (gX)) (cwV 0 hts gX5_readNumber_X5_sign rfl rfl rfl hd_yX5_sign ⟨Nat.le_of_ble_eq_true rfl, Nat.le_of_ble_eq_true rfl⟩) ⟨fun a U g mk q => by obtain ⟨q0, qP, qK⟩ := q; exact ⟨q0, qP, va_K.moved (u := U) (U := U.calling g mk a) (Vm.Alike.refl U.vm) qK⟩, va_recv hK hP (ci := 7) (q := (RX5, TX5, 11)) (q0 := 0) rfl rfl, fun U hU hW => ⟨rfl, by rw [hU]; exact hPc, va_K.moved hW.alike hKc⟩⟩ rfl rfl hl.1 rfl (lv_room (Nat.le_of_ble_eq_true rfl)) dX5_readNumber_41 ⟨Nat.le_of_ble_eq_true rfl, Nat.le_of_ble_eq_true rfl⟩).run (fun r_9 hw_10 => ?_)
      obtain rfl := hw_10
      have hs8 := gX.2.2 (ep + 1)
      refine vp_callSi (va_runS (As := [.int (nI (ss (ep + 1)))]) (rest := []) ⟨hx, hb, hml, hown, hts⟩ (c_xDigit l dC dI (ss (ep + 1)) (by omega)) (va_cwS 1 hts gX5_readNumber_X5_isDigit rfl rfl rfl hd_yX5_isDigit.2 ⟨Nat.le_of_ble_eq_true rfl, Nat.le_of_ble_eq_true rfl⟩) ⟨fun a U g mk q => ⟨q.1, trivial⟩, fun U hU hW => ⟨rfl, trivial⟩⟩ rfl rfl hl.1 rfl (lv_room (Nat.le_of_ble_eq_true rfl)) dX5_readNumber_44 ⟨Nat.le_of_ble_eq_true rfl, Nat.le_of_ble_eq_true rfl⟩).run (fun r_11 hw_12 => ?_)
      rcases hw_12 with ⟨rfl, hd2⟩ | ⟨rfl, hd2⟩
      · skip
        have hl2 : ep + 1 < ez := Nat.lt_of_not_le (fun z => by have := gX.2.1 _ z; omega)
        refine lv_if_eq (tgt := 79) hx hb dX5_readNumber_47 (by decide) (fun c_13 => absurd c_13 (by decide)) (fun _ => ?_)
        refine lv_aload_n hx hb dX5_readNumber_50 rfl (lv_at hl 0 rfl) ?_
        refine lv_aload_n hx hb dX5_readNumber_51 rfl (lv_at hl 0 rfl) ?_
        refine va_get (D := (dC, dI)) (ci := 7) (v := .int (nI ((ss ep) - 48))) (C := RX5) (T := TX5) (N := 11) hx hb hts kc_xReadNumber_0 hown hK hP 0 rfl rfl 10 (by decide) (hts (.fieldLink RX5 48 "MistHeaps$Hill" "number" "I") kc_xReadNumber_1) (fun _ h9 => h9) rfl dX5_readNumber_52 ?_
        refine lv_bipush (v := 10) hx hb dX5_readNumber_55 (by decide) ?_
        refine lv_imul hx hb dX5_readNumber_57 ?_
        refine qi_as (y := nI (((ss ep) - 48) * 10)) (pk_mul ((ss ep) - 48) 10) ?_
        refine lv_aload_n hx hb dX5_readNumber_58 rfl (lv_at hl 0 rfl) ?_
        have hPc := hP.sub (ws' := [(zo7iirrrririii bl esg (nI ecl) eW eA eE eC (nI ecd) aTp (nI ez) (nI (ep + 1)) (nI ((ss ep) - 48))), (zaI aTp cTp 100 fTp)]) [0, 1] rfl
        have hKc := hK.sub (tys' := [(cTp, .int)]) [0] rfl
        refine vp_callSi (va_runV (As := []) (rest := [.int (nI (((ss ep) - 48) * 10)), .ref bl]) ⟨hx, hb, hml, hown, hts⟩ (c_xSign l dC dI bl aTp eW eA eE eC ecl ecd esg cTp fTp ez (ep + 1) ((ss ep) - 48) ss (hez) (by omega) (gX)) (cwV 0 hts gX5_readNumber_X5_sign rfl rfl rfl hd_yX5_sign ⟨Nat.le_of_ble_eq_true rfl, Nat.le_of_ble_eq_true rfl⟩) ⟨fun a U g mk q => by obtain ⟨q0, qP, qK⟩ := q; exact ⟨q0, qP, va_K.moved (u := U) (U := U.calling g mk a) (Vm.Alike.refl U.vm) qK⟩, va_recv hK hP (ci := 7) (q := (RX5, TX5, 11)) (q0 := 0) rfl rfl, fun U hU hW => ⟨rfl, by rw [hU]; exact hPc, va_K.moved hW.alike hKc⟩⟩ rfl rfl hl.1 rfl (lv_room (Nat.le_of_ble_eq_true rfl)) dX5_readNumber_59 ⟨Nat.le_of_ble_eq_true rfl, Nat.le_of_ble_eq_true rfl⟩).run (fun r_14 hw_15 => ?_)
        obtain rfl := hw_15
        have hs8 := gX.2.2 (ep + 1)
        refine lv_iadd hx hb dX5_readNumber_62 ?_
        refine qi_as (y := nI ((((ss ep) - 48) * 10) + (ss (ep + 1)))) (nI_add (((ss ep) - 48) * 10) (ss (ep + 1))) ?_
        refine lv_bipush (v := 48) hx hb dX5_readNumber_63 (by decide) ?_
        refine lv_isub hx hb dX5_readNumber_65 ?_
        refine qi_as (y := nI (((((ss ep) - 48) * 10) + (ss (ep + 1))) - 48)) (pk_sub (a := (((ss ep) - 48) * 10) + (ss (ep + 1))) (b := 48) (by omega)) ?_
        refine va_put (D := (dC, dI)) (ci := 7) (v := .int (nI (((((ss ep) - 48) * 10) + (ss (ep + 1))) - 48))) (ty := .int) (C := RX5) (T := TX5) (N := 11) hx hb hts kc_xReadNumber_0 tyX5 tyX5_ok nmX5 hown hK hP hD hS 0 rfl rfl 10 (by decide) (hts (.fieldLink RX5 48 "MistHeaps$Hill" "number" "I") kc_xReadNumber_1) (fun _ h9 => h9) rfl (by decide +kernel) rfl rfl (Nat.le_of_ble_eq_true rfl) dX5_readNumber_66 (fun H locs hP hD hS => ?_)
        have hP : va_P (dC, dI) vwCl [(zo7iirrrririii bl esg (nI ecl) eW eA eE eC (nI ecd) aTp (nI ez) (nI (ep + 1)) (nI (((((ss ep) - 48) * 10) + (ss (ep + 1))) - 48))), (zaI aTp cTp 100 fTp)] H := hP
        have hD : va_D A [(zo7iirrrririii bl esg (nI ecl) eW eA eE eC (nI ecd) aTp (nI ez) (nI (ep + 1)) (nI (((((ss ep) - 48) * 10) + (ss (ep + 1))) - 48))), (zaI aTp cTp 100 fTp)] := hD
        refine lv_aload_n hx hb dX5_readNumber_69 rfl (lv_at hl 0 rfl) ?_
        refine lv_dup hx hb dX5_readNumber_70 rfl ?_
        refine va_get (D := (dC, dI)) (ci := 7) (v := .int (nI (ep + 1))) (C := RX5) (T := TX5) (N := 11) hx hb hts kc_xReadNumber_0 hown hK hP 0 rfl rfl 9 (by decide) (hts (.fieldLink RX5 34 "MistHeaps$Hill" "at" "I") kc_xReadNumber_2) (fun _ h9 => h9) rfl dX5_readNumber_71 ?_
        refine lv_iconst (v := 1) hx hb dX5_readNumber_74 (by decide) ?_
        refine lv_iadd hx hb dX5_readNumber_75 ?_
        refine qi_as (y := nI ((ep + 1) + 1)) (nI_add (ep + 1) 1) ?_
        refine va_put (D := (dC, dI)) (ci := 7) (v := .int (nI ((ep + 1) + 1))) (ty := .int) (C := RX5) (T := TX5) (N := 11) hx hb hts kc_xReadNumber_0 tyX5 tyX5_ok nmX5 hown hK hP hD hS 0 rfl rfl 9 (by decide) (hts (.fieldLink RX5 34 "MistHeaps$Hill" "at" "I") kc_xReadNumber_2) (fun _ h9 => h9) rfl (by decide +kernel) rfl rfl (Nat.le_of_ble_eq_true rfl) dX5_readNumber_76 (fun H locs hP hD hS => ?_)
        have hP : va_P (dC, dI) vwCl [(zo7iirrrririii bl esg (nI ecl) eW eA eE eC (nI ecd) aTp (nI ez) (nI ((ep + 1) + 1)) (nI (((((ss ep) - 48) * 10) + (ss (ep + 1))) - 48))), (zaI aTp cTp 100 fTp)] H := hP
        have hD : va_D A [(zo7iirrrririii bl esg (nI ecl) eW eA eE eC (nI ecd) aTp (nI ez) (nI ((ep + 1) + 1)) (nI (((((ss ep) - 48) * 10) + (ss (ep + 1))) - 48))), (zaI aTp cTp 100 fTp)] := hD
        refine lv_iconst (v := 1) hx hb dX5_readNumber_79 (by decide) ?_
        rw [hQ]
        have hP9 := hP.sub (ws' := [(zo7iirrrririii bl esg (nI ecl) eW eA eE eC (nI ecd) aTp (nI ez) (nI ((ep + 1) + 1)) (nI (((((ss ep) - 48) * 10) + (ss (ep + 1))) - 48))), (zaI aTp cTp 100 fTp)]) [0, 1] rfl
        have hD9 := hD.sub (ws' := [(zo7iirrrririii bl esg (nI ecl) eW eA eE eC (nI ecd) aTp (nI ez) (nI ((ep + 1) + 1)) (nI (((((ss ep) - 48) * 10) + (ss (ep + 1))) - 48))), (zaI aTp cTp 100 fTp)]) [0, 1] (by decide) rfl
        have hK9 := hK.sub (tys' := [(cTp, .int)]) [0] rfl
        exact W.zret (v := 1) hx hb hr rfl (fun tQ htQ hWQ => ⟨⟨1, (((ep + 1) + 1), (((((ss ep) - 48) * 10) + (ss (ep + 1))) - 48)), rfl, Or.inl ⟨rfl, pn_t2 hd1 ⟨by omega, hd2⟩ (by omega) (by omega), by omega, by omega, by omega⟩, by rw [htQ]; exact hP9, va_K.moved hWQ.alike hK9, hD9⟩, hS.F htQ⟩) hS.2.2 dX5_readNumber_80
      · skip
        refine lv_if_eq (tgt := 79) hx hb dX5_readNumber_47 (by decide) (fun _ => ?_) (fun c_16 => absurd c_16 (by decide))
        refine lv_iconst (v := 1) hx hb dX5_readNumber_79 (by decide) ?_
        rw [hQ]
        have hP9 := hP.sub (ws' := [(zo7iirrrririii bl esg (nI ecl) eW eA eE eC (nI ecd) aTp (nI ez) (nI (ep + 1)) (nI ((ss ep) - 48))), (zaI aTp cTp 100 fTp)]) [0, 1] rfl
        have hD9 := hD.sub (ws' := [(zo7iirrrririii bl esg (nI ecl) eW eA eE eC (nI ecd) aTp (nI ez) (nI (ep + 1)) (nI ((ss ep) - 48))), (zaI aTp cTp 100 fTp)]) [0, 1] (by decide) rfl
        have hK9 := hK.sub (tys' := [(cTp, .int)]) [0] rfl
        exact W.zret (v := 1) hx hb hr rfl (fun tQ htQ hWQ => ⟨⟨1, ((ep + 1), ((ss ep) - 48)), rfl, Or.inl ⟨rfl, pn_t1 hd1 (fun z => hd2 z.2) (by omega) (by omega), by omega, by omega, by omega⟩, by rw [htQ]; exact hP9, va_K.moved hWQ.alike hK9, hD9⟩, hS.F htQ⟩) hS.2.2 dX5_readNumber_80
  · skip
    refine lv_if_ne (tgt := 12) hx hb dX5_readNumber_7 (by decide) (fun c_17 => absurd c_17 (by decide)) (fun _ => ?_)
    refine lv_iconst (v := 0) hx hb dX5_readNumber_10 (by decide) ?_
    rw [hQ]
    have hP9 := hP.sub (ws' := [(zo7iirrrririii bl esg (nI ecl) eW eA eE eC (nI ecd) aTp (nI ez) (nI ep) (nI em)), (zaI aTp cTp 100 fTp)]) [0, 1] rfl
    have hD9 := hD.sub (ws' := [(zo7iirrrririii bl esg (nI ecl) eW eA eE eC (nI ecd) aTp (nI ez) (nI ep) (nI em)), (zaI aTp cTp 100 fTp)]) [0, 1] (by decide) rfl
    have hK9 := hK.sub (tys' := [(cTp, .int)]) [0] rfl
    exact W.zret (v := 0) hx hb hr rfl (fun tQ htQ hWQ => ⟨⟨0, (ep, em), rfl, Or.inr ⟨rfl, pn_no hd1, rfl, rfl⟩, by rw [htQ]; exact hP9, va_K.moved hWQ.alike hK9, hD9⟩, hS.F htQ⟩) hS.2.2 dX5_readNumber_11

theorem kc_sameSigns_0 : ∀ w ∈ wsX50, w ∈ wsX5_sameSigns := fun w h => List.mem_cons_of_mem _ (gin_wsX50 w h)
theorem kc_sameSigns_1 : (.fieldLink RX5 34 "MistHeaps$Hill" "at" "I" : Cond) ∈ wsX5_sameSigns := kc_of 124 rfl rfl rfl
theorem kc_sameSigns_2 : (.fieldLink RX5 31 "MistHeaps$Hill" "size" "I" : Cond) ∈ wsX5_sameSigns := kc_of 123 rfl rfl rfl
theorem kc_sameSigns_3 : (.fieldLink RX5 28 "MistHeaps$Hill" "tape" "[I" : Cond) ∈ wsX5_sameSigns := kc_of 122 rfl rfl rfl
set_option maxHeartbeats 4000000 in
set_option maxRecDepth 100000 in
theorem c_sameSigns (l : Launch) (dC : Nat → ClassId) (dI : Nat → Nat → Nat) (sK sV : Nat → Nat) (bl : Nat) (aTp : Nat) (eW : Nat) (eA : Nat) (eE : Nat) (eC : Nat) (i : Nat) (ecl : Nat) (ecd : Nat) (esg : Int32) (cTp : ClassId) (fTp : Nat → Int32) (ez : Nat) (ep : Nat) (em : Nat) (ss : Nat → Nat) (hez : ez ≤ 100) (hep : ep ≤ ez) (hi12 : i < 12) (gX : TX fTp ez ss) : Met l yX5_sameSigns wsX5_sameSigns ({ frames := 4, cells := 0, slots := 0, locals := 85 } : Room) (va_Pc [.ref bl, .ref (sK i)] (fun U => va_P (dC, dI) vwCl [(zo7iirrrririii bl esg (nI ecl) eW eA eE eC (nI ecd) aTp (nI ez) (nI ep) (nI em)), (zaI aTp cTp 100 fTp)] U.heap ∧ va_K (dC, dI) vwCl [(cTp, .int)] U ∧ Gs sK sV (fun _ => False) U)) (vp_Si (fun r => r = nI (mlen ss ep (sTx i)) ∧ mlen ss ep (sTx i) ≤ sLen i ∧ ep + mlen ss ep (sTx i) ≤ ez)) 0 0 (fun _ => False) := by
  refine met_ofQ (cc := cX5_sameSigns) (maxL := 3) (ret := (some .int)) (by decide) rfl ?_
  intro p e s m args below meth c s₁ Q B hml hv hQ
  obtain ⟨rfl, hP, hK, hE⟩ := hv
  have hx := B.exec
  have hb := B.bytes
  have hr := B.returns
  have hts := atoms_spec (ws := wsX5_sameSigns) B.pre
  have hown : s.vm.findClass RX5 = some m.cls := findClass_of_methodNamed B.named
  have hlocks := B.notSynchronized
  obtain ⟨A, hAe⟩ : ∃ A : Nat → Prop, A = fun _ => False := ⟨_, rfl⟩
  rw [← hAe] at hQ hE
  have hS : va_S A s.heap s.heap [] := va_S.rf
  have hl := lv_entry [.ref bl, .ref (sK i)] (n := 3) (Nat.le_of_ble_eq_true rfl)
  rw [lg_entry_eq]
  generalize (lg_sl [.ref bl, .ref (sK i)] ++ List.replicate (3 - (lg_sl [.ref bl, .ref (sK i)]).length) Slot.unset).toArray = ls at hl ⊢
  generalize hag : ([.ref bl, .ref (sK i)] : List Value).toArray = args at hts hQ ⊢
  have hl : lv_has ls 3 [(0, .ref bl), (1, .ref (sK i))] := hl
  have hs7 := sLen_lt hi12
  refine lv_iconst (v := 0) hx hb dX5_sameSigns_0 (by decide) ?_
  refine lv_istore_n (lv' := [(2, .int 0), (0, .ref bl), (1, .ref (sK i))]) hx hb dX5_sameSigns_1 rfl hl (by decide) rfl (fun ls hl => ?_)
  have L2 : ∀ (nF : Nat) (j : Nat), sLen i - j < nF → (j ≤ sLen i ∧ ep + j ≤ ez) → (mlen ss ep (sTx i) = j + mlen ss (ep + j) ((sTx i).drop j)) → ∀ (ls : Array Slot), lv_has ls 3 [(0, .ref bl), (1, .ref (sK i)), (2, .int (nI j))] → W p l e ({ frames := 4, cells := 0, slots := 0, locals := 85 } : Room) s m args below meth c s.heap [] 0 0 Q (F0 m 2 ls []) := by
    intro nF
    induction nF with
    | zero => intro j hm; exact absurd hm (Nat.not_lt_zero _)
    | succ nF ih2 =>
      intro j hm hj hML ls hl
      obtain ⟨hja, hjb⟩ := hj
      refine lv_iload_n hx hb dX5_sameSigns_2 rfl (lv_at hl 2 rfl) ?_
      refine lv_aload_n hx hb dX5_sameSigns_3 rfl (lv_at hl 1 rfl) ?_
      refine vp_callSi (va_runV (As := []) (rest := [.int (nI j)]) ⟨hx, hb, hml, hown, hts⟩ (c_len l dC dI sK sV i hi12) (cwV 0 hts gX5_sameSigns_J0_length_8abf5 rfl rfl rfl hd_yJ0_length_8abf5 ⟨Nat.le_of_ble_eq_true rfl, Nat.le_of_ble_eq_true rfl⟩) ⟨fun a U g mk q => by obtain ⟨q0, qhE⟩ := q; exact ⟨q0, qhE.same rfl rfl⟩, va_Orecv (hE.2.1 i hi12).1 hS, fun U hU hW => ⟨rfl, hE.callF hS hU hW⟩⟩ rfl rfl hl.1 rfl (lv_room (Nat.le_of_ble_eq_true rfl)) dX5_sameSigns_4 ⟨Nat.le_of_ble_eq_true rfl, Nat.le_of_ble_eq_true rfl⟩).run (fun r_1 hw_2 => ?_)
      refine qi_as (y := nI (sLen i)) (hw_2) ?_
      refine lv_icmp_ge (tgt := 48) hx hb dX5_sameSigns_7 (by decide) (fun c_3 => ?_) (fun c_3 => ?_)
      · skip
        have c_3 : (sLen i) ≤ j := (nI_leI (a := (sLen i)) (b := j) (by omega) (by omega)).mp c_3
        refine lv_iload_n hx hb dX5_sameSigns_48 rfl (lv_at hl 2 rfl) ?_
        rw [hQ]
        exact W.iret (v := nI j) hx hb hr (fun tQ htQ hWQ => ⟨nI j, rfl, by have e9 := ml_all hML (by rw [sTx_len hi12]; omega); exact ⟨by rw [e9], by omega, by omega⟩, by rw [htQ]⟩) (fun q hq => absurd hq List.not_mem_nil) dX5_sameSigns_49
      · skip
        have c_3 : ¬ (sLen i) ≤ j := fun q => c_3 ((nI_leI (a := (sLen i)) (b := j) (by omega) (by omega)).mpr q)
        refine lv_aload_n hx hb dX5_sameSigns_10 rfl (lv_at hl 0 rfl) ?_
        refine va_get (D := (dC, dI)) (ci := 7) (v := .int (nI ep)) (C := RX5) (T := TX5) (N := 11) hx hb hts kc_sameSigns_0 hown hK hP 0 rfl rfl 9 (by decide) (hts (.fieldLink RX5 34 "MistHeaps$Hill" "at" "I") kc_sameSigns_1) (fun _ h9 => h9) rfl dX5_sameSigns_11 ?_
        refine lv_iload_n hx hb dX5_sameSigns_14 rfl (lv_at hl 2 rfl) ?_
        refine lv_iadd hx hb dX5_sameSigns_15 ?_
        refine qi_as (y := nI (ep + j)) (nI_add ep j) ?_
        refine lv_aload_n hx hb dX5_sameSigns_16 rfl (lv_at hl 0 rfl) ?_
        refine va_get (D := (dC, dI)) (ci := 7) (v := .int (nI ez)) (C := RX5) (T := TX5) (N := 11) hx hb hts kc_sameSigns_0 hown hK hP 0 rfl rfl 8 (by decide) (hts (.fieldLink RX5 31 "MistHeaps$Hill" "size" "I") kc_sameSigns_2) (fun _ h9 => h9) rfl dX5_sameSigns_17 ?_
        refine lv_icmp_ge (tgt := 48) hx hb dX5_sameSigns_20 (by decide) (fun c_4 => ?_) (fun c_4 => ?_)
        · skip
          have c_4 : ez ≤ (ep + j) := (nI_leI (a := ez) (b := (ep + j)) (by omega) (by omega)).mp c_4
          refine lv_iload_n hx hb dX5_sameSigns_48 rfl (lv_at hl 2 rfl) ?_
          rw [hQ]
          exact W.iret (v := nI j) hx hb hr (fun tQ htQ hWQ => ⟨nI j, rfl, by have e9 := ml_miss hML (by rw [sTx_len hi12]; omega) (fun z => by have h1 := gX.2.1 (ep + j) (by omega); have h2 := sTx_ch hi12 (k := j) (by omega); omega); exact ⟨by rw [e9], by omega, by omega⟩, by rw [htQ]⟩) (fun q hq => absurd hq List.not_mem_nil) dX5_sameSigns_49
        · skip
          have c_4 : ¬ ez ≤ (ep + j) := fun q => c_4 ((nI_leI (a := ez) (b := (ep + j)) (by omega) (by omega)).mpr q)
          refine lv_aload_n hx hb dX5_sameSigns_23 rfl (lv_at hl 0 rfl) ?_
          refine va_get (D := (dC, dI)) (ci := 7) (v := .ref aTp) (C := RX5) (T := TX5) (N := 11) hx hb hts kc_sameSigns_0 hown hK hP 0 rfl rfl 7 (by decide) (hts (.fieldLink RX5 28 "MistHeaps$Hill" "tape" "[I") kc_sameSigns_3) (fun _ h9 => h9) rfl dX5_sameSigns_24 ?_
          refine lv_aload_n hx hb dX5_sameSigns_27 rfl (lv_at hl 0 rfl) ?_
          refine va_get (D := (dC, dI)) (ci := 7) (v := .int (nI ep)) (C := RX5) (T := TX5) (N := 11) hx hb hts kc_sameSigns_0 hown hK hP 0 rfl rfl 9 (by decide) (hts (.fieldLink RX5 34 "MistHeaps$Hill" "at" "I") kc_sameSigns_1) (fun _ h9 => h9) rfl dX5_sameSigns_28 ?_
          refine lv_iload_n hx hb dX5_sameSigns_31 rfl (lv_at hl 2 rfl) ?_
          refine lv_iadd hx hb dX5_sameSigns_32 ?_
          refine qi_as (y := nI (ep + j)) (nI_add ep j) ?_
          refine va_iald hx hb hK hP 1 0 rfl rfl (vp_in_nI (n := ep + j) (N := 100) (by omega) (by omega)) dX5_sameSigns_33 ?_
          have hs8 := gX.2.2 (ep + j)
          refine qi_as (y := nI (ss (ep + j))) ((show fTp (nI (ep + j) : Int32).toNatClampNeg = fTp (ep + j) from by rw [nI_clamp (by omega)]).trans (gX.1 _ (by omega))) ?_
          refine lv_aload_n hx hb dX5_sameSigns_34 rfl (lv_at hl 1 rfl) ?_
          refine lv_iload_n hx hb dX5_sameSigns_35 rfl (lv_at hl 2 rfl) ?_
          refine vp_callSi (va_runV (As := [.int (nI j)]) (rest := [.int (nI (ss (ep + j)))]) ⟨hx, hb, hml, hown, hts⟩ (c_charAt l dC dI sK sV i j hi12 (by omega)) (cwV 1 hts gX5_sameSigns_J0_charAt_5068e rfl rfl rfl hd_yJ0_charAt_5068e ⟨Nat.le_of_ble_eq_true rfl, Nat.le_of_ble_eq_true rfl⟩) ⟨fun a U g mk q => by obtain ⟨q0, qhE⟩ := q; exact ⟨q0, qhE.same rfl rfl⟩, va_Orecv (hE.2.1 i hi12).1 hS, fun U hU hW => ⟨rfl, hE.callF hS hU hW⟩⟩ rfl rfl hl.1 rfl (lv_room (Nat.le_of_ble_eq_true rfl)) dX5_sameSigns_36 ⟨Nat.le_of_ble_eq_true rfl, Nat.le_of_ble_eq_true rfl⟩).run (fun r_5 hw_6 => ?_)
          obtain rfl := hw_6
          have hch := sTx_ch hi12 (k := j) (by omega)
          refine lv_icmp_ne (tgt := 48) hx hb dX5_sameSigns_39 (by decide) (fun c_7 => ?_) (fun c_7 => ?_)
          · skip
            have c_7 : ¬ (ss (ep + j)) = ((sTx i).getD j 0) := fun q => c_7 ((nI_eq (a := (ss (ep + j))) (b := ((sTx i).getD j 0)) (by omega) (by omega)).mpr q)
            refine lv_iload_n hx hb dX5_sameSigns_48 rfl (lv_at hl 2 rfl) ?_
            rw [hQ]
            exact W.iret (v := nI j) hx hb hr (fun tQ htQ hWQ => ⟨nI j, rfl, by have e9 := ml_miss hML (by rw [sTx_len hi12]; omega) c_7; exact ⟨by rw [e9], by omega, by omega⟩, by rw [htQ]⟩) (fun q hq => absurd hq List.not_mem_nil) dX5_sameSigns_49
          · skip
            have c_7 : (ss (ep + j)) = ((sTx i).getD j 0) := (nI_eq (a := (ss (ep + j))) (b := ((sTx i).getD j 0)) (by omega) (by omega)).mp c_7
            refine lv_iinc (v := nI (j + 1)) (lv' := [(2, .int (nI (j + 1))), (0, .ref bl), (1, .ref (sK i))]) hx hb dX5_sameSigns_42 hl (k := 2) rfl (nI_add j 1) (by decide) rfl (fun ls hl => ?_)
            refine lv_goto (tgt := 2) hx hb dX5_sameSigns_45 (by decide) ?_
            exact ih2 (j + 1) (by omega) (by omega) (ml_hit hML (by rw [sTx_len hi12]; omega) c_7) ls (lv_sub hl [1, 2, 0] rfl)
  exact L2 _ (0) (Nat.lt_succ_self _) (by omega) (ml_0) ls (lv_sub hl [1, 2, 0] rfl)

theorem kc_readWord_0 : (.methodLink RX5 70 Lib.Math.max.name : Cond) ∈ wsX5_readWord := kc_of 425 rfl rfl rfl
theorem kc_readWord_1 : (.static Lib.Math.max.name : Cond) ∈ wsX5_readWord := kc_of 426 rfl rfl rfl
theorem kc_readWord_2 : (.initialized "java/lang/Math" : Cond) ∈ wsX5_readWord := kc_of 77 rfl rfl rfl
theorem kc_readWord_3 : (.code Lib.Math.max.name Lib.Math.max.code 2 (some .int) : Cond) ∈ wsX5_readWord := kc_of 427 rfl rfl rfl
theorem kc_readWord_4 : ∀ w ∈ wsX50, w ∈ wsX5_readWord := fun w h => List.mem_cons_of_mem _ (gin_wsX50 w h)
theorem kc_readWord_5 : (.fieldLink RX5 34 "MistHeaps$Hill" "at" "I" : Cond) ∈ wsX5_readWord := kc_of 124 rfl rfl rfl
set_option maxHeartbeats 4000000 in
set_option maxRecDepth 100000 in
theorem c_readWord (l : Launch) (dC : Nat → ClassId) (dI : Nat → Nat → Nat) (sK sV : Nat → Nat) (bl : Nat) (aTp : Nat) (eW : Nat) (eA : Nat) (eE : Nat) (eC : Nat) (ecl : Nat) (ecd : Nat) (esg : Int32) (cTp : ClassId) (fTp : Nat → Int32) (ez : Nat) (ep : Nat) (em : Nat) (ss : Nat → Nat) (sz : Nat) (hez : ez ≤ 100) (hep : ep ≤ ez) (gX : TX fTp ez ss) : Met l yX5_readWord wsX5_readWord ({ frames := 5, cells := 0, slots := 0, locals := 107 } : Room) (va_Pc [.ref bl] (fun U => U.heap.size = sz ∧ va_P (dC, dI) vwCl [(zo7iirrrririii bl esg (nI ecl) eW eA eE eC (nI ecd) aTp (nI ez) (nI ep) (nI em)), (zaI aTp cTp 100 fTp)] U.heap ∧ va_K (dC, dI) vwCl [(cTp, .int)] U ∧ va_D (fun _ => True) [(zo7iirrrririii bl esg (nI ecl) eW eA eE eC (nI ecd) aTp (nI ez) (nI ep) (nI em)), (zaI aTp cTp 100 fTp)] ∧ Gs sK sV (va_A [(zo7iirrrririii bl esg (nI ecl) eW eA eE eC (nI ecd) aTp (nI ez) (nI ep) (nI em)), (zaI aTp cTp 100 fTp)] sz) U)) (va_Qi (fun (r : Int32) (u : Nat) => match u with | ep9 => ep ≤ ep9 ∧ ep9 ≤ ez ∧ ((r = -1 ∧ pWord ss ep = (none, ep9)) ∨ ∃ jq : Nat, jq < 4 ∧ r = nI jq ∧ pWord ss ep = (some jq, ep9))) (fun (u : Nat) (t : State) => match u with | ep9 => va_P (dC, dI) vwCl [(zo7iirrrririii bl esg (nI ecl) eW eA eE eC (nI ecd) aTp (nI ez) (nI ep9) (nI em)), (zaI aTp cTp 100 fTp)] t.heap ∧ va_K (dC, dI) vwCl [(cTp, .int)] t ∧ va_D (va_A [(zo7iirrrririii bl esg (nI ecl) eW eA eE eC (nI ecd) aTp (nI ez) (nI ep) (nI em)), (zaI aTp cTp 100 fTp)] sz) [(zo7iirrrririii bl esg (nI ecl) eW eA eE eC (nI ecd) aTp (nI ez) (nI ep9) (nI em)), (zaI aTp cTp 100 fTp)]) (va_A [(zo7iirrrririii bl esg (nI ecl) eW eA eE eC (nI ecd) aTp (nI ez) (nI ep) (nI em)), (zaI aTp cTp 100 fTp)] sz)) 0 0 (va_A [(zo7iirrrririii bl esg (nI ecl) eW eA eE eC (nI ecd) aTp (nI ez) (nI ep) (nI em)), (zaI aTp cTp 100 fTp)] sz) := by
  refine met_ofQ (cc := cX5_readWord) (maxL := 5) (ret := (some .int)) (by decide) rfl ?_
  intro p e s m args below meth c s₁ Q B hml hv hQ
  obtain ⟨rfl, hsz, hP, hK, hD0, hE⟩ := hv
  have hx := B.exec
  have hb := B.bytes
  have hr := B.returns
  have hts := atoms_spec (ws := wsX5_readWord) B.pre
  have hown : s.vm.findClass RX5 = some m.cls := findClass_of_methodNamed B.named
  have hlocks := B.notSynchronized
  subst hsz
  have hD := hD0.self (sz := s.heap.size)
  generalize hAe : va_A [(zo7iirrrririii bl esg (nI ecl) eW eA eE eC (nI ecd) aTp (nI ez) (nI ep) (nI em)), (zaI aTp cTp 100 fTp)] s.heap.size = A at hD hQ hE ⊢
  have hA : ∀ q : Nat, s.heap.size ≤ q → A q := fun q h => by rw [← hAe]; exact Or.inr h
  have hS : va_S A s.heap s.heap [] := va_S.rf
  have hl := lv_entry [.ref bl] (n := 5) (Nat.le_of_ble_eq_true rfl)
  rw [lg_entry_eq]
  generalize (lg_sl [.ref bl] ++ List.replicate (5 - (lg_sl [.ref bl]).length) Slot.unset).toArray = ls at hl ⊢
  generalize hag : ([.ref bl] : List Value).toArray = args at hts hQ ⊢
  have hl : lv_has ls 5 [(0, .ref bl)] := hl
  obtain ⟨H, hH⟩ : ∃ H : Heap, H = s.heap := ⟨_, rfl⟩
  rw [← hH] at hP
  rw [← hH]
  have hS : va_S A s.heap H [] := by rw [hH]; exact hS
  obtain ⟨locs, hlo⟩ : ∃ L : List Loc, L = [] := ⟨_, rfl⟩
  rw [← hlo] at hS
  rw [← hlo]
  clear hH hlo
  refine lv_iconst (v := 0) hx hb dX5_readWord_0 (by decide) ?_
  refine lv_istore_n (lv' := [(1, .int 0), (0, .ref bl)]) hx hb dX5_readWord_1 rfl hl (by decide) rfl (fun ls hl => ?_)
  refine lv_iconst (v := 0) hx hb dX5_readWord_2 (by decide) ?_
  refine lv_istore_n (lv' := [(2, .int 0), (1, .int 0), (0, .ref bl)]) hx hb dX5_readWord_3 rfl hl (by decide) rfl (fun ls hl => ?_)
  refine lv_iload_n hx hb dX5_readWord_4 rfl (lv_at hl 0 rfl) ?_
  refine lv_iconst (v := 4) hx hb dX5_readWord_5 (by decide) ?_
  refine lv_icmp_ge (tgt := 56) hx hb dX5_readWord_6 (by decide) (fun c_1 => absurd c_1 (by decide)) (fun _ => ?_)
  refine lv_iload_n hx hb dX5_readWord_9 rfl (lv_at hl 0 rfl) ?_
  refine va_csq (va_runS (As := [.int 0]) (rest := []) ⟨hx, hb, hml, hown, hts⟩ (c_text0 l dC dI sK sV) (va_cwS 1 hts gX5_readWord_X5_textOf rfl rfl rfl hd_yX5_textOf.2 ⟨Nat.le_of_ble_eq_true rfl, Nat.le_of_ble_eq_true rfl⟩) ⟨fun a U g mk q => by obtain ⟨q0, qhE⟩ := q; exact ⟨q0, qhE.same rfl rfl⟩, fun U hU hW => ⟨rfl, hE.callF hS hU hW⟩⟩ rfl rfl hl.1 rfl (lv_room (Nat.le_of_ble_eq_true rfl)) dX5_readWord_10 ⟨Nat.le_of_ble_eq_true rfl, Nat.le_of_ble_eq_true rfl⟩).run (fun r_2 hw_3 => ?_)
  refine qq_as (v := .ref (sK 0)) (by rw [hw_3]; rfl) ?_
  refine lv_astore_n (lv' := [(3, .ref (sK 0)), (2, .int 0), (1, .int 0), (0, .ref bl)]) hx hb dX5_readWord_13 rfl hl (by decide) rfl (fun ls hl => ?_)
  refine lv_aload_n hx hb dX5_readWord_14 rfl (lv_at hl 3 rfl) ?_
  refine lv_aload_n hx hb dX5_readWord_15 rfl (lv_at hl 0 rfl) ?_
  have hPc := hP.sub (ws' := [(zo7iirrrririii bl esg (nI ecl) eW eA eE eC (nI ecd) aTp (nI ez) (nI ep) (nI em)), (zaI aTp cTp 100 fTp)]) [0, 1] rfl
  have hKc := hK.sub (tys' := [(cTp, .int)]) [0] rfl
  refine vp_callSi (va_runV (As := [.ref (sK 0)]) (rest := []) ⟨hx, hb, hml, hown, hts⟩ (c_sameSigns l dC dI sK sV bl aTp eW eA eE eC 0 ecl ecd esg cTp fTp ez ep em ss (hez) (hep) (by decide) (gX)) (cwV 1 hts gX5_readWord_X5_sameSigns rfl rfl rfl hd_yX5_sameSigns ⟨Nat.le_of_ble_eq_true rfl, Nat.le_of_ble_eq_true rfl⟩) ⟨fun a U g mk q => by obtain ⟨q0, qP, qK, qhE⟩ := q; exact ⟨q0, qP, va_K.moved (u := U) (U := U.calling g mk a) (Vm.Alike.refl U.vm) qK, qhE.same rfl rfl⟩, va_recv hK hP (ci := 7) (q := (RX5, TX5, 11)) (q0 := 0) rfl rfl, fun U hU hW => ⟨rfl, by rw [hU]; exact hPc, va_K.moved hW.alike hKc, hE.callF hS hU hW⟩⟩ rfl rfl hl.1 rfl (lv_room (Nat.le_of_ble_eq_true rfl)) dX5_readWord_16 ⟨Nat.le_of_ble_eq_true rfl, Nat.le_of_ble_eq_true rfl⟩).run (fun r_4 hw_5 => ?_)
  obtain ⟨rfl, hm0a, hm0b⟩ := hw_5
  have hm0a : mlen ss ep (sTx 0) ≤ 4 := hm0a
  refine lv_istore (lv' := [(4, .int (nI (mlen ss ep (sTx 0)))), (3, .ref (sK 0)), (2, .int 0), (1, .int 0), (0, .ref bl)]) hx hb dX5_readWord_19 hl (by decide) rfl (fun ls hl => ?_)
  refine lv_iload_n hx hb dX5_readWord_21 rfl (lv_at hl 3 rfl) ?_
  refine lv_iload hx hb dX5_readWord_22 (lv_at hl 0 rfl) ?_
  refine va_mmax hx hb (by rw [hml]; exact hl.1.symm) hown (hts (.methodLink RX5 70 Lib.Math.max.name) kc_readWord_0) (hts (.static Lib.Math.max.name) kc_readWord_1) (hts (.initialized "java/lang/Math") kc_readWord_2) (hts (.code Lib.Math.max.name Lib.Math.max.code 2 (some .int)) kc_readWord_3) (Nat.le_of_ble_eq_true rfl) (Nat.le_of_ble_eq_true rfl) (Nat.le_of_ble_eq_true rfl) (Nat.le_of_ble_eq_true rfl) dX5_readWord_24 ?_
  refine qi_as (y := nI (max 0 (mlen ss ep (sTx 0)))) (mx_eq (a := 0) (b := mlen ss ep (sTx 0)) (by omega) (by omega)) ?_
  refine lv_istore_n (lv' := [(1, .int (nI (max 0 (mlen ss ep (sTx 0))))), (4, .int (nI (mlen ss ep (sTx 0)))), (3, .ref (sK 0)), (2, .int 0), (0, .ref bl)]) hx hb dX5_readWord_27 rfl hl (by decide) rfl (fun ls hl => ?_)
  refine lv_iload hx hb dX5_readWord_28 (lv_at hl 1 rfl) ?_
  refine lv_aload_n hx hb dX5_readWord_30 rfl (lv_at hl 2 rfl) ?_
  refine vp_callSi (va_runV (As := []) (rest := [.int (nI (mlen ss ep (sTx 0)))]) ⟨hx, hb, hml, hown, hts⟩ (c_len l dC dI sK sV 0 (by decide)) (cwV 0 hts gX5_readWord_J0_length_8abf5 rfl rfl rfl hd_yJ0_length_8abf5 ⟨Nat.le_of_ble_eq_true rfl, Nat.le_of_ble_eq_true rfl⟩) ⟨fun a U g mk q => by obtain ⟨q0, qhE⟩ := q; exact ⟨q0, qhE.same rfl rfl⟩, va_Orecv (hE.2.1 0 (by decide)).1 hS, fun U hU hW => ⟨rfl, hE.callF hS hU hW⟩⟩ rfl rfl hl.1 rfl (lv_room (Nat.le_of_ble_eq_true rfl)) dX5_readWord_31 ⟨Nat.le_of_ble_eq_true rfl, Nat.le_of_ble_eq_true rfl⟩).run (fun r_6 hw_7 => ?_)
  refine qi_as (y := nI 4) (hw_7.trans rfl) ?_
  refine lv_icmp_ne (tgt := 50) hx hb dX5_readWord_34 (by decide) (fun c_8 => ?_) (fun c_8 => ?_)
  · skip
    have c_8 : ¬ (mlen ss ep (sTx 0)) = 4 := fun q => c_8 ((nI_eq (a := (mlen ss ep (sTx 0))) (b := 4) (by omega) (by omega)).mpr q)
    refine lv_iinc (v := 1) (lv' := [(2, .int 1), (1, .int (nI (max 0 (mlen ss ep (sTx 0))))), (4, .int (nI (mlen ss ep (sTx 0)))), (3, .ref (sK 0)), (0, .ref bl)]) hx hb dX5_readWord_50 hl (k := 3) rfl (by decide) (by decide) rfl (fun ls hl => ?_)
    refine lv_goto (tgt := 4) hx hb dX5_readWord_53 (by decide) ?_
    refine lv_iload_n hx hb dX5_readWord_4 rfl (lv_at hl 0 rfl) ?_
    refine lv_iconst (v := 4) hx hb dX5_readWord_5 (by decide) ?_
    refine lv_icmp_ge (tgt := 56) hx hb dX5_readWord_6 (by decide) (fun c_9 => absurd c_9 (by decide)) (fun _ => ?_)
    refine lv_iload_n hx hb dX5_readWord_9 rfl (lv_at hl 0 rfl) ?_
    refine va_csq (va_runS (As := [.int 1]) (rest := []) ⟨hx, hb, hml, hown, hts⟩ (c_text1 l dC dI sK sV) (va_cwS 1 hts gX5_readWord_X5_textOf rfl rfl rfl hd_yX5_textOf.2 ⟨Nat.le_of_ble_eq_true rfl, Nat.le_of_ble_eq_true rfl⟩) ⟨fun a U g mk q => by obtain ⟨q0, qhE⟩ := q; exact ⟨q0, qhE.same rfl rfl⟩, fun U hU hW => ⟨rfl, hE.callF hS hU hW⟩⟩ rfl rfl hl.1 rfl (lv_room (Nat.le_of_ble_eq_true rfl)) dX5_readWord_10 ⟨Nat.le_of_ble_eq_true rfl, Nat.le_of_ble_eq_true rfl⟩).run (fun r_10 hw_11 => ?_)
    refine qq_as (v := .ref (sK 1)) (by rw [hw_11]; rfl) ?_
    refine lv_astore_n (lv' := [(3, .ref (sK 1)), (2, .int 1), (1, .int (nI (max 0 (mlen ss ep (sTx 0))))), (4, .int (nI (mlen ss ep (sTx 0)))), (0, .ref bl)]) hx hb dX5_readWord_13 rfl hl (by decide) rfl (fun ls hl => ?_)
    refine lv_aload_n hx hb dX5_readWord_14 rfl (lv_at hl 4 rfl) ?_
    refine lv_aload_n hx hb dX5_readWord_15 rfl (lv_at hl 0 rfl) ?_
    have hPc := hP.sub (ws' := [(zo7iirrrririii bl esg (nI ecl) eW eA eE eC (nI ecd) aTp (nI ez) (nI ep) (nI em)), (zaI aTp cTp 100 fTp)]) [0, 1] rfl
    have hKc := hK.sub (tys' := [(cTp, .int)]) [0] rfl
    refine vp_callSi (va_runV (As := [.ref (sK 1)]) (rest := []) ⟨hx, hb, hml, hown, hts⟩ (c_sameSigns l dC dI sK sV bl aTp eW eA eE eC 1 ecl ecd esg cTp fTp ez ep em ss (hez) (hep) (by decide) (gX)) (cwV 1 hts gX5_readWord_X5_sameSigns rfl rfl rfl hd_yX5_sameSigns ⟨Nat.le_of_ble_eq_true rfl, Nat.le_of_ble_eq_true rfl⟩) ⟨fun a U g mk q => by obtain ⟨q0, qP, qK, qhE⟩ := q; exact ⟨q0, qP, va_K.moved (u := U) (U := U.calling g mk a) (Vm.Alike.refl U.vm) qK, qhE.same rfl rfl⟩, va_recv hK hP (ci := 7) (q := (RX5, TX5, 11)) (q0 := 0) rfl rfl, fun U hU hW => ⟨rfl, by rw [hU]; exact hPc, va_K.moved hW.alike hKc, hE.callF hS hU hW⟩⟩ rfl rfl hl.1 rfl (lv_room (Nat.le_of_ble_eq_true rfl)) dX5_readWord_16 ⟨Nat.le_of_ble_eq_true rfl, Nat.le_of_ble_eq_true rfl⟩).run (fun r_12 hw_13 => ?_)
    obtain ⟨rfl, hm1a, hm1b⟩ := hw_13
    have hm1a : mlen ss ep (sTx 1) ≤ 5 := hm1a
    refine lv_istore (lv' := [(4, .int (nI (mlen ss ep (sTx 1)))), (3, .ref (sK 1)), (2, .int 1), (1, .int (nI (max 0 (mlen ss ep (sTx 0))))), (0, .ref bl)]) hx hb dX5_readWord_19 hl (by decide) rfl (fun ls hl => ?_)
    refine lv_iload_n hx hb dX5_readWord_21 rfl (lv_at hl 3 rfl) ?_
    refine lv_iload hx hb dX5_readWord_22 (lv_at hl 0 rfl) ?_
    refine va_mmax hx hb (by rw [hml]; exact hl.1.symm) hown (hts (.methodLink RX5 70 Lib.Math.max.name) kc_readWord_0) (hts (.static Lib.Math.max.name) kc_readWord_1) (hts (.initialized "java/lang/Math") kc_readWord_2) (hts (.code Lib.Math.max.name Lib.Math.max.code 2 (some .int)) kc_readWord_3) (Nat.le_of_ble_eq_true rfl) (Nat.le_of_ble_eq_true rfl) (Nat.le_of_ble_eq_true rfl) (Nat.le_of_ble_eq_true rfl) dX5_readWord_24 ?_
    refine qi_as (y := nI (max (max 0 (mlen ss ep (sTx 0))) (mlen ss ep (sTx 1)))) (mx_eq (a := max 0 (mlen ss ep (sTx 0))) (b := mlen ss ep (sTx 1)) (by omega) (by omega)) ?_
    refine lv_istore_n (lv' := [(1, .int (nI (max (max 0 (mlen ss ep (sTx 0))) (mlen ss ep (sTx 1))))), (4, .int (nI (mlen ss ep (sTx 1)))), (3, .ref (sK 1)), (2, .int 1), (0, .ref bl)]) hx hb dX5_readWord_27 rfl hl (by decide) rfl (fun ls hl => ?_)
    refine lv_iload hx hb dX5_readWord_28 (lv_at hl 1 rfl) ?_
    refine lv_aload_n hx hb dX5_readWord_30 rfl (lv_at hl 2 rfl) ?_
    refine vp_callSi (va_runV (As := []) (rest := [.int (nI (mlen ss ep (sTx 1)))]) ⟨hx, hb, hml, hown, hts⟩ (c_len l dC dI sK sV 1 (by decide)) (cwV 0 hts gX5_readWord_J0_length_8abf5 rfl rfl rfl hd_yJ0_length_8abf5 ⟨Nat.le_of_ble_eq_true rfl, Nat.le_of_ble_eq_true rfl⟩) ⟨fun a U g mk q => by obtain ⟨q0, qhE⟩ := q; exact ⟨q0, qhE.same rfl rfl⟩, va_Orecv (hE.2.1 1 (by decide)).1 hS, fun U hU hW => ⟨rfl, hE.callF hS hU hW⟩⟩ rfl rfl hl.1 rfl (lv_room (Nat.le_of_ble_eq_true rfl)) dX5_readWord_31 ⟨Nat.le_of_ble_eq_true rfl, Nat.le_of_ble_eq_true rfl⟩).run (fun r_14 hw_15 => ?_)
    refine qi_as (y := nI 5) (hw_15.trans rfl) ?_
    refine lv_icmp_ne (tgt := 50) hx hb dX5_readWord_34 (by decide) (fun c_16 => ?_) (fun c_16 => ?_)
    · skip
      have c_16 : ¬ (mlen ss ep (sTx 1)) = 5 := fun q => c_16 ((nI_eq (a := (mlen ss ep (sTx 1))) (b := 5) (by omega) (by omega)).mpr q)
      refine lv_iinc (v := 2) (lv' := [(2, .int 2), (1, .int (nI (max (max 0 (mlen ss ep (sTx 0))) (mlen ss ep (sTx 1))))), (4, .int (nI (mlen ss ep (sTx 1)))), (3, .ref (sK 1)), (0, .ref bl)]) hx hb dX5_readWord_50 hl (k := 3) rfl (by decide) (by decide) rfl (fun ls hl => ?_)
      refine lv_goto (tgt := 4) hx hb dX5_readWord_53 (by decide) ?_
      refine lv_iload_n hx hb dX5_readWord_4 rfl (lv_at hl 0 rfl) ?_
      refine lv_iconst (v := 4) hx hb dX5_readWord_5 (by decide) ?_
      refine lv_icmp_ge (tgt := 56) hx hb dX5_readWord_6 (by decide) (fun c_17 => absurd c_17 (by decide)) (fun _ => ?_)
      refine lv_iload_n hx hb dX5_readWord_9 rfl (lv_at hl 0 rfl) ?_
      refine va_csq (va_runS (As := [.int 2]) (rest := []) ⟨hx, hb, hml, hown, hts⟩ (c_text2 l dC dI sK sV) (va_cwS 1 hts gX5_readWord_X5_textOf rfl rfl rfl hd_yX5_textOf.2 ⟨Nat.le_of_ble_eq_true rfl, Nat.le_of_ble_eq_true rfl⟩) ⟨fun a U g mk q => by obtain ⟨q0, qhE⟩ := q; exact ⟨q0, qhE.same rfl rfl⟩, fun U hU hW => ⟨rfl, hE.callF hS hU hW⟩⟩ rfl rfl hl.1 rfl (lv_room (Nat.le_of_ble_eq_true rfl)) dX5_readWord_10 ⟨Nat.le_of_ble_eq_true rfl, Nat.le_of_ble_eq_true rfl⟩).run (fun r_18 hw_19 => ?_)
      refine qq_as (v := .ref (sK 2)) (by rw [hw_19]; rfl) ?_
      refine lv_astore_n (lv' := [(3, .ref (sK 2)), (2, .int 2), (1, .int (nI (max (max 0 (mlen ss ep (sTx 0))) (mlen ss ep (sTx 1))))), (4, .int (nI (mlen ss ep (sTx 1)))), (0, .ref bl)]) hx hb dX5_readWord_13 rfl hl (by decide) rfl (fun ls hl => ?_)
      refine lv_aload_n hx hb dX5_readWord_14 rfl (lv_at hl 4 rfl) ?_
      refine lv_aload_n hx hb dX5_readWord_15 rfl (lv_at hl 0 rfl) ?_
      have hPc := hP.sub (ws' := [(zo7iirrrririii bl esg (nI ecl) eW eA eE eC (nI ecd) aTp (nI ez) (nI ep) (nI em)), (zaI aTp cTp 100 fTp)]) [0, 1] rfl
      have hKc := hK.sub (tys' := [(cTp, .int)]) [0] rfl
      refine vp_callSi (va_runV (As := [.ref (sK 2)]) (rest := []) ⟨hx, hb, hml, hown, hts⟩ (c_sameSigns l dC dI sK sV bl aTp eW eA eE eC 2 ecl ecd esg cTp fTp ez ep em ss (hez) (hep) (by decide) (gX)) (cwV 1 hts gX5_readWord_X5_sameSigns rfl rfl rfl hd_yX5_sameSigns ⟨Nat.le_of_ble_eq_true rfl, Nat.le_of_ble_eq_true rfl⟩) ⟨fun a U g mk q => by obtain ⟨q0, qP, qK, qhE⟩ := q; exact ⟨q0, qP, va_K.moved (u := U) (U := U.calling g mk a) (Vm.Alike.refl U.vm) qK, qhE.same rfl rfl⟩, va_recv hK hP (ci := 7) (q := (RX5, TX5, 11)) (q0 := 0) rfl rfl, fun U hU hW => ⟨rfl, by rw [hU]; exact hPc, va_K.moved hW.alike hKc, hE.callF hS hU hW⟩⟩ rfl rfl hl.1 rfl (lv_room (Nat.le_of_ble_eq_true rfl)) dX5_readWord_16 ⟨Nat.le_of_ble_eq_true rfl, Nat.le_of_ble_eq_true rfl⟩).run (fun r_20 hw_21 => ?_)
      obtain ⟨rfl, hm2a, hm2b⟩ := hw_21
      have hm2a : mlen ss ep (sTx 2) ≤ 6 := hm2a
      refine lv_istore (lv' := [(4, .int (nI (mlen ss ep (sTx 2)))), (3, .ref (sK 2)), (2, .int 2), (1, .int (nI (max (max 0 (mlen ss ep (sTx 0))) (mlen ss ep (sTx 1))))), (0, .ref bl)]) hx hb dX5_readWord_19 hl (by decide) rfl (fun ls hl => ?_)
      refine lv_iload_n hx hb dX5_readWord_21 rfl (lv_at hl 3 rfl) ?_
      refine lv_iload hx hb dX5_readWord_22 (lv_at hl 0 rfl) ?_
      refine va_mmax hx hb (by rw [hml]; exact hl.1.symm) hown (hts (.methodLink RX5 70 Lib.Math.max.name) kc_readWord_0) (hts (.static Lib.Math.max.name) kc_readWord_1) (hts (.initialized "java/lang/Math") kc_readWord_2) (hts (.code Lib.Math.max.name Lib.Math.max.code 2 (some .int)) kc_readWord_3) (Nat.le_of_ble_eq_true rfl) (Nat.le_of_ble_eq_true rfl) (Nat.le_of_ble_eq_true rfl) (Nat.le_of_ble_eq_true rfl) dX5_readWord_24 ?_
      refine qi_as (y := nI (max (max (max 0 (mlen ss ep (sTx 0))) (mlen ss ep (sTx 1))) (mlen ss ep (sTx 2)))) (mx_eq (a := max (max 0 (mlen ss ep (sTx 0))) (mlen ss ep (sTx 1))) (b := mlen ss ep (sTx 2)) (by omega) (by omega)) ?_
      refine lv_istore_n (lv' := [(1, .int (nI (max (max (max 0 (mlen ss ep (sTx 0))) (mlen ss ep (sTx 1))) (mlen ss ep (sTx 2))))), (4, .int (nI (mlen ss ep (sTx 2)))), (3, .ref (sK 2)), (2, .int 2), (0, .ref bl)]) hx hb dX5_readWord_27 rfl hl (by decide) rfl (fun ls hl => ?_)
      refine lv_iload hx hb dX5_readWord_28 (lv_at hl 1 rfl) ?_
      refine lv_aload_n hx hb dX5_readWord_30 rfl (lv_at hl 2 rfl) ?_
      refine vp_callSi (va_runV (As := []) (rest := [.int (nI (mlen ss ep (sTx 2)))]) ⟨hx, hb, hml, hown, hts⟩ (c_len l dC dI sK sV 2 (by decide)) (cwV 0 hts gX5_readWord_J0_length_8abf5 rfl rfl rfl hd_yJ0_length_8abf5 ⟨Nat.le_of_ble_eq_true rfl, Nat.le_of_ble_eq_true rfl⟩) ⟨fun a U g mk q => by obtain ⟨q0, qhE⟩ := q; exact ⟨q0, qhE.same rfl rfl⟩, va_Orecv (hE.2.1 2 (by decide)).1 hS, fun U hU hW => ⟨rfl, hE.callF hS hU hW⟩⟩ rfl rfl hl.1 rfl (lv_room (Nat.le_of_ble_eq_true rfl)) dX5_readWord_31 ⟨Nat.le_of_ble_eq_true rfl, Nat.le_of_ble_eq_true rfl⟩).run (fun r_22 hw_23 => ?_)
      refine qi_as (y := nI 6) (hw_23.trans rfl) ?_
      refine lv_icmp_ne (tgt := 50) hx hb dX5_readWord_34 (by decide) (fun c_24 => ?_) (fun c_24 => ?_)
      · skip
        have c_24 : ¬ (mlen ss ep (sTx 2)) = 6 := fun q => c_24 ((nI_eq (a := (mlen ss ep (sTx 2))) (b := 6) (by omega) (by omega)).mpr q)
        refine lv_iinc (v := 3) (lv' := [(2, .int 3), (1, .int (nI (max (max (max 0 (mlen ss ep (sTx 0))) (mlen ss ep (sTx 1))) (mlen ss ep (sTx 2))))), (4, .int (nI (mlen ss ep (sTx 2)))), (3, .ref (sK 2)), (0, .ref bl)]) hx hb dX5_readWord_50 hl (k := 3) rfl (by decide) (by decide) rfl (fun ls hl => ?_)
        refine lv_goto (tgt := 4) hx hb dX5_readWord_53 (by decide) ?_
        refine lv_iload_n hx hb dX5_readWord_4 rfl (lv_at hl 0 rfl) ?_
        refine lv_iconst (v := 4) hx hb dX5_readWord_5 (by decide) ?_
        refine lv_icmp_ge (tgt := 56) hx hb dX5_readWord_6 (by decide) (fun c_25 => absurd c_25 (by decide)) (fun _ => ?_)
        refine lv_iload_n hx hb dX5_readWord_9 rfl (lv_at hl 0 rfl) ?_
        refine va_csq (va_runS (As := [.int 3]) (rest := []) ⟨hx, hb, hml, hown, hts⟩ (c_text3 l dC dI sK sV) (va_cwS 1 hts gX5_readWord_X5_textOf rfl rfl rfl hd_yX5_textOf.2 ⟨Nat.le_of_ble_eq_true rfl, Nat.le_of_ble_eq_true rfl⟩) ⟨fun a U g mk q => by obtain ⟨q0, qhE⟩ := q; exact ⟨q0, qhE.same rfl rfl⟩, fun U hU hW => ⟨rfl, hE.callF hS hU hW⟩⟩ rfl rfl hl.1 rfl (lv_room (Nat.le_of_ble_eq_true rfl)) dX5_readWord_10 ⟨Nat.le_of_ble_eq_true rfl, Nat.le_of_ble_eq_true rfl⟩).run (fun r_26 hw_27 => ?_)
        refine qq_as (v := .ref (sK 3)) (by rw [hw_27]; rfl) ?_
        refine lv_astore_n (lv' := [(3, .ref (sK 3)), (2, .int 3), (1, .int (nI (max (max (max 0 (mlen ss ep (sTx 0))) (mlen ss ep (sTx 1))) (mlen ss ep (sTx 2))))), (4, .int (nI (mlen ss ep (sTx 2)))), (0, .ref bl)]) hx hb dX5_readWord_13 rfl hl (by decide) rfl (fun ls hl => ?_)
        refine lv_aload_n hx hb dX5_readWord_14 rfl (lv_at hl 4 rfl) ?_
        refine lv_aload_n hx hb dX5_readWord_15 rfl (lv_at hl 0 rfl) ?_
        have hPc := hP.sub (ws' := [(zo7iirrrririii bl esg (nI ecl) eW eA eE eC (nI ecd) aTp (nI ez) (nI ep) (nI em)), (zaI aTp cTp 100 fTp)]) [0, 1] rfl
        have hKc := hK.sub (tys' := [(cTp, .int)]) [0] rfl
        refine vp_callSi (va_runV (As := [.ref (sK 3)]) (rest := []) ⟨hx, hb, hml, hown, hts⟩ (c_sameSigns l dC dI sK sV bl aTp eW eA eE eC 3 ecl ecd esg cTp fTp ez ep em ss (hez) (hep) (by decide) (gX)) (cwV 1 hts gX5_readWord_X5_sameSigns rfl rfl rfl hd_yX5_sameSigns ⟨Nat.le_of_ble_eq_true rfl, Nat.le_of_ble_eq_true rfl⟩) ⟨fun a U g mk q => by obtain ⟨q0, qP, qK, qhE⟩ := q; exact ⟨q0, qP, va_K.moved (u := U) (U := U.calling g mk a) (Vm.Alike.refl U.vm) qK, qhE.same rfl rfl⟩, va_recv hK hP (ci := 7) (q := (RX5, TX5, 11)) (q0 := 0) rfl rfl, fun U hU hW => ⟨rfl, by rw [hU]; exact hPc, va_K.moved hW.alike hKc, hE.callF hS hU hW⟩⟩ rfl rfl hl.1 rfl (lv_room (Nat.le_of_ble_eq_true rfl)) dX5_readWord_16 ⟨Nat.le_of_ble_eq_true rfl, Nat.le_of_ble_eq_true rfl⟩).run (fun r_28 hw_29 => ?_)
        obtain ⟨rfl, hm3a, hm3b⟩ := hw_29
        have hm3a : mlen ss ep (sTx 3) ≤ 6 := hm3a
        refine lv_istore (lv' := [(4, .int (nI (mlen ss ep (sTx 3)))), (3, .ref (sK 3)), (2, .int 3), (1, .int (nI (max (max (max 0 (mlen ss ep (sTx 0))) (mlen ss ep (sTx 1))) (mlen ss ep (sTx 2))))), (0, .ref bl)]) hx hb dX5_readWord_19 hl (by decide) rfl (fun ls hl => ?_)
        refine lv_iload_n hx hb dX5_readWord_21 rfl (lv_at hl 3 rfl) ?_
        refine lv_iload hx hb dX5_readWord_22 (lv_at hl 0 rfl) ?_
        refine va_mmax hx hb (by rw [hml]; exact hl.1.symm) hown (hts (.methodLink RX5 70 Lib.Math.max.name) kc_readWord_0) (hts (.static Lib.Math.max.name) kc_readWord_1) (hts (.initialized "java/lang/Math") kc_readWord_2) (hts (.code Lib.Math.max.name Lib.Math.max.code 2 (some .int)) kc_readWord_3) (Nat.le_of_ble_eq_true rfl) (Nat.le_of_ble_eq_true rfl) (Nat.le_of_ble_eq_true rfl) (Nat.le_of_ble_eq_true rfl) dX5_readWord_24 ?_
        refine qi_as (y := nI (max (max (max (max 0 (mlen ss ep (sTx 0))) (mlen ss ep (sTx 1))) (mlen ss ep (sTx 2))) (mlen ss ep (sTx 3)))) (mx_eq (a := max (max (max 0 (mlen ss ep (sTx 0))) (mlen ss ep (sTx 1))) (mlen ss ep (sTx 2))) (b := mlen ss ep (sTx 3)) (by omega) (by omega)) ?_
        refine lv_istore_n (lv' := [(1, .int (nI (max (max (max (max 0 (mlen ss ep (sTx 0))) (mlen ss ep (sTx 1))) (mlen ss ep (sTx 2))) (mlen ss ep (sTx 3))))), (4, .int (nI (mlen ss ep (sTx 3)))), (3, .ref (sK 3)), (2, .int 3), (0, .ref bl)]) hx hb dX5_readWord_27 rfl hl (by decide) rfl (fun ls hl => ?_)
        refine lv_iload hx hb dX5_readWord_28 (lv_at hl 1 rfl) ?_
        refine lv_aload_n hx hb dX5_readWord_30 rfl (lv_at hl 2 rfl) ?_
        refine vp_callSi (va_runV (As := []) (rest := [.int (nI (mlen ss ep (sTx 3)))]) ⟨hx, hb, hml, hown, hts⟩ (c_len l dC dI sK sV 3 (by decide)) (cwV 0 hts gX5_readWord_J0_length_8abf5 rfl rfl rfl hd_yJ0_length_8abf5 ⟨Nat.le_of_ble_eq_true rfl, Nat.le_of_ble_eq_true rfl⟩) ⟨fun a U g mk q => by obtain ⟨q0, qhE⟩ := q; exact ⟨q0, qhE.same rfl rfl⟩, va_Orecv (hE.2.1 3 (by decide)).1 hS, fun U hU hW => ⟨rfl, hE.callF hS hU hW⟩⟩ rfl rfl hl.1 rfl (lv_room (Nat.le_of_ble_eq_true rfl)) dX5_readWord_31 ⟨Nat.le_of_ble_eq_true rfl, Nat.le_of_ble_eq_true rfl⟩).run (fun r_30 hw_31 => ?_)
        refine qi_as (y := nI 6) (hw_31.trans rfl) ?_
        refine lv_icmp_ne (tgt := 50) hx hb dX5_readWord_34 (by decide) (fun c_32 => ?_) (fun c_32 => ?_)
        · skip
          have c_32 : ¬ (mlen ss ep (sTx 3)) = 6 := fun q => c_32 ((nI_eq (a := (mlen ss ep (sTx 3))) (b := 6) (by omega) (by omega)).mpr q)
          refine lv_iinc (v := 4) (lv' := [(2, .int 4), (1, .int (nI (max (max (max (max 0 (mlen ss ep (sTx 0))) (mlen ss ep (sTx 1))) (mlen ss ep (sTx 2))) (mlen ss ep (sTx 3))))), (4, .int (nI (mlen ss ep (sTx 3)))), (3, .ref (sK 3)), (0, .ref bl)]) hx hb dX5_readWord_50 hl (k := 3) rfl (by decide) (by decide) rfl (fun ls hl => ?_)
          refine lv_goto (tgt := 4) hx hb dX5_readWord_53 (by decide) ?_
          refine lv_iload_n hx hb dX5_readWord_4 rfl (lv_at hl 0 rfl) ?_
          refine lv_iconst (v := 4) hx hb dX5_readWord_5 (by decide) ?_
          refine lv_icmp_ge (tgt := 56) hx hb dX5_readWord_6 (by decide) (fun _ => ?_) (fun c_33 => absurd c_33 (by decide))
          refine lv_aload_n hx hb dX5_readWord_56 rfl (lv_at hl 4 rfl) ?_
          refine lv_dup hx hb dX5_readWord_57 rfl ?_
          refine va_get (D := (dC, dI)) (ci := 7) (v := .int (nI ep)) (C := RX5) (T := TX5) (N := 11) hx hb hts kc_readWord_4 hown hK hP 0 rfl rfl 9 (by decide) (hts (.fieldLink RX5 34 "MistHeaps$Hill" "at" "I") kc_readWord_5) (fun _ h9 => h9) rfl dX5_readWord_58 ?_
          refine lv_iload_n hx hb dX5_readWord_61 rfl (lv_at hl 1 rfl) ?_
          refine lv_iadd hx hb dX5_readWord_62 ?_
          refine qi_as (y := nI (ep + (max (max (max (max 0 (mlen ss ep (sTx 0))) (mlen ss ep (sTx 1))) (mlen ss ep (sTx 2))) (mlen ss ep (sTx 3))))) (nI_add ep (max (max (max (max 0 (mlen ss ep (sTx 0))) (mlen ss ep (sTx 1))) (mlen ss ep (sTx 2))) (mlen ss ep (sTx 3)))) ?_
          refine va_put (D := (dC, dI)) (ci := 7) (v := .int (nI (ep + (max (max (max (max 0 (mlen ss ep (sTx 0))) (mlen ss ep (sTx 1))) (mlen ss ep (sTx 2))) (mlen ss ep (sTx 3)))))) (ty := .int) (C := RX5) (T := TX5) (N := 11) hx hb hts kc_readWord_4 tyX5 tyX5_ok nmX5 hown hK hP hD hS 0 rfl rfl 9 (by decide) (hts (.fieldLink RX5 34 "MistHeaps$Hill" "at" "I") kc_readWord_5) (fun _ h9 => h9) rfl (by decide +kernel) rfl rfl (Nat.le_of_ble_eq_true rfl) dX5_readWord_63 (fun H locs hP hD hS => ?_)
          have hP : va_P (dC, dI) vwCl [(zo7iirrrririii bl esg (nI ecl) eW eA eE eC (nI ecd) aTp (nI ez) (nI (ep + (max (max (max (max 0 (mlen ss ep (sTx 0))) (mlen ss ep (sTx 1))) (mlen ss ep (sTx 2))) (mlen ss ep (sTx 3))))) (nI em)), (zaI aTp cTp 100 fTp)] H := hP
          have hD : va_D A [(zo7iirrrririii bl esg (nI ecl) eW eA eE eC (nI ecd) aTp (nI ez) (nI (ep + (max (max (max (max 0 (mlen ss ep (sTx 0))) (mlen ss ep (sTx 1))) (mlen ss ep (sTx 2))) (mlen ss ep (sTx 3))))) (nI em)), (zaI aTp cTp 100 fTp)] := hD
          refine lv_iconst (v := (-1)) hx hb dX5_readWord_66 (by decide) ?_
          rw [hQ]
          have hP9 := hP.sub (ws' := [(zo7iirrrririii bl esg (nI ecl) eW eA eE eC (nI ecd) aTp (nI ez) (nI (ep + (max (max (max (max 0 (mlen ss ep (sTx 0))) (mlen ss ep (sTx 1))) (mlen ss ep (sTx 2))) (mlen ss ep (sTx 3))))) (nI em)), (zaI aTp cTp 100 fTp)]) [0, 1] rfl
          have hD9 := hD.sub (ws' := [(zo7iirrrririii bl esg (nI ecl) eW eA eE eC (nI ecd) aTp (nI ez) (nI (ep + (max (max (max (max 0 (mlen ss ep (sTx 0))) (mlen ss ep (sTx 1))) (mlen ss ep (sTx 2))) (mlen ss ep (sTx 3))))) (nI em)), (zaI aTp cTp 100 fTp)]) [0, 1] (by decide) rfl
          have hK9 := hK.sub (tys' := [(cTp, .int)]) [0] rfl
          exact W.iret (v := (-1)) hx hb hr (fun tQ htQ hWQ => ⟨⟨(-1), (ep + (max (max (max (max 0 (mlen ss ep (sTx 0))) (mlen ss ep (sTx 1))) (mlen ss ep (sTx 2))) (mlen ss ep (sTx 3)))), rfl, ⟨by omega, by omega, Or.inl ⟨rfl, by rw [pWord, if_neg c_8, if_neg c_16, if_neg c_24, if_neg c_32]⟩⟩, by rw [htQ]; exact hP9, va_K.moved hWQ.alike hK9, hD9⟩, hS.F htQ⟩) hS.2.2 dX5_readWord_67
        · skip
          have c_32 : (mlen ss ep (sTx 3)) = 6 := (nI_eq (a := (mlen ss ep (sTx 3))) (b := 6) (by omega) (by omega)).mp c_32
          refine lv_aload_n hx hb dX5_readWord_37 rfl (lv_at hl 4 rfl) ?_
          refine lv_dup hx hb dX5_readWord_38 rfl ?_
          refine va_get (D := (dC, dI)) (ci := 7) (v := .int (nI ep)) (C := RX5) (T := TX5) (N := 11) hx hb hts kc_readWord_4 hown hK hP 0 rfl rfl 9 (by decide) (hts (.fieldLink RX5 34 "MistHeaps$Hill" "at" "I") kc_readWord_5) (fun _ h9 => h9) rfl dX5_readWord_39 ?_
          refine lv_iload hx hb dX5_readWord_42 (lv_at hl 1 rfl) ?_
          refine lv_iadd hx hb dX5_readWord_44 ?_
          refine qi_as (y := nI (ep + (mlen ss ep (sTx 3)))) (nI_add ep (mlen ss ep (sTx 3))) ?_
          refine va_put (D := (dC, dI)) (ci := 7) (v := .int (nI (ep + (mlen ss ep (sTx 3))))) (ty := .int) (C := RX5) (T := TX5) (N := 11) hx hb hts kc_readWord_4 tyX5 tyX5_ok nmX5 hown hK hP hD hS 0 rfl rfl 9 (by decide) (hts (.fieldLink RX5 34 "MistHeaps$Hill" "at" "I") kc_readWord_5) (fun _ h9 => h9) rfl (by decide +kernel) rfl rfl (Nat.le_of_ble_eq_true rfl) dX5_readWord_45 (fun H locs hP hD hS => ?_)
          have hP : va_P (dC, dI) vwCl [(zo7iirrrririii bl esg (nI ecl) eW eA eE eC (nI ecd) aTp (nI ez) (nI (ep + (mlen ss ep (sTx 3)))) (nI em)), (zaI aTp cTp 100 fTp)] H := hP
          have hD : va_D A [(zo7iirrrririii bl esg (nI ecl) eW eA eE eC (nI ecd) aTp (nI ez) (nI (ep + (mlen ss ep (sTx 3)))) (nI em)), (zaI aTp cTp 100 fTp)] := hD
          refine lv_iload_n hx hb dX5_readWord_48 rfl (lv_at hl 3 rfl) ?_
          rw [hQ]
          have hP9 := hP.sub (ws' := [(zo7iirrrririii bl esg (nI ecl) eW eA eE eC (nI ecd) aTp (nI ez) (nI (ep + (mlen ss ep (sTx 3)))) (nI em)), (zaI aTp cTp 100 fTp)]) [0, 1] rfl
          have hD9 := hD.sub (ws' := [(zo7iirrrririii bl esg (nI ecl) eW eA eE eC (nI ecd) aTp (nI ez) (nI (ep + (mlen ss ep (sTx 3)))) (nI em)), (zaI aTp cTp 100 fTp)]) [0, 1] (by decide) rfl
          have hK9 := hK.sub (tys' := [(cTp, .int)]) [0] rfl
          exact W.iret (v := 3) hx hb hr (fun tQ htQ hWQ => ⟨⟨3, (ep + (mlen ss ep (sTx 3))), rfl, ⟨by omega, by omega, Or.inr ⟨3, by omega, rfl, by rw [pWord, if_neg c_8, if_neg c_16, if_neg c_24, if_pos c_32, c_32]⟩⟩, by rw [htQ]; exact hP9, va_K.moved hWQ.alike hK9, hD9⟩, hS.F htQ⟩) hS.2.2 dX5_readWord_49
      · skip
        have c_24 : (mlen ss ep (sTx 2)) = 6 := (nI_eq (a := (mlen ss ep (sTx 2))) (b := 6) (by omega) (by omega)).mp c_24
        refine lv_aload_n hx hb dX5_readWord_37 rfl (lv_at hl 4 rfl) ?_
        refine lv_dup hx hb dX5_readWord_38 rfl ?_
        refine va_get (D := (dC, dI)) (ci := 7) (v := .int (nI ep)) (C := RX5) (T := TX5) (N := 11) hx hb hts kc_readWord_4 hown hK hP 0 rfl rfl 9 (by decide) (hts (.fieldLink RX5 34 "MistHeaps$Hill" "at" "I") kc_readWord_5) (fun _ h9 => h9) rfl dX5_readWord_39 ?_
        refine lv_iload hx hb dX5_readWord_42 (lv_at hl 1 rfl) ?_
        refine lv_iadd hx hb dX5_readWord_44 ?_
        refine qi_as (y := nI (ep + (mlen ss ep (sTx 2)))) (nI_add ep (mlen ss ep (sTx 2))) ?_
        refine va_put (D := (dC, dI)) (ci := 7) (v := .int (nI (ep + (mlen ss ep (sTx 2))))) (ty := .int) (C := RX5) (T := TX5) (N := 11) hx hb hts kc_readWord_4 tyX5 tyX5_ok nmX5 hown hK hP hD hS 0 rfl rfl 9 (by decide) (hts (.fieldLink RX5 34 "MistHeaps$Hill" "at" "I") kc_readWord_5) (fun _ h9 => h9) rfl (by decide +kernel) rfl rfl (Nat.le_of_ble_eq_true rfl) dX5_readWord_45 (fun H locs hP hD hS => ?_)
        have hP : va_P (dC, dI) vwCl [(zo7iirrrririii bl esg (nI ecl) eW eA eE eC (nI ecd) aTp (nI ez) (nI (ep + (mlen ss ep (sTx 2)))) (nI em)), (zaI aTp cTp 100 fTp)] H := hP
        have hD : va_D A [(zo7iirrrririii bl esg (nI ecl) eW eA eE eC (nI ecd) aTp (nI ez) (nI (ep + (mlen ss ep (sTx 2)))) (nI em)), (zaI aTp cTp 100 fTp)] := hD
        refine lv_iload_n hx hb dX5_readWord_48 rfl (lv_at hl 3 rfl) ?_
        rw [hQ]
        have hP9 := hP.sub (ws' := [(zo7iirrrririii bl esg (nI ecl) eW eA eE eC (nI ecd) aTp (nI ez) (nI (ep + (mlen ss ep (sTx 2)))) (nI em)), (zaI aTp cTp 100 fTp)]) [0, 1] rfl
        have hD9 := hD.sub (ws' := [(zo7iirrrririii bl esg (nI ecl) eW eA eE eC (nI ecd) aTp (nI ez) (nI (ep + (mlen ss ep (sTx 2)))) (nI em)), (zaI aTp cTp 100 fTp)]) [0, 1] (by decide) rfl
        have hK9 := hK.sub (tys' := [(cTp, .int)]) [0] rfl
        exact W.iret (v := 2) hx hb hr (fun tQ htQ hWQ => ⟨⟨2, (ep + (mlen ss ep (sTx 2))), rfl, ⟨by omega, by omega, Or.inr ⟨2, by omega, rfl, by rw [pWord, if_neg c_8, if_neg c_16, if_pos c_24, c_24]⟩⟩, by rw [htQ]; exact hP9, va_K.moved hWQ.alike hK9, hD9⟩, hS.F htQ⟩) hS.2.2 dX5_readWord_49
    · skip
      have c_16 : (mlen ss ep (sTx 1)) = 5 := (nI_eq (a := (mlen ss ep (sTx 1))) (b := 5) (by omega) (by omega)).mp c_16
      refine lv_aload_n hx hb dX5_readWord_37 rfl (lv_at hl 4 rfl) ?_
      refine lv_dup hx hb dX5_readWord_38 rfl ?_
      refine va_get (D := (dC, dI)) (ci := 7) (v := .int (nI ep)) (C := RX5) (T := TX5) (N := 11) hx hb hts kc_readWord_4 hown hK hP 0 rfl rfl 9 (by decide) (hts (.fieldLink RX5 34 "MistHeaps$Hill" "at" "I") kc_readWord_5) (fun _ h9 => h9) rfl dX5_readWord_39 ?_
      refine lv_iload hx hb dX5_readWord_42 (lv_at hl 1 rfl) ?_
      refine lv_iadd hx hb dX5_readWord_44 ?_
      refine qi_as (y := nI (ep + (mlen ss ep (sTx 1)))) (nI_add ep (mlen ss ep (sTx 1))) ?_
      refine va_put (D := (dC, dI)) (ci := 7) (v := .int (nI (ep + (mlen ss ep (sTx 1))))) (ty := .int) (C := RX5) (T := TX5) (N := 11) hx hb hts kc_readWord_4 tyX5 tyX5_ok nmX5 hown hK hP hD hS 0 rfl rfl 9 (by decide) (hts (.fieldLink RX5 34 "MistHeaps$Hill" "at" "I") kc_readWord_5) (fun _ h9 => h9) rfl (by decide +kernel) rfl rfl (Nat.le_of_ble_eq_true rfl) dX5_readWord_45 (fun H locs hP hD hS => ?_)
      have hP : va_P (dC, dI) vwCl [(zo7iirrrririii bl esg (nI ecl) eW eA eE eC (nI ecd) aTp (nI ez) (nI (ep + (mlen ss ep (sTx 1)))) (nI em)), (zaI aTp cTp 100 fTp)] H := hP
      have hD : va_D A [(zo7iirrrririii bl esg (nI ecl) eW eA eE eC (nI ecd) aTp (nI ez) (nI (ep + (mlen ss ep (sTx 1)))) (nI em)), (zaI aTp cTp 100 fTp)] := hD
      refine lv_iload_n hx hb dX5_readWord_48 rfl (lv_at hl 3 rfl) ?_
      rw [hQ]
      have hP9 := hP.sub (ws' := [(zo7iirrrririii bl esg (nI ecl) eW eA eE eC (nI ecd) aTp (nI ez) (nI (ep + (mlen ss ep (sTx 1)))) (nI em)), (zaI aTp cTp 100 fTp)]) [0, 1] rfl
      have hD9 := hD.sub (ws' := [(zo7iirrrririii bl esg (nI ecl) eW eA eE eC (nI ecd) aTp (nI ez) (nI (ep + (mlen ss ep (sTx 1)))) (nI em)), (zaI aTp cTp 100 fTp)]) [0, 1] (by decide) rfl
      have hK9 := hK.sub (tys' := [(cTp, .int)]) [0] rfl
      exact W.iret (v := 1) hx hb hr (fun tQ htQ hWQ => ⟨⟨1, (ep + (mlen ss ep (sTx 1))), rfl, ⟨by omega, by omega, Or.inr ⟨1, by omega, rfl, by rw [pWord, if_neg c_8, if_pos c_16, c_16]⟩⟩, by rw [htQ]; exact hP9, va_K.moved hWQ.alike hK9, hD9⟩, hS.F htQ⟩) hS.2.2 dX5_readWord_49
  · skip
    have c_8 : (mlen ss ep (sTx 0)) = 4 := (nI_eq (a := (mlen ss ep (sTx 0))) (b := 4) (by omega) (by omega)).mp c_8
    refine lv_aload_n hx hb dX5_readWord_37 rfl (lv_at hl 4 rfl) ?_
    refine lv_dup hx hb dX5_readWord_38 rfl ?_
    refine va_get (D := (dC, dI)) (ci := 7) (v := .int (nI ep)) (C := RX5) (T := TX5) (N := 11) hx hb hts kc_readWord_4 hown hK hP 0 rfl rfl 9 (by decide) (hts (.fieldLink RX5 34 "MistHeaps$Hill" "at" "I") kc_readWord_5) (fun _ h9 => h9) rfl dX5_readWord_39 ?_
    refine lv_iload hx hb dX5_readWord_42 (lv_at hl 1 rfl) ?_
    refine lv_iadd hx hb dX5_readWord_44 ?_
    refine qi_as (y := nI (ep + (mlen ss ep (sTx 0)))) (nI_add ep (mlen ss ep (sTx 0))) ?_
    refine va_put (D := (dC, dI)) (ci := 7) (v := .int (nI (ep + (mlen ss ep (sTx 0))))) (ty := .int) (C := RX5) (T := TX5) (N := 11) hx hb hts kc_readWord_4 tyX5 tyX5_ok nmX5 hown hK hP hD hS 0 rfl rfl 9 (by decide) (hts (.fieldLink RX5 34 "MistHeaps$Hill" "at" "I") kc_readWord_5) (fun _ h9 => h9) rfl (by decide +kernel) rfl rfl (Nat.le_of_ble_eq_true rfl) dX5_readWord_45 (fun H locs hP hD hS => ?_)
    have hP : va_P (dC, dI) vwCl [(zo7iirrrririii bl esg (nI ecl) eW eA eE eC (nI ecd) aTp (nI ez) (nI (ep + (mlen ss ep (sTx 0)))) (nI em)), (zaI aTp cTp 100 fTp)] H := hP
    have hD : va_D A [(zo7iirrrririii bl esg (nI ecl) eW eA eE eC (nI ecd) aTp (nI ez) (nI (ep + (mlen ss ep (sTx 0)))) (nI em)), (zaI aTp cTp 100 fTp)] := hD
    refine lv_iload_n hx hb dX5_readWord_48 rfl (lv_at hl 3 rfl) ?_
    rw [hQ]
    have hP9 := hP.sub (ws' := [(zo7iirrrririii bl esg (nI ecl) eW eA eE eC (nI ecd) aTp (nI ez) (nI (ep + (mlen ss ep (sTx 0)))) (nI em)), (zaI aTp cTp 100 fTp)]) [0, 1] rfl
    have hD9 := hD.sub (ws' := [(zo7iirrrririii bl esg (nI ecl) eW eA eE eC (nI ecd) aTp (nI ez) (nI (ep + (mlen ss ep (sTx 0)))) (nI em)), (zaI aTp cTp 100 fTp)]) [0, 1] (by decide) rfl
    have hK9 := hK.sub (tys' := [(cTp, .int)]) [0] rfl
    exact W.iret (v := 0) hx hb hr (fun tQ htQ hWQ => ⟨⟨0, (ep + (mlen ss ep (sTx 0))), rfl, ⟨by omega, by omega, Or.inr ⟨0, by omega, rfl, by rw [pWord, if_pos c_8, c_8]⟩⟩, by rw [htQ]; exact hP9, va_K.moved hWQ.alike hK9, hD9⟩, hS.F htQ⟩) hS.2.2 dX5_readWord_49

theorem kc_xCode_0 : ∀ w ∈ wsX50, w ∈ wsX5_code := fun w h => List.mem_cons_of_mem _ (gin_wsX50 w h)
theorem kc_xCode_1 : (.fieldLink RX5 37 "MistHeaps$Hill" "coded" "I" : Cond) ∈ wsX5_code := kc_of 121 rfl rfl rfl
theorem kc_xCode_2 : (.fieldLink RX5 25 "MistHeaps$Hill" "codes" "[I" : Cond) ∈ wsX5_code := kc_of 120 rfl rfl rfl
set_option maxHeartbeats 4000000 in
set_option maxRecDepth 100000 in
theorem c_xCode (l : Launch) (dC : Nat → ClassId) (dI : Nat → Nat → Nat) (bl : Nat) (aTp : Nat) (eW : Nat) (eA : Nat) (eE : Nat) (eC : Nat) (ecl : Nat) (ecd : Nat) (x : Int32) (esg : Int32) (ceC : ClassId) (feC : Nat → Int32) (ez : Nat) (ep : Nat) (em : Nat) (kt : List Nat) (b0 : Nat) (sz : Nat) (hXT : XT feC ecd kt ep) (hc9 : ecd < 100) (zeC : ∀ k0, k0 < 100 → okC (feC k0)) (hox : okC x) (hct : x = ccd b0) : Met l yX5_code wsX5_code ({ frames := 0, cells := 0, slots := 0, locals := 0 } : Room) (va_Pc [.ref bl, .int x] (fun U => U.heap.size = sz ∧ va_P (dC, dI) vwCl [(zo7iirrrririii bl esg (nI ecl) eW eA eE eC (nI ecd) aTp (nI ez) (nI ep) (nI em)), (zaI eC ceC 100 feC)] U.heap ∧ va_K (dC, dI) vwCl [(ceC, .int)] U ∧ va_D (fun _ => True) [(zo7iirrrririii bl esg (nI ecl) eW eA eE eC (nI ecd) aTp (nI ez) (nI ep) (nI em)), (zaI eC ceC 100 feC)])) (va_Qv (fun (u : (Nat) × (Nat → Int32)) => match u with | (ecd9, feC9) => ecd9 = ecd + 1 ∧ (∀ k0, k0 < 100 → okC (feC9 k0)) ∧ ∀ k0, k0 < ecd + 1 → feC9 k0 = ccd ((kt ++ [b0]).getD k0 0)) (fun (u : (Nat) × (Nat → Int32)) (t : State) => match u with | (ecd9, feC9) => va_P (dC, dI) vwCl [(zo7iirrrririii bl esg (nI ecl) eW eA eE eC (nI ecd9) aTp (nI ez) (nI ep) (nI em)), (zaI eC ceC 100 feC9)] t.heap ∧ va_K (dC, dI) vwCl [(ceC, .int)] t ∧ va_D (va_A [(zo7iirrrririii bl esg (nI ecl) eW eA eE eC (nI ecd) aTp (nI ez) (nI ep) (nI em)), (zaI eC ceC 100 feC)] sz) [(zo7iirrrririii bl esg (nI ecl) eW eA eE eC (nI ecd9) aTp (nI ez) (nI ep) (nI em)), (zaI eC ceC 100 feC9)]) (va_A [(zo7iirrrririii bl esg (nI ecl) eW eA eE eC (nI ecd) aTp (nI ez) (nI ep) (nI em)), (zaI eC ceC 100 feC)] sz)) 0 0 (va_A [(zo7iirrrririii bl esg (nI ecl) eW eA eE eC (nI ecd) aTp (nI ez) (nI ep) (nI em)), (zaI eC ceC 100 feC)] sz) := by
  refine met_ofQ (cc := cX5_code) (maxL := 2) (ret := none) (by decide) rfl ?_
  intro p e s m args below meth c s₁ Q B hml hv hQ
  obtain ⟨rfl, hsz, hP, hK, hD0⟩ := hv
  have hx := B.exec
  have hb := B.bytes
  have hr := B.returns
  have hts := atoms_spec (ws := wsX5_code) B.pre
  have hown : s.vm.findClass RX5 = some m.cls := findClass_of_methodNamed B.named
  have hlocks := B.notSynchronized
  subst hsz
  have hD := hD0.self (sz := s.heap.size)
  generalize hAe : va_A [(zo7iirrrririii bl esg (nI ecl) eW eA eE eC (nI ecd) aTp (nI ez) (nI ep) (nI em)), (zaI eC ceC 100 feC)] s.heap.size = A at hD hQ ⊢
  have hA : ∀ q : Nat, s.heap.size ≤ q → A q := fun q h => by rw [← hAe]; exact Or.inr h
  have hS : va_S A s.heap s.heap [] := va_S.rf
  have hl := lv_entry [.ref bl, .int x] (n := 2) (Nat.le_of_ble_eq_true rfl)
  rw [lg_entry_eq]
  generalize (lg_sl [.ref bl, .int x] ++ List.replicate (2 - (lg_sl [.ref bl, .int x]).length) Slot.unset).toArray = ls at hl ⊢
  generalize hag : ([.ref bl, .int x] : List Value).toArray = args at hts hQ ⊢
  have hl : lv_has ls 2 [(0, .ref bl), (1, .int x)] := hl
  obtain ⟨H, hH⟩ : ∃ H : Heap, H = s.heap := ⟨_, rfl⟩
  rw [← hH] at hP
  rw [← hH]
  have hS : va_S A s.heap H [] := by rw [hH]; exact hS
  obtain ⟨locs, hlo⟩ : ∃ L : List Loc, L = [] := ⟨_, rfl⟩
  rw [← hlo] at hS
  rw [← hlo]
  clear hH hlo
  refine lv_aload_n hx hb dX5_code_0 rfl (lv_at hl 0 rfl) ?_
  refine va_get (D := (dC, dI)) (ci := 7) (v := .int (nI ecd)) (C := RX5) (T := TX5) (N := 11) hx hb hts kc_xCode_0 hown hK hP 0 rfl rfl 6 (by decide) (hts (.fieldLink RX5 37 "MistHeaps$Hill" "coded" "I") kc_xCode_1) (fun _ h9 => h9) rfl dX5_code_1 ?_
  refine lv_bipush (v := 100) hx hb dX5_code_4 (by decide) ?_
  refine lv_icmp_lt (tgt := 10) hx hb dX5_code_6 (by decide) (fun c_1 => ?_) (fun c_1 => ?_)
  · skip
    have c_1 : ecd < 100 := (nI_ltI (a := ecd) (b := 100) (by omega) (by omega)).mp c_1
    refine lv_aload_n hx hb dX5_code_10 rfl (lv_at hl 0 rfl) ?_
    refine va_get (D := (dC, dI)) (ci := 7) (v := .ref eC) (C := RX5) (T := TX5) (N := 11) hx hb hts kc_xCode_0 hown hK hP 0 rfl rfl 5 (by decide) (hts (.fieldLink RX5 25 "MistHeaps$Hill" "codes" "[I") kc_xCode_2) (fun _ h9 => h9) rfl dX5_code_11 ?_
    refine lv_aload_n hx hb dX5_code_14 rfl (lv_at hl 0 rfl) ?_
    refine va_get (D := (dC, dI)) (ci := 7) (v := .int (nI ecd)) (C := RX5) (T := TX5) (N := 11) hx hb hts kc_xCode_0 hown hK hP 0 rfl rfl 6 (by decide) (hts (.fieldLink RX5 37 "MistHeaps$Hill" "coded" "I") kc_xCode_1) (fun _ h9 => h9) rfl dX5_code_15 ?_
    refine lv_iload_n hx hb dX5_code_18 rfl (lv_at hl 1 rfl) ?_
    refine va_iast hx hb hK hP hD hS 1 0 rfl rfl (vp_in_nI (n := ecd) (N := 100) (by omega) (by omega)) dX5_code_19 (fun H locs hP hD hS => ?_)
    rw [nI_clamp (n := ecd) (by omega)] at hP hD
    have hP : va_P (dC, dI) vwCl [(zo7iirrrririii bl esg (nI ecl) eW eA eE eC (nI ecd) aTp (nI ez) (nI ep) (nI em)), (zaI eC ceC 100 (upd feC ecd x))] H := hP
    have hD : va_D A [(zo7iirrrririii bl esg (nI ecl) eW eA eE eC (nI ecd) aTp (nI ez) (nI ep) (nI em)), (zaI eC ceC 100 (upd feC ecd x))] := hD
    refine lv_aload_n hx hb dX5_code_20 rfl (lv_at hl 0 rfl) ?_
    refine lv_dup hx hb dX5_code_21 rfl ?_
    refine va_get (D := (dC, dI)) (ci := 7) (v := .int (nI ecd)) (C := RX5) (T := TX5) (N := 11) hx hb hts kc_xCode_0 hown hK hP 0 rfl rfl 6 (by decide) (hts (.fieldLink RX5 37 "MistHeaps$Hill" "coded" "I") kc_xCode_1) (fun _ h9 => h9) rfl dX5_code_22 ?_
    refine lv_iconst (v := 1) hx hb dX5_code_25 (by decide) ?_
    refine lv_iadd hx hb dX5_code_26 ?_
    refine qi_as (y := nI (ecd + 1)) (nI_add ecd 1) ?_
    refine va_put (D := (dC, dI)) (ci := 7) (v := .int (nI (ecd + 1))) (ty := .int) (C := RX5) (T := TX5) (N := 11) hx hb hts kc_xCode_0 tyX5 tyX5_ok nmX5 hown hK hP hD hS 0 rfl rfl 6 (by decide) (hts (.fieldLink RX5 37 "MistHeaps$Hill" "coded" "I") kc_xCode_1) (fun _ h9 => h9) rfl (by decide +kernel) rfl rfl (Nat.le_of_ble_eq_true rfl) dX5_code_27 (fun H locs hP hD hS => ?_)
    have hP : va_P (dC, dI) vwCl [(zo7iirrrririii bl esg (nI ecl) eW eA eE eC (nI (ecd + 1)) aTp (nI ez) (nI ep) (nI em)), (zaI eC ceC 100 (upd feC ecd x))] H := hP
    have hD : va_D A [(zo7iirrrririii bl esg (nI ecl) eW eA eE eC (nI (ecd + 1)) aTp (nI ez) (nI ep) (nI em)), (zaI eC ceC 100 (upd feC ecd x))] := hD
    rw [hQ]
    have hP9 := hP.sub (ws' := [(zo7iirrrririii bl esg (nI ecl) eW eA eE eC (nI (ecd + 1)) aTp (nI ez) (nI ep) (nI em)), (zaI eC ceC 100 (upd feC ecd x))]) [0, 1] rfl
    have hD9 := hD.sub (ws' := [(zo7iirrrririii bl esg (nI ecl) eW eA eE eC (nI (ecd + 1)) aTp (nI ez) (nI ep) (nI em)), (zaI eC ceC 100 (upd feC ecd x))]) [0, 1] (by decide) rfl
    have hK9 := hK.sub (tys' := [(ceC, .int)]) [0] rfl
    exact W.vret hx hb hr (fun tQ htQ hWQ => ⟨⟨((ecd + 1), (upd feC ecd x)), rfl, ⟨rfl, okC_up zeC hox, hXT.add hct⟩, by rw [htQ]; exact hP9, va_K.moved hWQ.alike hK9, hD9⟩, hS.F htQ⟩) hS.2.2 dX5_code_30
  · skip
    have c_1 : ¬ ecd < 100 := fun q => c_1 ((nI_ltI (a := ecd) (b := 100) (by omega) (by omega)).mpr q)
    exfalso
    omega

theorem kc_readTest_0 : ∀ w ∈ wsX50, w ∈ wsX5_readTest := fun w h => List.mem_cons_of_mem _ (gin_wsX50 w h)
theorem kc_readTest_1 : (.fieldLink RX5 34 "MistHeaps$Hill" "at" "I" : Cond) ∈ wsX5_readTest := kc_of 124 rfl rfl rfl
theorem kc_readTest_2 : (.fieldLink RX5 48 "MistHeaps$Hill" "number" "I" : Cond) ∈ wsX5_readTest := kc_of 125 rfl rfl rfl
set_option maxHeartbeats 4000000 in
set_option maxRecDepth 100000 in
theorem c_readTest (l : Launch) (dC : Nat → ClassId) (dI : Nat → Nat → Nat) (sK sV : Nat → Nat) (bl : Nat) (aTp : Nat) (eW : Nat) (eA : Nat) (eE : Nat) (eC : Nat) (ecl : Nat) (ecd : Nat) (esg : Int32) (cTp : ClassId) (ceC : ClassId) (fTp : Nat → Int32) (feC : Nat → Int32) (ez : Nat) (ep : Nat) (em : Nat) (ss : Nat → Nat) (kt : List Nat) (sz : Nat) (hez : ez ≤ 100) (hep : ep ≤ ez) (hem : em ≤ 99) (hXT : XT feC ecd kt ep) (zeC : ∀ k0, k0 < 100 → okC (feC k0)) (gX : TX fTp ez ss) : Met l yX5_readTest wsX5_readTest ({ frames := 4, cells := 0, slots := 0, locals := 91 } : Room) (va_Pc [.ref bl] (fun U => U.heap.size = sz ∧ va_P (dC, dI) vwCl [(zo7iirrrririii bl esg (nI ecl) eW eA eE eC (nI ecd) aTp (nI ez) (nI ep) (nI em)), (zaI aTp cTp 100 fTp), (zaI eC ceC 100 feC)] U.heap ∧ va_K (dC, dI) vwCl [(cTp, .int), (ceC, .int)] U ∧ va_D (fun _ => True) [(zo7iirrrririii bl esg (nI ecl) eW eA eE eC (nI ecd) aTp (nI ez) (nI ep) (nI em)), (zaI aTp cTp 100 fTp), (zaI eC ceC 100 feC)] ∧ Gs sK sV (va_A [(zo7iirrrririii bl esg (nI ecl) eW eA eE eC (nI ecd) aTp (nI ez) (nI ep) (nI em)), (zaI aTp cTp 100 fTp), (zaI eC ceC 100 feC)] sz) U)) (va_Qi (fun (r : Int32) (u : (Nat) × (Nat) × (Nat) × (Nat → Int32)) => match u with | (ecd9, ep9, em9, feC9) => (r = 1 ∧ ∃ L0 : List Nat, pTest ss ep = (some L0, ep9) ∧ ep + 3 ≤ ep9 ∧ ep9 ≤ ez ∧ em9 ≤ 99 ∧ L0.length + ep ≤ ep9 ∧ XT feC9 ecd9 (kt ++ L0) ep9 ∧ ∀ k0, k0 < 100 → okC (feC9 k0)) ∨ (r = 0 ∧ pTest ss ep = (none, ep9) ∧ ep9 ≤ ez + 2 ∧ em9 ≤ 99 ∧ ecd9 ≤ 100 ∧ ∀ k0, k0 < 100 → okC (feC9 k0))) (fun (u : (Nat) × (Nat) × (Nat) × (Nat → Int32)) (t : State) => match u with | (ecd9, ep9, em9, feC9) => va_P (dC, dI) vwCl [(zo7iirrrririii bl esg (nI ecl) eW eA eE eC (nI ecd9) aTp (nI ez) (nI ep9) (nI em9)), (zaI aTp cTp 100 fTp), (zaI eC ceC 100 feC9)] t.heap ∧ va_K (dC, dI) vwCl [(cTp, .int), (ceC, .int)] t ∧ va_D (va_A [(zo7iirrrririii bl esg (nI ecl) eW eA eE eC (nI ecd) aTp (nI ez) (nI ep) (nI em)), (zaI aTp cTp 100 fTp), (zaI eC ceC 100 feC)] sz) [(zo7iirrrririii bl esg (nI ecl) eW eA eE eC (nI ecd9) aTp (nI ez) (nI ep9) (nI em9)), (zaI aTp cTp 100 fTp), (zaI eC ceC 100 feC9)]) (va_A [(zo7iirrrririii bl esg (nI ecl) eW eA eE eC (nI ecd) aTp (nI ez) (nI ep) (nI em)), (zaI aTp cTp 100 fTp), (zaI eC ceC 100 feC)] sz)) 0 0 (va_A [(zo7iirrrririii bl esg (nI ecl) eW eA eE eC (nI ecd) aTp (nI ez) (nI ep) (nI em)), (zaI aTp cTp 100 fTp), (zaI eC ceC 100 feC)] sz) := by
  refine met_ofQ (cc := cX5_readTest) (maxL := 3) (ret := (some .boolean)) (by decide) rfl ?_
  intro p e s m args below meth c s₁ Q B hml hv hQ
  obtain ⟨rfl, hsz, hP, hK, hD0, hE⟩ := hv
  have hx := B.exec
  have hb := B.bytes
  have hr := B.returns
  have hts := atoms_spec (ws := wsX5_readTest) B.pre
  have hown : s.vm.findClass RX5 = some m.cls := findClass_of_methodNamed B.named
  have hlocks := B.notSynchronized
  subst hsz
  have hD := hD0.self (sz := s.heap.size)
  generalize hAe : va_A [(zo7iirrrririii bl esg (nI ecl) eW eA eE eC (nI ecd) aTp (nI ez) (nI ep) (nI em)), (zaI aTp cTp 100 fTp), (zaI eC ceC 100 feC)] s.heap.size = A at hD hQ hE ⊢
  have hA : ∀ q : Nat, s.heap.size ≤ q → A q := fun q h => by rw [← hAe]; exact Or.inr h
  have hS : va_S A s.heap s.heap [] := va_S.rf
  have hl := lv_entry [.ref bl] (n := 3) (Nat.le_of_ble_eq_true rfl)
  rw [lg_entry_eq]
  generalize (lg_sl [.ref bl] ++ List.replicate (3 - (lg_sl [.ref bl]).length) Slot.unset).toArray = ls at hl ⊢
  generalize hag : ([.ref bl] : List Value).toArray = args at hts hQ ⊢
  have hl : lv_has ls 3 [(0, .ref bl)] := hl
  obtain ⟨H, hH⟩ : ∃ H : Heap, H = s.heap := ⟨_, rfl⟩
  rw [← hH] at hP
  rw [← hH]
  have hS : va_S A s.heap H [] := by rw [hH]; exact hS
  obtain ⟨locs, hlo⟩ : ∃ L : List Loc, L = [] := ⟨_, rfl⟩
  rw [← hlo] at hS
  rw [← hlo]
  clear hH hlo
  refine va_ldcS hx hb hown (show vk_R RX5 112 "hkrcms" (sK 4) s from hE.1 4 (by decide)) dX5_readTest_0 ?_
  refine lv_aload_n hx hb dX5_readTest_2 rfl (lv_at hl 0 rfl) ?_
  have hPc := hP.sub (ws' := [(zo7iirrrririii bl esg (nI ecl) eW eA eE eC (nI ecd) aTp (nI ez) (nI ep) (nI em)), (zaI aTp cTp 100 fTp)]) [0, 1] rfl
  have hKc := hK.sub (tys' := [(cTp, .int)]) [0] rfl
  refine vp_callSi (va_runV (As := []) (rest := [.ref (sK 4)]) ⟨hx, hb, hml, hown, hts⟩ (c_xSign l dC dI bl aTp eW eA eE eC ecl ecd esg cTp fTp ez ep em ss (hez) (by omega) (gX)) (cwV 0 hts gX5_readTest_X5_sign rfl rfl rfl hd_yX5_sign ⟨Nat.le_of_ble_eq_true rfl, Nat.le_of_ble_eq_true rfl⟩) ⟨fun a U g mk q => by obtain ⟨q0, qP, qK⟩ := q; exact ⟨q0, qP, va_K.moved (u := U) (U := U.calling g mk a) (Vm.Alike.refl U.vm) qK⟩, va_recv hK hP (ci := 7) (q := (RX5, TX5, 11)) (q0 := 0) rfl rfl, fun U hU hW => ⟨rfl, by rw [hU]; exact hPc, va_K.moved hW.alike hKc⟩⟩ rfl rfl hl.1 rfl (lv_room (Nat.le_of_ble_eq_true rfl)) dX5_readTest_3 ⟨Nat.le_of_ble_eq_true rfl, Nat.le_of_ble_eq_true rfl⟩).run (fun r_1 hw_2 => ?_)
  obtain rfl := hw_2
  have hs8 := gX.2.2 (ep)
  refine lv_i2c (v := nI (ss ep)) hx hb dX5_readTest_6 (ch_s2 (by omega)) ?_
  refine vp_callSi (va_runV (As := [.int (nI (ss ep))]) (rest := []) ⟨hx, hb, hml, hown, hts⟩ (c_idx3 l dC dI sK sV 4 (ss ep) (by decide) (by omega)) (cwV 1 hts gX5_readTest_J0_indexOf_0f7a4 rfl rfl rfl hd_yJ0_indexOf_0f7a4 ⟨Nat.le_of_ble_eq_true rfl, Nat.le_of_ble_eq_true rfl⟩) ⟨fun a U g mk q => by obtain ⟨q0, qhE⟩ := q; exact ⟨q0, qhE.same rfl rfl⟩, va_Orecv (hE.2.1 4 (by decide)).1 hS, fun U hU hW => ⟨rfl, hE.callF hS hU hW⟩⟩ rfl rfl hl.1 rfl (lv_room (Nat.le_of_ble_eq_true rfl)) dX5_readTest_7 ⟨Nat.le_of_ble_eq_true rfl, Nat.le_of_ble_eq_true rfl⟩).run (fun r_3 hw_4 => ?_)
  rcases hw_4 with ⟨rfl, h_5⟩ | ⟨u1, hu1, rfl, h_5⟩
  · skip
    have hx6 := ax6_n (fun q hq => h_5 q hq)
    refine lv_istore_n (lv' := [(1, .int (-1)), (0, .ref bl)]) hx hb dX5_readTest_10 rfl hl (by decide) rfl (fun ls hl => ?_)
    refine lv_iload_n hx hb dX5_readTest_11 rfl (lv_at hl 0 rfl) ?_
    refine lv_if_ge (tgt := 17) hx hb dX5_readTest_12 (by decide) (fun c_6 => absurd c_6 (by decide)) (fun _ => ?_)
    refine lv_iconst (v := 0) hx hb dX5_readTest_15 (by decide) ?_
    rw [hQ]
    have hP9 := hP.sub (ws' := [(zo7iirrrririii bl esg (nI ecl) eW eA eE eC (nI ecd) aTp (nI ez) (nI ep) (nI em)), (zaI aTp cTp 100 fTp), (zaI eC ceC 100 feC)]) [0, 1, 2] rfl
    have hD9 := hD.sub (ws' := [(zo7iirrrririii bl esg (nI ecl) eW eA eE eC (nI ecd) aTp (nI ez) (nI ep) (nI em)), (zaI aTp cTp 100 fTp), (zaI eC ceC 100 feC)]) [0, 1, 2] (by decide) rfl
    have hK9 := hK.sub (tys' := [(cTp, .int), (ceC, .int)]) [0, 1] rfl
    exact W.zret (v := 0) hx hb hr rfl (fun tQ htQ hWQ => ⟨⟨0, (ecd, ep, em, feC), rfl, Or.inr ⟨rfl, pt_1 hx6, by omega, by omega, by first | omega | (have := (hXT).2.1; omega), zeC⟩, by rw [htQ]; exact hP9, va_K.moved hWQ.alike hK9, hD9⟩, hS.F htQ⟩) hS.2.2 dX5_readTest_16
  · skip
    have hu1 : u1 < 6 := hu1
    have hx6 := ax6_y hu1 h_5
    have hlu1 : ep < ez := Nat.lt_of_not_le (fun z => by have h1 := gX.2.1 _ z; have h2 := sTx_ch (i := 4) (by decide) (k := u1) hu1; omega)
    refine lv_istore_n (lv' := [(1, .int (nI u1)), (0, .ref bl)]) hx hb dX5_readTest_10 rfl hl (by decide) rfl (fun ls hl => ?_)
    refine lv_iload_n hx hb dX5_readTest_11 rfl (lv_at hl 0 rfl) ?_
    refine lv_if_ge (tgt := 17) hx hb dX5_readTest_12 (by decide) (fun c_7 => ?_) (fun c_7 => absurd c_7 (fun z9 => z9 (Int32.not_lt.mp (nI_pos (by omega)))))
    have c_7 : 0 ≤ u1 := (nI_leI (a := 0) (b := u1) (by omega) (by omega)).mp c_7
    refine lv_aload_n hx hb dX5_readTest_17 rfl (lv_at hl 1 rfl) ?_
    refine lv_dup hx hb dX5_readTest_18 rfl ?_
    refine va_get (D := (dC, dI)) (ci := 7) (v := .int (nI ep)) (C := RX5) (T := TX5) (N := 11) hx hb hts kc_readTest_0 hown hK hP 0 rfl rfl 9 (by decide) (hts (.fieldLink RX5 34 "MistHeaps$Hill" "at" "I") kc_readTest_1) (fun _ h9 => h9) rfl dX5_readTest_19 ?_
    refine lv_iconst (v := 1) hx hb dX5_readTest_22 (by decide) ?_
    refine lv_iadd hx hb dX5_readTest_23 ?_
    refine qi_as (y := nI (ep + 1)) (nI_add ep 1) ?_
    refine va_put (D := (dC, dI)) (ci := 7) (v := .int (nI (ep + 1))) (ty := .int) (C := RX5) (T := TX5) (N := 11) hx hb hts kc_readTest_0 tyX5 tyX5_ok nmX5 hown hK hP hD hS 0 rfl rfl 9 (by decide) (hts (.fieldLink RX5 34 "MistHeaps$Hill" "at" "I") kc_readTest_1) (fun _ h9 => h9) rfl (by decide +kernel) rfl rfl (Nat.le_of_ble_eq_true rfl) dX5_readTest_24 (fun H locs hP hD hS => ?_)
    have hP : va_P (dC, dI) vwCl [(zo7iirrrririii bl esg (nI ecl) eW eA eE eC (nI ecd) aTp (nI ez) (nI (ep + 1)) (nI em)), (zaI aTp cTp 100 fTp), (zaI eC ceC 100 feC)] H := hP
    have hD : va_D A [(zo7iirrrririii bl esg (nI ecl) eW eA eE eC (nI ecd) aTp (nI ez) (nI (ep + 1)) (nI em)), (zaI aTp cTp 100 fTp), (zaI eC ceC 100 feC)] := hD
    refine va_ldcS hx hb hown (show vk_R RX5 118 "<=>" (sK 5) s from hE.1 5 (by decide)) dX5_readTest_27 ?_
    refine lv_aload_n hx hb dX5_readTest_29 rfl (lv_at hl 1 rfl) ?_
    have hPc := hP.sub (ws' := [(zo7iirrrririii bl esg (nI ecl) eW eA eE eC (nI ecd) aTp (nI ez) (nI (ep + 1)) (nI em)), (zaI aTp cTp 100 fTp)]) [0, 1] rfl
    have hKc := hK.sub (tys' := [(cTp, .int)]) [0] rfl
    refine vp_callSi (va_runV (As := []) (rest := [.ref (sK 5)]) ⟨hx, hb, hml, hown, hts⟩ (c_xSign l dC dI bl aTp eW eA eE eC ecl ecd esg cTp fTp ez (ep + 1) em ss (hez) (by omega) (gX)) (cwV 0 hts gX5_readTest_X5_sign rfl rfl rfl hd_yX5_sign ⟨Nat.le_of_ble_eq_true rfl, Nat.le_of_ble_eq_true rfl⟩) ⟨fun a U g mk q => by obtain ⟨q0, qP, qK⟩ := q; exact ⟨q0, qP, va_K.moved (u := U) (U := U.calling g mk a) (Vm.Alike.refl U.vm) qK⟩, va_recv hK hP (ci := 7) (q := (RX5, TX5, 11)) (q0 := 0) rfl rfl, fun U hU hW => ⟨rfl, by rw [hU]; exact hPc, va_K.moved hW.alike hKc⟩⟩ rfl rfl hl.1 rfl (lv_room (Nat.le_of_ble_eq_true rfl)) dX5_readTest_30 ⟨Nat.le_of_ble_eq_true rfl, Nat.le_of_ble_eq_true rfl⟩).run (fun r_8 hw_9 => ?_)
    obtain rfl := hw_9
    have hs8 := gX.2.2 (ep + 1)
    refine lv_i2c (v := nI (ss (ep + 1))) hx hb dX5_readTest_33 (ch_s2 (by omega)) ?_
    refine vp_callSi (va_runV (As := [.int (nI (ss (ep + 1)))]) (rest := []) ⟨hx, hb, hml, hown, hts⟩ (c_idx3 l dC dI sK sV 5 (ss (ep + 1)) (by decide) (by omega)) (cwV 1 hts gX5_readTest_J0_indexOf_0f7a4 rfl rfl rfl hd_yJ0_indexOf_0f7a4 ⟨Nat.le_of_ble_eq_true rfl, Nat.le_of_ble_eq_true rfl⟩) ⟨fun a U g mk q => by obtain ⟨q0, qhE⟩ := q; exact ⟨q0, qhE.same rfl rfl⟩, va_Orecv (hE.2.1 5 (by decide)).1 hS, fun U hU hW => ⟨rfl, hE.callF hS hU hW⟩⟩ rfl rfl hl.1 rfl (lv_room (Nat.le_of_ble_eq_true rfl)) dX5_readTest_34 ⟨Nat.le_of_ble_eq_true rfl, Nat.le_of_ble_eq_true rfl⟩).run (fun r_10 hw_11 => ?_)
    rcases hw_11 with ⟨rfl, h_12⟩ | ⟨u2, hu2, rfl, h_12⟩
    · skip
      have hx3 := ax3_n (fun q hq => h_12 q hq)
      refine lv_istore_n (lv' := [(2, .int (-1)), (1, .int (nI u1)), (0, .ref bl)]) hx hb dX5_readTest_37 rfl hl (by decide) rfl (fun ls hl => ?_)
      refine lv_iload_n hx hb dX5_readTest_38 rfl (lv_at hl 0 rfl) ?_
      refine lv_if_ge (tgt := 44) hx hb dX5_readTest_39 (by decide) (fun c_13 => absurd c_13 (by decide)) (fun _ => ?_)
      refine lv_iconst (v := 0) hx hb dX5_readTest_42 (by decide) ?_
      rw [hQ]
      have hP9 := hP.sub (ws' := [(zo7iirrrririii bl esg (nI ecl) eW eA eE eC (nI ecd) aTp (nI ez) (nI (ep + 1)) (nI em)), (zaI aTp cTp 100 fTp), (zaI eC ceC 100 feC)]) [0, 1, 2] rfl
      have hD9 := hD.sub (ws' := [(zo7iirrrririii bl esg (nI ecl) eW eA eE eC (nI ecd) aTp (nI ez) (nI (ep + 1)) (nI em)), (zaI aTp cTp 100 fTp), (zaI eC ceC 100 feC)]) [0, 1, 2] (by decide) rfl
      have hK9 := hK.sub (tys' := [(cTp, .int), (ceC, .int)]) [0, 1] rfl
      exact W.zret (v := 0) hx hb hr rfl (fun tQ htQ hWQ => ⟨⟨0, (ecd, (ep + 1), em, feC), rfl, Or.inr ⟨rfl, pt_2 hx6 hx3, by omega, by omega, by first | omega | (have := (hXT).2.1; omega), zeC⟩, by rw [htQ]; exact hP9, va_K.moved hWQ.alike hK9, hD9⟩, hS.F htQ⟩) hS.2.2 dX5_readTest_43
    · skip
      have hu2 : u2 < 3 := hu2
      have hx3 := ax3_y hu2 h_12
      have hlu2 : ep + 1 < ez := Nat.lt_of_not_le (fun z => by have h1 := gX.2.1 _ z; have h2 := sTx_ch (i := 5) (by decide) (k := u2) hu2; omega)
      refine lv_istore_n (lv' := [(2, .int (nI u2)), (1, .int (nI u1)), (0, .ref bl)]) hx hb dX5_readTest_37 rfl hl (by decide) rfl (fun ls hl => ?_)
      refine lv_iload_n hx hb dX5_readTest_38 rfl (lv_at hl 0 rfl) ?_
      refine lv_if_ge (tgt := 44) hx hb dX5_readTest_39 (by decide) (fun c_14 => ?_) (fun c_14 => absurd c_14 (fun z9 => z9 (Int32.not_lt.mp (nI_pos (by omega)))))
      have c_14 : 0 ≤ u2 := (nI_leI (a := 0) (b := u2) (by omega) (by omega)).mp c_14
      refine lv_aload_n hx hb dX5_readTest_44 rfl (lv_at hl 2 rfl) ?_
      refine lv_dup hx hb dX5_readTest_45 rfl ?_
      refine va_get (D := (dC, dI)) (ci := 7) (v := .int (nI (ep + 1))) (C := RX5) (T := TX5) (N := 11) hx hb hts kc_readTest_0 hown hK hP 0 rfl rfl 9 (by decide) (hts (.fieldLink RX5 34 "MistHeaps$Hill" "at" "I") kc_readTest_1) (fun _ h9 => h9) rfl dX5_readTest_46 ?_
      refine lv_iconst (v := 1) hx hb dX5_readTest_49 (by decide) ?_
      refine lv_iadd hx hb dX5_readTest_50 ?_
      refine qi_as (y := nI ((ep + 1) + 1)) (nI_add (ep + 1) 1) ?_
      refine va_put (D := (dC, dI)) (ci := 7) (v := .int (nI ((ep + 1) + 1))) (ty := .int) (C := RX5) (T := TX5) (N := 11) hx hb hts kc_readTest_0 tyX5 tyX5_ok nmX5 hown hK hP hD hS 0 rfl rfl 9 (by decide) (hts (.fieldLink RX5 34 "MistHeaps$Hill" "at" "I") kc_readTest_1) (fun _ h9 => h9) rfl (by decide +kernel) rfl rfl (Nat.le_of_ble_eq_true rfl) dX5_readTest_51 (fun H locs hP hD hS => ?_)
      have hP : va_P (dC, dI) vwCl [(zo7iirrrririii bl esg (nI ecl) eW eA eE eC (nI ecd) aTp (nI ez) (nI ((ep + 1) + 1)) (nI em)), (zaI aTp cTp 100 fTp), (zaI eC ceC 100 feC)] H := hP
      have hD : va_D A [(zo7iirrrririii bl esg (nI ecl) eW eA eE eC (nI ecd) aTp (nI ez) (nI ((ep + 1) + 1)) (nI em)), (zaI aTp cTp 100 fTp), (zaI eC ceC 100 feC)] := hD
      refine lv_aload_n hx hb dX5_readTest_54 rfl (lv_at hl 2 rfl) ?_
      have hPc := hP.sub (ws' := [(zo7iirrrririii bl esg (nI ecl) eW eA eE eC (nI ecd) aTp (nI ez) (nI ((ep + 1) + 1)) (nI em)), (zaI aTp cTp 100 fTp)]) [0, 1] rfl
      have hDc := hD.sub (ws' := [(zo7iirrrririii bl esg (nI ecl) eW eA eE eC (nI ecd) aTp (nI ez) (nI ((ep + 1) + 1)) (nI em)), (zaI aTp cTp 100 fTp)]) [0, 1] (by decide) rfl
      have hKc := hK.sub (tys' := [(cTp, .int)]) [0] rfl
      have hFc := va_free (wc := [(zo7iirrrririii bl esg (nI ecl) eW eA eE eC (nI ecd) aTp (nI ez) (nI ((ep + 1) + 1)) (nI em)), (zaI aTp cTp 100 fTp)]) hD hS hA [0, 1] rfl
      refine va_calli (va_runV (As := []) (rest := []) ⟨hx, hb, hml, hown, hts⟩ (c_xReadNumber l dC dI bl aTp eW eA eE eC ecl ecd esg cTp fTp ez ((ep + 1) + 1) em ss H.size (hez) (by omega) (gX)) (cwV 0 hts gX5_readTest_X5_readNumber rfl rfl rfl hd_yX5_readNumber ⟨Nat.le_of_ble_eq_true rfl, Nat.le_of_ble_eq_true rfl⟩) ⟨fun a U g mk q => by obtain ⟨q0, q1, qP, qK, qD⟩ := q; exact ⟨q0, q1, qP, va_K.moved (u := U) (U := U.calling g mk a) (Vm.Alike.refl U.vm) qK, qD⟩, va_recv hK hP (ci := 7) (q := (RX5, TX5, 11)) (q0 := 0) rfl rfl, fun U hU hW => ⟨rfl, by rw [hU], by rw [hU]; exact hPc, va_K.moved hW.alike hKc, hDc.weaken (fun _ _ _ _ => trivial)⟩⟩ rfl rfl hl.1 rfl (lv_room (Nat.le_of_ble_eq_true rfl)) dX5_readTest_55 ⟨Nat.le_of_ble_eq_true rfl, Nat.le_of_ble_eq_true rfl⟩) hS (fun q _ h => hFc q h) hFc (fun r_15 u tC H1 locs htC hvm hw_16 hB hz1 hk1 hS => ?_)
      obtain ⟨ep9_17, em9_18⟩ := u
      try dsimp only at hw_16 hB
      obtain ⟨hP1, hK1, hD1⟩ := hB
      rw [htC] at hP1
      have hK1 := va_K.moved hvm.symm hK1
      obtain ⟨hP, hD⟩ := va_join (wr := [(zaI eC ceC 100 feC)]) (w1 := [(zo7iirrrririii bl esg (nI ecl) eW eA eE eC (nI ecd) aTp (nI ez) (nI ep9_17) (nI em9_18)), (zaI aTp cTp 100 fTp)]) hP hD [0, 1] [2] rfl rfl (by decide) (by decide) hk1 hFc hP1 hD1
      have hK := (hK.sub (tys' := [(ceC, .int)]) [1] rfl).app hK1
      generalize H1 = H at hP hS ⊢
      have hP : va_P (dC, dI) vwCl [(zaI eC ceC 100 feC), (zo7iirrrririii bl esg (nI ecl) eW eA eE eC (nI ecd) aTp (nI ez) (nI ep9_17) (nI em9_18)), (zaI aTp cTp 100 fTp)] H := hP
      have hD : va_D A [(zaI eC ceC 100 feC), (zo7iirrrririii bl esg (nI ecl) eW eA eE eC (nI ecd) aTp (nI ez) (nI ep9_17) (nI em9_18)), (zaI aTp cTp 100 fTp)] := hD
      have hK : va_K (dC, dI) vwCl [(ceC, .int), (cTp, .int)] s := hK
      rcases hw_16 with ⟨rfl, hN, h_19, h_20, h_21⟩ | ⟨rfl, hN, h_19, h_20⟩
      · skip
        refine lv_if_ne (tgt := 63) hx hb dX5_readTest_58 (by decide) (fun _ => ?_) (fun c_22 => absurd c_22 (by decide))
        refine lv_aload_n hx hb dX5_readTest_63 rfl (lv_at hl 2 rfl) ?_
        refine lv_iload_n hx hb dX5_readTest_64 rfl (lv_at hl 1 rfl) ?_
        refine lv_sipush (v := 300) hx hb dX5_readTest_65 (by decide) ?_
        refine lv_imul hx hb dX5_readTest_68 ?_
        refine qi_as (y := nI (u1 * 300)) (pk_mul u1 300) ?_
        refine lv_iload_n hx hb dX5_readTest_69 rfl (lv_at hl 0 rfl) ?_
        refine lv_bipush (v := 100) hx hb dX5_readTest_70 (by decide) ?_
        refine lv_imul hx hb dX5_readTest_72 ?_
        refine qi_as (y := nI (u2 * 100)) (pk_mul u2 100) ?_
        refine lv_iadd hx hb dX5_readTest_73 ?_
        refine qi_as (y := nI ((u1 * 300) + (u2 * 100))) (nI_add (u1 * 300) (u2 * 100)) ?_
        refine lv_aload_n hx hb dX5_readTest_74 rfl (lv_at hl 2 rfl) ?_
        refine va_get (D := (dC, dI)) (ci := 7) (v := .int (nI em9_18)) (C := RX5) (T := TX5) (N := 11) hx hb hts kc_readTest_0 hown hK hP 1 rfl rfl 10 (by decide) (hts (.fieldLink RX5 48 "MistHeaps$Hill" "number" "I") kc_readTest_2) (fun _ h9 => h9) rfl dX5_readTest_75 ?_
        refine lv_iadd hx hb dX5_readTest_78 ?_
        refine qi_as (y := nI (((u1 * 300) + (u2 * 100)) + em9_18)) (nI_add ((u1 * 300) + (u2 * 100)) em9_18) ?_
        have hPc := hP.sub (ws' := [(zo7iirrrririii bl esg (nI ecl) eW eA eE eC (nI ecd) aTp (nI ez) (nI ep9_17) (nI em9_18)), (zaI eC ceC 100 feC)]) [1, 0] rfl
        have hDc := hD.sub (ws' := [(zo7iirrrririii bl esg (nI ecl) eW eA eE eC (nI ecd) aTp (nI ez) (nI ep9_17) (nI em9_18)), (zaI eC ceC 100 feC)]) [1, 0] (by decide) rfl
        have hKc := hK.sub (tys' := [(ceC, .int)]) [0] rfl
        have hFc := va_free (wc := [(zo7iirrrririii bl esg (nI ecl) eW eA eE eC (nI ecd) aTp (nI ez) (nI ep9_17) (nI em9_18)), (zaI eC ceC 100 feC)]) hD hS hA [1, 0] rfl
        refine va_callv (va_runV (As := [.int (nI (((u1 * 300) + (u2 * 100)) + em9_18))]) (rest := []) ⟨hx, hb, hml, hown, hts⟩ (c_xCode l dC dI bl aTp eW eA eE eC ecl ecd (nI (((u1 * 300) + (u2 * 100)) + em9_18)) esg ceC feC ez ep9_17 em9_18 kt (u1 * 300 + u2 * 100 + em9_18) H.size ((hXT).mono (by omega)) (by have h6 := (hXT).1; have h7 := (hXT).2.1; have h8 := hXT.1; have h9 := hXT.2.1; (try simp only [List.length_append] at h6); omega) (zeC) (Or.inr (Or.inr (Or.inr ⟨_, by omega, rfl⟩))) (ccd_t (by omega))) (cwV 1 hts gX5_readTest_X5_code rfl rfl rfl hd_yX5_code ⟨Nat.le_of_ble_eq_true rfl, Nat.le_of_ble_eq_true rfl⟩) ⟨fun a U g mk q => by obtain ⟨q0, q1, qP, qK, qD⟩ := q; exact ⟨q0, q1, qP, va_K.moved (u := U) (U := U.calling g mk a) (Vm.Alike.refl U.vm) qK, qD⟩, va_recv hK hP (ci := 7) (q := (RX5, TX5, 11)) (q0 := 1) rfl rfl, fun U hU hW => ⟨rfl, by rw [hU], by rw [hU]; exact hPc, va_K.moved hW.alike hKc, hDc.weaken (fun _ _ _ _ => trivial)⟩⟩ rfl rfl hl.1 rfl (lv_room (Nat.le_of_ble_eq_true rfl)) dX5_readTest_79 ⟨Nat.le_of_ble_eq_true rfl, Nat.le_of_ble_eq_true rfl⟩) hS (fun q _ h => hFc q h) hFc (fun u tC H1 locs htC hvm hw_24 hB hz1 hk1 hS => ?_)
        obtain ⟨ecd9_25, feC9_26⟩ := u
        try dsimp only at hw_24 hB
        obtain ⟨hP1, hK1, hD1⟩ := hB
        rw [htC] at hP1
        have hK1 := va_K.moved hvm.symm hK1
        obtain ⟨hP, hD⟩ := va_join (wr := [(zaI aTp cTp 100 fTp)]) (w1 := [(zo7iirrrririii bl esg (nI ecl) eW eA eE eC (nI ecd9_25) aTp (nI ez) (nI ep9_17) (nI em9_18)), (zaI eC ceC 100 feC9_26)]) hP hD [1, 0] [2] rfl rfl (by decide) (by decide) hk1 hFc hP1 hD1
        have hK := (hK.sub (tys' := [(cTp, .int)]) [1] rfl).app hK1
        generalize H1 = H at hP hS ⊢
        have hP : va_P (dC, dI) vwCl [(zaI aTp cTp 100 fTp), (zo7iirrrririii bl esg (nI ecl) eW eA eE eC (nI ecd9_25) aTp (nI ez) (nI ep9_17) (nI em9_18)), (zaI eC ceC 100 feC9_26)] H := hP
        have hD : va_D A [(zaI aTp cTp 100 fTp), (zo7iirrrririii bl esg (nI ecl) eW eA eE eC (nI ecd9_25) aTp (nI ez) (nI ep9_17) (nI em9_18)), (zaI eC ceC 100 feC9_26)] := hD
        have hK : va_K (dC, dI) vwCl [(cTp, .int), (ceC, .int)] s := hK
        obtain ⟨e_27, hC_28, h_29⟩ := hw_24
        obtain rfl := (e_27).symm
        have hX_30 : XT feC9_26 (ecd + 1) (kt ++ [u1 * 300 + u2 * 100 + em9_18]) (ep9_17) := ⟨by rw [List.length_append, (hXT).1]; rfl, by have h6 := (hXT).1; have h7 := (hXT).2.1; have h8 := hXT.1; have h9 := hXT.2.1; (try simp only [List.length_append] at h6); omega, h_29⟩
        refine lv_iconst (v := 1) hx hb dX5_readTest_82 (by decide) ?_
        rw [hQ]
        have hP9 := hP.sub (ws' := [(zo7iirrrririii bl esg (nI ecl) eW eA eE eC (nI (ecd + 1)) aTp (nI ez) (nI ep9_17) (nI em9_18)), (zaI aTp cTp 100 fTp), (zaI eC ceC 100 feC9_26)]) [1, 0, 2] rfl
        have hD9 := hD.sub (ws' := [(zo7iirrrririii bl esg (nI ecl) eW eA eE eC (nI (ecd + 1)) aTp (nI ez) (nI ep9_17) (nI em9_18)), (zaI aTp cTp 100 fTp), (zaI eC ceC 100 feC9_26)]) [1, 0, 2] (by decide) rfl
        have hK9 := hK.sub (tys' := [(cTp, .int), (ceC, .int)]) [0, 1] rfl
        exact W.zret (v := 1) hx hb hr rfl (fun tQ htQ hWQ => ⟨⟨1, ((ecd + 1), ep9_17, em9_18, feC9_26), rfl, Or.inl ⟨rfl, [u1 * 300 + u2 * 100 + em9_18], pt_4 hx6 hx3 hN, by omega, by omega, by omega, by (try simp only [List.length_append, List.length_cons, List.length_nil]); omega, (hX_30).mono (by omega), hC_28⟩, by rw [htQ]; exact hP9, va_K.moved hWQ.alike hK9, hD9⟩, hS.F htQ⟩) hS.2.2 dX5_readTest_83
      · skip
        obtain rfl := (h_19).symm
        obtain rfl := (h_20).symm
        refine lv_if_ne (tgt := 63) hx hb dX5_readTest_58 (by decide) (fun c_31 => absurd c_31 (by decide)) (fun _ => ?_)
        refine lv_iconst (v := 0) hx hb dX5_readTest_61 (by decide) ?_
        rw [hQ]
        have hP9 := hP.sub (ws' := [(zo7iirrrririii bl esg (nI ecl) eW eA eE eC (nI ecd) aTp (nI ez) (nI ((ep + 1) + 1)) (nI em)), (zaI aTp cTp 100 fTp), (zaI eC ceC 100 feC)]) [1, 2, 0] rfl
        have hD9 := hD.sub (ws' := [(zo7iirrrririii bl esg (nI ecl) eW eA eE eC (nI ecd) aTp (nI ez) (nI ((ep + 1) + 1)) (nI em)), (zaI aTp cTp 100 fTp), (zaI eC ceC 100 feC)]) [1, 2, 0] (by decide) rfl
        have hK9 := hK.sub (tys' := [(cTp, .int), (ceC, .int)]) [1, 0] rfl
        exact W.zret (v := 0) hx hb hr rfl (fun tQ htQ hWQ => ⟨⟨0, (ecd, ((ep + 1) + 1), em, feC), rfl, Or.inr ⟨rfl, pt_3 hx6 hx3 hN, by omega, by omega, by first | omega | (have := (hXT).2.1; omega), zeC⟩, by rw [htQ]; exact hP9, va_K.moved hWQ.alike hK9, hD9⟩, hS.F htQ⟩) hS.2.2 dX5_readTest_62
