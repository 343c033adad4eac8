section mg18a
theorem ggX5_read_X5_readWord : GoodIn wsX5_read wsX5_readWord := gga_of 365 rfl rfl rfl
theorem gX5_read_X5_readWord : GoodIn wsX5_read (wsV RX5 40 RX5 yX5_readWord wsX5_readWord) := goodIn_app (ggh_of [362, 364, 0, 65] rfl rfl rfl) ggX5_read_X5_readWord
theorem ggX5_read_X5_readNumber : GoodIn wsX5_read wsX5_readNumber := gga_of 431 rfl rfl rfl
theorem gX5_read_X5_readNumber : GoodIn wsX5_read (wsV RX5 44 RX5 yX5_readNumber wsX5_readNumber) := goodIn_app (ggh_of [428, 430, 2, 65] rfl rfl rfl) ggX5_read_X5_readNumber
theorem ggX5_read_X5_readSign : GoodIn wsX5_read wsX5_readSign := gga_of 442 rfl rfl rfl
theorem gX5_read_X5_readSign : GoodIn wsX5_read (wsV RX5 51 RX5 yX5_readSign wsX5_readSign) := goodIn_app (ggh_of [439, 441, 4, 65] rfl rfl rfl) ggX5_read_X5_readSign
theorem ggX5_read_X5_readEither : GoodIn wsX5_read wsX5_readEither := gga_of 446 rfl rfl rfl
theorem gX5_read_X5_readEither : GoodIn wsX5_read (wsV RX5 55 RX5 yX5_readEither wsX5_readEither) := goodIn_app (ggh_of [443, 445, 5, 65] rfl rfl rfl) ggX5_read_X5_readEither
noncomputable def dk18apub_cX8_copyFrom_0 : List (Nat × List Nat) := [(0, [43]), (1, [180, 0, 9]), (4, [3]), (5, [42]), (6, [180, 0, 9]), (9, [3]), (10, [16, 100]), (12, [184, 0, 37]), (15, [42]), (16, [43]), (17, [180, 0, 43]), (20, [181, 0, 43]), (23, [42]), (24, [43]), (25, [180, 0, 18]), (28, [181, 0, 18]), (31, [42]), (32, [43]), (33, [180, 0, 47]), (36, [181, 0, 47]), (39, [42]), (40, [43]), (41, [180, 0, 50]), (44, [181, 0, 50]), (47, [42]), (48, [43]), (49, [180, 0, 54]), (52, [181, 0, 54]), (55, [42]), (56, [43]), (57, [180, 0, 57]), (60, [181, 0, 57]), (63, [3]), (64, [61]), (65, [28]), (66, [16, 8]), (68, [162, 0, 21]), (89, [42]), (90, [43]), (91, [180, 0, 60])]
set_option maxRecDepth 100000 in
theorem dk18apub_cX8_copyFrom_0_a : btA cX8_copyFrom dk18apub_cX8_copyFrom_0 = true := by decide +kernel
theorem dX8_copyFrom_0 : decode cX8_copyFrom 0 = .ok (.aload_n 1, 1) := bd43 (btAt dk18apub_cX8_copyFrom_0_a 0 rfl)
theorem dX8_copyFrom_1 : decode cX8_copyFrom 1 = .ok (.getfield 9, 3) := bd180 (a := 0) (b := 9) (btAt dk18apub_cX8_copyFrom_0_a 1 rfl)
theorem dX8_copyFrom_4 : decode cX8_copyFrom 4 = .ok (.iconst 0, 1) := bd3 (btAt dk18apub_cX8_copyFrom_0_a 2 rfl)
theorem dX8_copyFrom_5 : decode cX8_copyFrom 5 = .ok (.aload_n 0, 1) := bd42 (btAt dk18apub_cX8_copyFrom_0_a 3 rfl)
theorem dX8_copyFrom_6 : decode cX8_copyFrom 6 = .ok (.getfield 9, 3) := bd180 (a := 0) (b := 9) (btAt dk18apub_cX8_copyFrom_0_a 4 rfl)
theorem dX8_copyFrom_9 : decode cX8_copyFrom 9 = .ok (.iconst 0, 1) := bd3 (btAt dk18apub_cX8_copyFrom_0_a 5 rfl)
theorem dX8_copyFrom_10 : decode cX8_copyFrom 10 = .ok (.bipush 100, 2) := bd16 (a := 100) (btAt dk18apub_cX8_copyFrom_0_a 6 rfl)
theorem dX8_copyFrom_12 : decode cX8_copyFrom 12 = .ok (.invokestatic 37, 3) := bd184 (a := 0) (b := 37) (btAt dk18apub_cX8_copyFrom_0_a 7 rfl)
theorem dX8_copyFrom_15 : decode cX8_copyFrom 15 = .ok (.aload_n 0, 1) := bd42 (btAt dk18apub_cX8_copyFrom_0_a 8 rfl)
theorem dX8_copyFrom_16 : decode cX8_copyFrom 16 = .ok (.aload_n 1, 1) := bd43 (btAt dk18apub_cX8_copyFrom_0_a 9 rfl)
theorem dX8_copyFrom_17 : decode cX8_copyFrom 17 = .ok (.getfield 43, 3) := bd180 (a := 0) (b := 43) (btAt dk18apub_cX8_copyFrom_0_a 10 rfl)
theorem dX8_copyFrom_20 : decode cX8_copyFrom 20 = .ok (.putfield 43, 3) := bd181 (a := 0) (b := 43) (btAt dk18apub_cX8_copyFrom_0_a 11 rfl)
theorem dX8_copyFrom_23 : decode cX8_copyFrom 23 = .ok (.aload_n 0, 1) := bd42 (btAt dk18apub_cX8_copyFrom_0_a 12 rfl)
theorem dX8_copyFrom_24 : decode cX8_copyFrom 24 = .ok (.aload_n 1, 1) := bd43 (btAt dk18apub_cX8_copyFrom_0_a 13 rfl)
theorem dX8_copyFrom_25 : decode cX8_copyFrom 25 = .ok (.getfield 18, 3) := bd180 (a := 0) (b := 18) (btAt dk18apub_cX8_copyFrom_0_a 14 rfl)
theorem dX8_copyFrom_28 : decode cX8_copyFrom 28 = .ok (.putfield 18, 3) := bd181 (a := 0) (b := 18) (btAt dk18apub_cX8_copyFrom_0_a 15 rfl)
theorem dX8_copyFrom_31 : decode cX8_copyFrom 31 = .ok (.aload_n 0, 1) := bd42 (btAt dk18apub_cX8_copyFrom_0_a 16 rfl)
theorem dX8_copyFrom_32 : decode cX8_copyFrom 32 = .ok (.aload_n 1, 1) := bd43 (btAt dk18apub_cX8_copyFrom_0_a 17 rfl)
theorem dX8_copyFrom_33 : decode cX8_copyFrom 33 = .ok (.getfield 47, 3) := bd180 (a := 0) (b := 47) (btAt dk18apub_cX8_copyFrom_0_a 18 rfl)
theorem dX8_copyFrom_36 : decode cX8_copyFrom 36 = .ok (.putfield 47, 3) := bd181 (a := 0) (b := 47) (btAt dk18apub_cX8_copyFrom_0_a 19 rfl)
theorem dX8_copyFrom_39 : decode cX8_copyFrom 39 = .ok (.aload_n 0, 1) := bd42 (btAt dk18apub_cX8_copyFrom_0_a 20 rfl)
theorem dX8_copyFrom_40 : decode cX8_copyFrom 40 = .ok (.aload_n 1, 1) := bd43 (btAt dk18apub_cX8_copyFrom_0_a 21 rfl)
theorem dX8_copyFrom_41 : decode cX8_copyFrom 41 = .ok (.getfield 50, 3) := bd180 (a := 0) (b := 50) (btAt dk18apub_cX8_copyFrom_0_a 22 rfl)
theorem dX8_copyFrom_44 : decode cX8_copyFrom 44 = .ok (.putfield 50, 3) := bd181 (a := 0) (b := 50) (btAt dk18apub_cX8_copyFrom_0_a 23 rfl)
theorem dX8_copyFrom_47 : decode cX8_copyFrom 47 = .ok (.aload_n 0, 1) := bd42 (btAt dk18apub_cX8_copyFrom_0_a 24 rfl)
theorem dX8_copyFrom_48 : decode cX8_copyFrom 48 = .ok (.aload_n 1, 1) := bd43 (btAt dk18apub_cX8_copyFrom_0_a 25 rfl)
theorem dX8_copyFrom_49 : decode cX8_copyFrom 49 = .ok (.getfield 54, 3) := bd180 (a := 0) (b := 54) (btAt dk18apub_cX8_copyFrom_0_a 26 rfl)
theorem dX8_copyFrom_52 : decode cX8_copyFrom 52 = .ok (.putfield 54, 3) := bd181 (a := 0) (b := 54) (btAt dk18apub_cX8_copyFrom_0_a 27 rfl)
theorem dX8_copyFrom_55 : decode cX8_copyFrom 55 = .ok (.aload_n 0, 1) := bd42 (btAt dk18apub_cX8_copyFrom_0_a 28 rfl)
theorem dX8_copyFrom_56 : decode cX8_copyFrom 56 = .ok (.aload_n 1, 1) := bd43 (btAt dk18apub_cX8_copyFrom_0_a 29 rfl)
theorem dX8_copyFrom_57 : decode cX8_copyFrom 57 = .ok (.getfield 57, 3) := bd180 (a := 0) (b := 57) (btAt dk18apub_cX8_copyFrom_0_a 30 rfl)
theorem dX8_copyFrom_60 : decode cX8_copyFrom 60 = .ok (.putfield 57, 3) := bd181 (a := 0) (b := 57) (btAt dk18apub_cX8_copyFrom_0_a 31 rfl)
theorem dX8_copyFrom_63 : decode cX8_copyFrom 63 = .ok (.iconst 0, 1) := bd3 (btAt dk18apub_cX8_copyFrom_0_a 32 rfl)
theorem dX8_copyFrom_64 : decode cX8_copyFrom 64 = .ok (.istore_n 2, 1) := bd61 (btAt dk18apub_cX8_copyFrom_0_a 33 rfl)
theorem dX8_copyFrom_65 : decode cX8_copyFrom 65 = .ok (.iload_n 2, 1) := bd28 (btAt dk18apub_cX8_copyFrom_0_a 34 rfl)
theorem dX8_copyFrom_66 : decode cX8_copyFrom 66 = .ok (.bipush 8, 2) := bd16 (a := 8) (btAt dk18apub_cX8_copyFrom_0_a 35 rfl)
theorem dX8_copyFrom_68 : decode cX8_copyFrom 68 = .ok (.if_icmp .ge 21, 3) := bd162 (a := 0) (b := 21) (btAt dk18apub_cX8_copyFrom_0_a 36 rfl)
theorem dX8_copyFrom_89 : decode cX8_copyFrom 89 = .ok (.aload_n 0, 1) := bd42 (btAt dk18apub_cX8_copyFrom_0_a 37 rfl)
theorem dX8_copyFrom_90 : decode cX8_copyFrom 90 = .ok (.aload_n 1, 1) := bd43 (btAt dk18apub_cX8_copyFrom_0_a 38 rfl)
theorem dX8_copyFrom_91 : decode cX8_copyFrom 91 = .ok (.getfield 60, 3) := bd180 (a := 0) (b := 60) (btAt dk18apub_cX8_copyFrom_0_a 39 rfl)
noncomputable def dk18apub_cX8_copyFrom_40 : List (Nat × List Nat) := [(71, [42]), (72, [180, 0, 24]), (75, [28]), (76, [43]), (77, [180, 0, 24]), (80, [28]), (81, [50]), (82, [83]), (83, [132, 2, 1]), (86, [167, 255, 235]), (94, [181, 0, 60]), (97, [43]), (98, [180, 0, 28]), (101, [3]), (102, [42]), (103, [180, 0, 28]), (106, [3]), (107, [16, 6]), (109, [184, 0, 37]), (112, [42]), (113, [43]), (114, [180, 0, 63]), (117, [181, 0, 63]), (120, [43]), (121, [180, 0, 31]), (124, [3]), (125, [42]), (126, [180, 0, 31]), (129, [3]), (130, [16, 12]), (132, [184, 0, 37]), (135, [42]), (136, [43]), (137, [180, 0, 66]), (140, [181, 0, 66]), (143, [177])]
set_option maxRecDepth 100000 in
theorem dk18apub_cX8_copyFrom_40_a : btA cX8_copyFrom dk18apub_cX8_copyFrom_40 = true := by decide +kernel
theorem dX8_copyFrom_71 : decode cX8_copyFrom 71 = .ok (.aload_n 0, 1) := bd42 (btAt dk18apub_cX8_copyFrom_40_a 0 rfl)
theorem dX8_copyFrom_72 : decode cX8_copyFrom 72 = .ok (.getfield 24, 3) := bd180 (a := 0) (b := 24) (btAt dk18apub_cX8_copyFrom_40_a 1 rfl)
theorem dX8_copyFrom_75 : decode cX8_copyFrom 75 = .ok (.iload_n 2, 1) := bd28 (btAt dk18apub_cX8_copyFrom_40_a 2 rfl)
theorem dX8_copyFrom_76 : decode cX8_copyFrom 76 = .ok (.aload_n 1, 1) := bd43 (btAt dk18apub_cX8_copyFrom_40_a 3 rfl)
theorem dX8_copyFrom_77 : decode cX8_copyFrom 77 = .ok (.getfield 24, 3) := bd180 (a := 0) (b := 24) (btAt dk18apub_cX8_copyFrom_40_a 4 rfl)
theorem dX8_copyFrom_80 : decode cX8_copyFrom 80 = .ok (.iload_n 2, 1) := bd28 (btAt dk18apub_cX8_copyFrom_40_a 5 rfl)
theorem dX8_copyFrom_81 : decode cX8_copyFrom 81 = .ok (.aaload, 1) := bd50 (btAt dk18apub_cX8_copyFrom_40_a 6 rfl)
theorem dX8_copyFrom_82 : decode cX8_copyFrom 82 = .ok (.aastore, 1) := bd83 (btAt dk18apub_cX8_copyFrom_40_a 7 rfl)
theorem dX8_copyFrom_83 : decode cX8_copyFrom 83 = .ok (.iinc 2 1, 3) := bd132 (a := 2) (b := 1) (btAt dk18apub_cX8_copyFrom_40_a 8 rfl)
theorem dX8_copyFrom_86 : decode cX8_copyFrom 86 = .ok (.goto (-21), 3) := bd167 (a := 255) (b := 235) (btAt dk18apub_cX8_copyFrom_40_a 9 rfl)
theorem dX8_copyFrom_94 : decode cX8_copyFrom 94 = .ok (.putfield 60, 3) := bd181 (a := 0) (b := 60) (btAt dk18apub_cX8_copyFrom_40_a 10 rfl)
theorem dX8_copyFrom_97 : decode cX8_copyFrom 97 = .ok (.aload_n 1, 1) := bd43 (btAt dk18apub_cX8_copyFrom_40_a 11 rfl)
theorem dX8_copyFrom_98 : decode cX8_copyFrom 98 = .ok (.getfield 28, 3) := bd180 (a := 0) (b := 28) (btAt dk18apub_cX8_copyFrom_40_a 12 rfl)
theorem dX8_copyFrom_101 : decode cX8_copyFrom 101 = .ok (.iconst 0, 1) := bd3 (btAt dk18apub_cX8_copyFrom_40_a 13 rfl)
theorem dX8_copyFrom_102 : decode cX8_copyFrom 102 = .ok (.aload_n 0, 1) := bd42 (btAt dk18apub_cX8_copyFrom_40_a 14 rfl)
theorem dX8_copyFrom_103 : decode cX8_copyFrom 103 = .ok (.getfield 28, 3) := bd180 (a := 0) (b := 28) (btAt dk18apub_cX8_copyFrom_40_a 15 rfl)
theorem dX8_copyFrom_106 : decode cX8_copyFrom 106 = .ok (.iconst 0, 1) := bd3 (btAt dk18apub_cX8_copyFrom_40_a 16 rfl)
theorem dX8_copyFrom_107 : decode cX8_copyFrom 107 = .ok (.bipush 6, 2) := bd16 (a := 6) (btAt dk18apub_cX8_copyFrom_40_a 17 rfl)
theorem dX8_copyFrom_109 : decode cX8_copyFrom 109 = .ok (.invokestatic 37, 3) := bd184 (a := 0) (b := 37) (btAt dk18apub_cX8_copyFrom_40_a 18 rfl)
theorem dX8_copyFrom_112 : decode cX8_copyFrom 112 = .ok (.aload_n 0, 1) := bd42 (btAt dk18apub_cX8_copyFrom_40_a 19 rfl)
theorem dX8_copyFrom_113 : decode cX8_copyFrom 113 = .ok (.aload_n 1, 1) := bd43 (btAt dk18apub_cX8_copyFrom_40_a 20 rfl)
theorem dX8_copyFrom_114 : decode cX8_copyFrom 114 = .ok (.getfield 63, 3) := bd180 (a := 0) (b := 63) (btAt dk18apub_cX8_copyFrom_40_a 21 rfl)
theorem dX8_copyFrom_117 : decode cX8_copyFrom 117 = .ok (.putfield 63, 3) := bd181 (a := 0) (b := 63) (btAt dk18apub_cX8_copyFrom_40_a 22 rfl)
theorem dX8_copyFrom_120 : decode cX8_copyFrom 120 = .ok (.aload_n 1, 1) := bd43 (btAt dk18apub_cX8_copyFrom_40_a 23 rfl)
theorem dX8_copyFrom_121 : decode cX8_copyFrom 121 = .ok (.getfield 31, 3) := bd180 (a := 0) (b := 31) (btAt dk18apub_cX8_copyFrom_40_a 24 rfl)
theorem dX8_copyFrom_124 : decode cX8_copyFrom 124 = .ok (.iconst 0, 1) := bd3 (btAt dk18apub_cX8_copyFrom_40_a 25 rfl)
theorem dX8_copyFrom_125 : decode cX8_copyFrom 125 = .ok (.aload_n 0, 1) := bd42 (btAt dk18apub_cX8_copyFrom_40_a 26 rfl)
theorem dX8_copyFrom_126 : decode cX8_copyFrom 126 = .ok (.getfield 31, 3) := bd180 (a := 0) (b := 31) (btAt dk18apub_cX8_copyFrom_40_a 27 rfl)
theorem dX8_copyFrom_129 : decode cX8_copyFrom 129 = .ok (.iconst 0, 1) := bd3 (btAt dk18apub_cX8_copyFrom_40_a 28 rfl)
theorem dX8_copyFrom_130 : decode cX8_copyFrom 130 = .ok (.bipush 12, 2) := bd16 (a := 12) (btAt dk18apub_cX8_copyFrom_40_a 29 rfl)
theorem dX8_copyFrom_132 : decode cX8_copyFrom 132 = .ok (.invokestatic 37, 3) := bd184 (a := 0) (b := 37) (btAt dk18apub_cX8_copyFrom_40_a 30 rfl)
theorem dX8_copyFrom_135 : decode cX8_copyFrom 135 = .ok (.aload_n 0, 1) := bd42 (btAt dk18apub_cX8_copyFrom_40_a 31 rfl)
theorem dX8_copyFrom_136 : decode cX8_copyFrom 136 = .ok (.aload_n 1, 1) := bd43 (btAt dk18apub_cX8_copyFrom_40_a 32 rfl)
theorem dX8_copyFrom_137 : decode cX8_copyFrom 137 = .ok (.getfield 66, 3) := bd180 (a := 0) (b := 66) (btAt dk18apub_cX8_copyFrom_40_a 33 rfl)
theorem dX8_copyFrom_140 : decode cX8_copyFrom 140 = .ok (.putfield 66, 3) := bd181 (a := 0) (b := 66) (btAt dk18apub_cX8_copyFrom_40_a 34 rfl)
theorem dX8_copyFrom_143 : decode cX8_copyFrom 143 = .ok (.return_, 1) := bd177 (btAt dk18apub_cX8_copyFrom_40_a 35 rfl)
noncomputable def dk18apub_cX5_read_0 : List (Nat × List Nat) := [(0, [42]), (1, [43]), (2, [181, 0, 28]), (5, [42]), (6, [28]), (7, [181, 0, 31]), (10, [42]), (11, [3]), (12, [181, 0, 34]), (15, [42]), (16, [3]), (17, [181, 0, 37]), (20, [42]), (21, [6]), (22, [181, 0, 11]), (25, [3]), (26, [62]), (27, [29]), (28, [16, 10]), (30, [162, 0, 134]), (33, [42]), (34, [182, 0, 40]), (37, [54, 4]), (39, [21, 4]), (41, [2]), (42, [159, 0, 10]), (45, [42]), (46, [182, 0, 44]), (49, [154, 0, 8]), (52, [42]), (53, [180, 0, 34]), (56, [172]), (57, [42]), (58, [180, 0, 15]), (61, [29]), (164, [42]), (165, [180, 0, 34]), (168, [4]), (169, [100]), (170, [172])]
set_option maxRecDepth 100000 in
theorem dk18apub_cX5_read_0_a : btA cX5_read dk18apub_cX5_read_0 = true := by decide +kernel
theorem dX5_read_0 : decode cX5_read 0 = .ok (.aload_n 0, 1) := bd42 (btAt dk18apub_cX5_read_0_a 0 rfl)
theorem dX5_read_1 : decode cX5_read 1 = .ok (.aload_n 1, 1) := bd43 (btAt dk18apub_cX5_read_0_a 1 rfl)
theorem dX5_read_2 : decode cX5_read 2 = .ok (.putfield 28, 3) := bd181 (a := 0) (b := 28) (btAt dk18apub_cX5_read_0_a 2 rfl)
theorem dX5_read_5 : decode cX5_read 5 = .ok (.aload_n 0, 1) := bd42 (btAt dk18apub_cX5_read_0_a 3 rfl)
theorem dX5_read_6 : decode cX5_read 6 = .ok (.iload_n 2, 1) := bd28 (btAt dk18apub_cX5_read_0_a 4 rfl)
theorem dX5_read_7 : decode cX5_read 7 = .ok (.putfield 31, 3) := bd181 (a := 0) (b := 31) (btAt dk18apub_cX5_read_0_a 5 rfl)
theorem dX5_read_10 : decode cX5_read 10 = .ok (.aload_n 0, 1) := bd42 (btAt dk18apub_cX5_read_0_a 6 rfl)
theorem dX5_read_11 : decode cX5_read 11 = .ok (.iconst 0, 1) := bd3 (btAt dk18apub_cX5_read_0_a 7 rfl)
theorem dX5_read_12 : decode cX5_read 12 = .ok (.putfield 34, 3) := bd181 (a := 0) (b := 34) (btAt dk18apub_cX5_read_0_a 8 rfl)
theorem dX5_read_15 : decode cX5_read 15 = .ok (.aload_n 0, 1) := bd42 (btAt dk18apub_cX5_read_0_a 9 rfl)
theorem dX5_read_16 : decode cX5_read 16 = .ok (.iconst 0, 1) := bd3 (btAt dk18apub_cX5_read_0_a 10 rfl)
theorem dX5_read_17 : decode cX5_read 17 = .ok (.putfield 37, 3) := bd181 (a := 0) (b := 37) (btAt dk18apub_cX5_read_0_a 11 rfl)
theorem dX5_read_20 : decode cX5_read 20 = .ok (.aload_n 0, 1) := bd42 (btAt dk18apub_cX5_read_0_a 12 rfl)
theorem dX5_read_21 : decode cX5_read 21 = .ok (.iconst 3, 1) := bd6 (btAt dk18apub_cX5_read_0_a 13 rfl)
theorem dX5_read_22 : decode cX5_read 22 = .ok (.putfield 11, 3) := bd181 (a := 0) (b := 11) (btAt dk18apub_cX5_read_0_a 14 rfl)
theorem dX5_read_25 : decode cX5_read 25 = .ok (.iconst 0, 1) := bd3 (btAt dk18apub_cX5_read_0_a 15 rfl)
theorem dX5_read_26 : decode cX5_read 26 = .ok (.istore_n 3, 1) := bd62 (btAt dk18apub_cX5_read_0_a 16 rfl)
theorem dX5_read_27 : decode cX5_read 27 = .ok (.iload_n 3, 1) := bd29 (btAt dk18apub_cX5_read_0_a 17 rfl)
theorem dX5_read_28 : decode cX5_read 28 = .ok (.bipush 10, 2) := bd16 (a := 10) (btAt dk18apub_cX5_read_0_a 18 rfl)
theorem dX5_read_30 : decode cX5_read 30 = .ok (.if_icmp .ge 134, 3) := bd162 (a := 0) (b := 134) (btAt dk18apub_cX5_read_0_a 19 rfl)
theorem dX5_read_33 : decode cX5_read 33 = .ok (.aload_n 0, 1) := bd42 (btAt dk18apub_cX5_read_0_a 20 rfl)
theorem dX5_read_34 : decode cX5_read 34 = .ok (.invokevirtual 40, 3) := bd182 (a := 0) (b := 40) (btAt dk18apub_cX5_read_0_a 21 rfl)
theorem dX5_read_37 : decode cX5_read 37 = .ok (.istore 4, 2) := bd54 (a := 4) (btAt dk18apub_cX5_read_0_a 22 rfl)
theorem dX5_read_39 : decode cX5_read 39 = .ok (.iload 4, 2) := bd21 (a := 4) (btAt dk18apub_cX5_read_0_a 23 rfl)
theorem dX5_read_41 : decode cX5_read 41 = .ok (.iconst (-1), 1) := bd2 (btAt dk18apub_cX5_read_0_a 24 rfl)
theorem dX5_read_42 : decode cX5_read 42 = .ok (.if_icmp .eq 10, 3) := bd159 (a := 0) (b := 10) (btAt dk18apub_cX5_read_0_a 25 rfl)
theorem dX5_read_45 : decode cX5_read 45 = .ok (.aload_n 0, 1) := bd42 (btAt dk18apub_cX5_read_0_a 26 rfl)
theorem dX5_read_46 : decode cX5_read 46 = .ok (.invokevirtual 44, 3) := bd182 (a := 0) (b := 44) (btAt dk18apub_cX5_read_0_a 27 rfl)
theorem dX5_read_49 : decode cX5_read 49 = .ok (.ifCond .ne 8, 3) := bd154 (a := 0) (b := 8) (btAt dk18apub_cX5_read_0_a 28 rfl)
theorem dX5_read_52 : decode cX5_read 52 = .ok (.aload_n 0, 1) := bd42 (btAt dk18apub_cX5_read_0_a 29 rfl)
theorem dX5_read_53 : decode cX5_read 53 = .ok (.getfield 34, 3) := bd180 (a := 0) (b := 34) (btAt dk18apub_cX5_read_0_a 30 rfl)
theorem dX5_read_56 : decode cX5_read 56 = .ok (.ireturn, 1) := bd172 (btAt dk18apub_cX5_read_0_a 31 rfl)
theorem dX5_read_57 : decode cX5_read 57 = .ok (.aload_n 0, 1) := bd42 (btAt dk18apub_cX5_read_0_a 32 rfl)
theorem dX5_read_58 : decode cX5_read 58 = .ok (.getfield 15, 3) := bd180 (a := 0) (b := 15) (btAt dk18apub_cX5_read_0_a 33 rfl)
theorem dX5_read_61 : decode cX5_read 61 = .ok (.iload_n 3, 1) := bd29 (btAt dk18apub_cX5_read_0_a 34 rfl)
theorem dX5_read_164 : decode cX5_read 164 = .ok (.aload_n 0, 1) := bd42 (btAt dk18apub_cX5_read_0_a 35 rfl)
theorem dX5_read_165 : decode cX5_read 165 = .ok (.getfield 34, 3) := bd180 (a := 0) (b := 34) (btAt dk18apub_cX5_read_0_a 36 rfl)
theorem dX5_read_168 : decode cX5_read 168 = .ok (.iconst 1, 1) := bd4 (btAt dk18apub_cX5_read_0_a 37 rfl)
theorem dX5_read_169 : decode cX5_read 169 = .ok (.isub, 1) := bd100 (btAt dk18apub_cX5_read_0_a 38 rfl)
theorem dX5_read_170 : decode cX5_read 170 = .ok (.ireturn, 1) := bd172 (btAt dk18apub_cX5_read_0_a 39 rfl)
noncomputable def dk18apub_cX5_read_40 : List (Nat × List Nat) := [(62, [21, 4]), (64, [79]), (65, [42]), (66, [180, 0, 19]), (69, [29]), (70, [42]), (71, [180, 0, 48]), (74, [79]), (75, [21, 4]), (77, [5]), (78, [160, 0, 14]), (92, [42]), (93, [16, 32]), (95, [182, 0, 51]), (98, [153, 0, 11]), (101, [42]), (102, [3]), (103, [182, 0, 55]), (106, [154, 0, 8]), (114, [42]), (115, [180, 0, 22]), (118, [29]), (119, [42]), (120, [180, 0, 37]), (123, [79]), (124, [42]), (125, [29]), (126, [4]), (127, [96]), (128, [181, 0, 59]), (131, [42]), (132, [180, 0, 34]), (135, [42]), (136, [180, 0, 31]), (139, [160, 0, 5]), (144, [42]), (145, [16, 59]), (147, [182, 0, 51]), (150, [154, 0, 8]), (158, [132, 3, 1])]
set_option maxRecDepth 100000 in
theorem dk18apub_cX5_read_40_a : btA cX5_read dk18apub_cX5_read_40 = true := by decide +kernel
theorem dX5_read_62 : decode cX5_read 62 = .ok (.iload 4, 2) := bd21 (a := 4) (btAt dk18apub_cX5_read_40_a 0 rfl)
theorem dX5_read_64 : decode cX5_read 64 = .ok (.iastore, 1) := bd79 (btAt dk18apub_cX5_read_40_a 1 rfl)
theorem dX5_read_65 : decode cX5_read 65 = .ok (.aload_n 0, 1) := bd42 (btAt dk18apub_cX5_read_40_a 2 rfl)
theorem dX5_read_66 : decode cX5_read 66 = .ok (.getfield 19, 3) := bd180 (a := 0) (b := 19) (btAt dk18apub_cX5_read_40_a 3 rfl)
theorem dX5_read_69 : decode cX5_read 69 = .ok (.iload_n 3, 1) := bd29 (btAt dk18apub_cX5_read_40_a 4 rfl)
theorem dX5_read_70 : decode cX5_read 70 = .ok (.aload_n 0, 1) := bd42 (btAt dk18apub_cX5_read_40_a 5 rfl)
theorem dX5_read_71 : decode cX5_read 71 = .ok (.getfield 48, 3) := bd180 (a := 0) (b := 48) (btAt dk18apub_cX5_read_40_a 6 rfl)
theorem dX5_read_74 : decode cX5_read 74 = .ok (.iastore, 1) := bd79 (btAt dk18apub_cX5_read_40_a 7 rfl)
theorem dX5_read_75 : decode cX5_read 75 = .ok (.iload 4, 2) := bd21 (a := 4) (btAt dk18apub_cX5_read_40_a 8 rfl)
theorem dX5_read_77 : decode cX5_read 77 = .ok (.iconst 2, 1) := bd5 (btAt dk18apub_cX5_read_40_a 9 rfl)
theorem dX5_read_78 : decode cX5_read 78 = .ok (.if_icmp .ne 14, 3) := bd160 (a := 0) (b := 14) (btAt dk18apub_cX5_read_40_a 10 rfl)
theorem dX5_read_92 : decode cX5_read 92 = .ok (.aload_n 0, 1) := bd42 (btAt dk18apub_cX5_read_40_a 11 rfl)
theorem dX5_read_93 : decode cX5_read 93 = .ok (.bipush 32, 2) := bd16 (a := 32) (btAt dk18apub_cX5_read_40_a 12 rfl)
theorem dX5_read_95 : decode cX5_read 95 = .ok (.invokevirtual 51, 3) := bd182 (a := 0) (b := 51) (btAt dk18apub_cX5_read_40_a 13 rfl)
theorem dX5_read_98 : decode cX5_read 98 = .ok (.ifCond .eq 11, 3) := bd153 (a := 0) (b := 11) (btAt dk18apub_cX5_read_40_a 14 rfl)
theorem dX5_read_101 : decode cX5_read 101 = .ok (.aload_n 0, 1) := bd42 (btAt dk18apub_cX5_read_40_a 15 rfl)
theorem dX5_read_102 : decode cX5_read 102 = .ok (.iconst 0, 1) := bd3 (btAt dk18apub_cX5_read_40_a 16 rfl)
theorem dX5_read_103 : decode cX5_read 103 = .ok (.invokevirtual 55, 3) := bd182 (a := 0) (b := 55) (btAt dk18apub_cX5_read_40_a 17 rfl)
theorem dX5_read_106 : decode cX5_read 106 = .ok (.ifCond .ne 8, 3) := bd154 (a := 0) (b := 8) (btAt dk18apub_cX5_read_40_a 18 rfl)
theorem dX5_read_114 : decode cX5_read 114 = .ok (.aload_n 0, 1) := bd42 (btAt dk18apub_cX5_read_40_a 19 rfl)
theorem dX5_read_115 : decode cX5_read 115 = .ok (.getfield 22, 3) := bd180 (a := 0) (b := 22) (btAt dk18apub_cX5_read_40_a 20 rfl)
theorem dX5_read_118 : decode cX5_read 118 = .ok (.iload_n 3, 1) := bd29 (btAt dk18apub_cX5_read_40_a 21 rfl)
theorem dX5_read_119 : decode cX5_read 119 = .ok (.aload_n 0, 1) := bd42 (btAt dk18apub_cX5_read_40_a 22 rfl)
theorem dX5_read_120 : decode cX5_read 120 = .ok (.getfield 37, 3) := bd180 (a := 0) (b := 37) (btAt dk18apub_cX5_read_40_a 23 rfl)
theorem dX5_read_123 : decode cX5_read 123 = .ok (.iastore, 1) := bd79 (btAt dk18apub_cX5_read_40_a 24 rfl)
theorem dX5_read_124 : decode cX5_read 124 = .ok (.aload_n 0, 1) := bd42 (btAt dk18apub_cX5_read_40_a 25 rfl)
theorem dX5_read_125 : decode cX5_read 125 = .ok (.iload_n 3, 1) := bd29 (btAt dk18apub_cX5_read_40_a 26 rfl)
theorem dX5_read_126 : decode cX5_read 126 = .ok (.iconst 1, 1) := bd4 (btAt dk18apub_cX5_read_40_a 27 rfl)
theorem dX5_read_127 : decode cX5_read 127 = .ok (.iadd, 1) := bd96 (btAt dk18apub_cX5_read_40_a 28 rfl)
theorem dX5_read_128 : decode cX5_read 128 = .ok (.putfield 59, 3) := bd181 (a := 0) (b := 59) (btAt dk18apub_cX5_read_40_a 29 rfl)
theorem dX5_read_131 : decode cX5_read 131 = .ok (.aload_n 0, 1) := bd42 (btAt dk18apub_cX5_read_40_a 30 rfl)
theorem dX5_read_132 : decode cX5_read 132 = .ok (.getfield 34, 3) := bd180 (a := 0) (b := 34) (btAt dk18apub_cX5_read_40_a 31 rfl)
theorem dX5_read_135 : decode cX5_read 135 = .ok (.aload_n 0, 1) := bd42 (btAt dk18apub_cX5_read_40_a 32 rfl)
theorem dX5_read_136 : decode cX5_read 136 = .ok (.getfield 31, 3) := bd180 (a := 0) (b := 31) (btAt dk18apub_cX5_read_40_a 33 rfl)
theorem dX5_read_139 : decode cX5_read 139 = .ok (.if_icmp .ne 5, 3) := bd160 (a := 0) (b := 5) (btAt dk18apub_cX5_read_40_a 34 rfl)
theorem dX5_read_144 : decode cX5_read 144 = .ok (.aload_n 0, 1) := bd42 (btAt dk18apub_cX5_read_40_a 35 rfl)
theorem dX5_read_145 : decode cX5_read 145 = .ok (.bipush 59, 2) := bd16 (a := 59) (btAt dk18apub_cX5_read_40_a 36 rfl)
theorem dX5_read_147 : decode cX5_read 147 = .ok (.invokevirtual 51, 3) := bd182 (a := 0) (b := 51) (btAt dk18apub_cX5_read_40_a 37 rfl)
theorem dX5_read_150 : decode cX5_read 150 = .ok (.ifCond .ne 8, 3) := bd154 (a := 0) (b := 8) (btAt dk18apub_cX5_read_40_a 38 rfl)
theorem dX5_read_158 : decode cX5_read 158 = .ok (.iinc 3 1, 3) := bd132 (a := 3) (b := 1) (btAt dk18apub_cX5_read_40_a 39 rfl)
noncomputable def dk18apub_cX5_read_80 : List (Nat × List Nat) := [(81, [42]), (82, [42]), (83, [180, 0, 48]), (86, [181, 0, 11]), (89, [167, 0, 25]), (109, [42]), (110, [180, 0, 34]), (113, [172]), (142, [2]), (143, [172]), (153, [42]), (154, [180, 0, 34]), (157, [172]), (161, [167, 255, 122])]
set_option maxRecDepth 100000 in
theorem dk18apub_cX5_read_80_a : btA cX5_read dk18apub_cX5_read_80 = true := by decide +kernel
theorem dX5_read_81 : decode cX5_read 81 = .ok (.aload_n 0, 1) := bd42 (btAt dk18apub_cX5_read_80_a 0 rfl)
theorem dX5_read_82 : decode cX5_read 82 = .ok (.aload_n 0, 1) := bd42 (btAt dk18apub_cX5_read_80_a 1 rfl)
theorem dX5_read_83 : decode cX5_read 83 = .ok (.getfield 48, 3) := bd180 (a := 0) (b := 48) (btAt dk18apub_cX5_read_80_a 2 rfl)
theorem dX5_read_86 : decode cX5_read 86 = .ok (.putfield 11, 3) := bd181 (a := 0) (b := 11) (btAt dk18apub_cX5_read_80_a 3 rfl)
theorem dX5_read_89 : decode cX5_read 89 = .ok (.goto 25, 3) := bd167 (a := 0) (b := 25) (btAt dk18apub_cX5_read_80_a 4 rfl)
theorem dX5_read_109 : decode cX5_read 109 = .ok (.aload_n 0, 1) := bd42 (btAt dk18apub_cX5_read_80_a 5 rfl)
theorem dX5_read_110 : decode cX5_read 110 = .ok (.getfield 34, 3) := bd180 (a := 0) (b := 34) (btAt dk18apub_cX5_read_80_a 6 rfl)
theorem dX5_read_113 : decode cX5_read 113 = .ok (.ireturn, 1) := bd172 (btAt dk18apub_cX5_read_80_a 7 rfl)
theorem dX5_read_142 : decode cX5_read 142 = .ok (.iconst (-1), 1) := bd2 (btAt dk18apub_cX5_read_80_a 8 rfl)
theorem dX5_read_143 : decode cX5_read 143 = .ok (.ireturn, 1) := bd172 (btAt dk18apub_cX5_read_80_a 9 rfl)
theorem dX5_read_153 : decode cX5_read 153 = .ok (.aload_n 0, 1) := bd42 (btAt dk18apub_cX5_read_80_a 10 rfl)
theorem dX5_read_154 : decode cX5_read 154 = .ok (.getfield 34, 3) := bd180 (a := 0) (b := 34) (btAt dk18apub_cX5_read_80_a 11 rfl)
theorem dX5_read_157 : decode cX5_read 157 = .ok (.ireturn, 1) := bd172 (btAt dk18apub_cX5_read_80_a 12 rfl)
theorem dX5_read_161 : decode cX5_read 161 = .ok (.goto (-134), 3) := bd167 (a := 255) (b := 122) (btAt dk18apub_cX5_read_80_a 13 rfl)
theorem sub50 {y : Int32} {n : Nat} (hn : n ≤ 1000) (h1 : ¬ y < 50) (h2 : ¬ nI n ≤ y - 50) : ∃ j : Nat, j < n ∧ y - 50 = nI j := by
  obtain ⟨k, hk, rfl⟩ := nI_of (x := y) (fun q => h1 (Int32.lt_trans q (by decide)))
  have h3 : 50 ≤ k := Nat.le_of_not_lt (fun q => h1 (nI_lt (b := 50) q (by omega)))
  have e : nI k - 50 = nI (k - 50) := pk_sub (a := k) (b := 50) h3
  rw [e] at h2 ⊢
  exact ⟨k - 50, Nat.lt_of_not_le (fun q => h2 (nI_le q (by omega))), rfl⟩
theorem one3 {z : Int32} (h1 : ¬ z < 1) (h2 : z ≤ 3) : z = 1 ∨ z = 2 ∨ z = 3 := by
  obtain ⟨j, hj, rfl⟩ := nI_of2 (n := 3) (M := 3) rfl (fun q => h1 (Int32.lt_trans q (by decide))) h2
  have h3 : ¬ j < 1 := fun q => h1 (nI_lt (b := 1) q (by omega))
  have : j = 1 ∨ j = 2 ∨ j = 3 := by omega
  rcases this with rfl | rfl | rfl
  · exact Or.inl rfl
  · exact Or.inr (Or.inl rfl)
  · exact Or.inr (Or.inr rfl)
theorem seven {k : Int32} (h1 : ¬ k < 0) (h2 : ¬ 7 ≤ k) : k = 0 ∨ k = 1 ∨ k = 2 ∨ k = 3 ∨ k = 4 ∨ k = 5 ∨ k = 6 := by
  obtain ⟨j, hj, rfl⟩ := lt_of (n := 7) (by omega) h1 h2
  have : j = 0 ∨ j = 1 ∨ j = 2 ∨ j = 3 ∨ j = 4 ∨ j = 5 ∨ j = 6 := by omega
  rcases this with rfl | rfl | rfl | rfl | rfl | rfl | rfl
  · exact Or.inl rfl
  · exact Or.inr (Or.inl rfl)
  · exact Or.inr (Or.inr (Or.inl rfl))
  · exact Or.inr (Or.inr (Or.inr (Or.inl rfl)))
  · exact Or.inr (Or.inr (Or.inr (Or.inr (Or.inl rfl))))
  · exact Or.inr (Or.inr (Or.inr (Or.inr (Or.inr (Or.inl rfl)))))
  · exact Or.inr (Or.inr (Or.inr (Or.inr (Or.inr (Or.inr rfl)))))
theorem wk_up {f : Nat → Int32} {k j : Nat} (h : ∀ k0, k0 < 6 → ∃ w0 : Nat, w0 < 8 ∧ f k0 = nI w0) (hj : j < 8) : ∀ k0, k0 < 6 → ∃ w0 : Nat, w0 < 8 ∧ upd f k (nI j) k0 = nI w0 := by
  intro k0 hk
  by_cases q : k0 = k
  · subst q; exact ⟨j, hj, pk_us⟩
  · rw [pk_un q]; exact h k0 hk
theorem bk_up2 {f : Nat → Int32} {k j : Nat} (h : ∀ k0, k0 < 12 → ∃ w0 : Nat, w0 < 8 ∧ f k0 = nI w0) (hj : j < 8) : ∀ k0, k0 < 12 → ∃ w0 : Nat, w0 < 8 ∧ upd f k (nI j) k0 = nI w0 := by
  intro k0 hk
  by_cases q : k0 = k
  · subst q; exact ⟨j, hj, pk_us⟩
  · rw [pk_un q]; exact h k0 hk
theorem wk_ans {k j : Nat} (hj : j < 8) (h6 : k < 6) : nI (k + 1) = wkR k (nI j) ∧ k + 1 = wkN k (nI j) := by
  have h1 : ¬ nI j = -1 := nI_nm1 (by omega)
  have h2 : ¬ nI j < 0 := nI_pos (by omega)
  have h3 : ¬ (7 : Int32) < nI j := nI_nlt (a := 7) (b := j) (by omega) (by omega)
  constructor
  · rw [wkR, if_neg h1, if_neg h2, if_neg h3, if_neg (by omega)]
  · rw [wkN, if_neg h1, if_neg h2, if_neg h3, if_neg (by omega)]
theorem wk_full {k j : Nat} (hj : j < 8) (h6 : k = 6) : (-4 : Int32) = wkR k (nI j) ∧ k = wkN k (nI j) := by
  have h1 : ¬ nI j = -1 := nI_nm1 (by omega)
  have h2 : ¬ nI j < 0 := nI_pos (by omega)
  have h3 : ¬ (7 : Int32) < nI j := nI_nlt (a := 7) (b := j) (by omega) (by omega)
  constructor
  · rw [wkR, if_neg h1, if_neg h2, if_neg h3, if_pos h6]
  · rw [wkN, if_neg h1, if_neg h2, if_neg h3, if_pos h6]
theorem wk_none {k : Nat} {x : Int32} (h1 : ¬ x = -1) (h : x < 0 ∨ ¬ x < 8) : (-1 : Int32) = wkR k x ∧ k = wkN k x := by
  by_cases h2 : x < 0
  · exact ⟨by rw [wkR, if_neg h1, if_pos h2], by rw [wkN, if_neg h1, if_pos h2]⟩
  · have h3 : 7 < x := by
      rcases h with q | q
      · exact absurd q h2
      · exact Int32.lt_of_lt_of_le (by decide) (Int32.not_lt.mp q)
    exact ⟨by rw [wkR, if_neg h1, if_neg h2, if_pos h3], by rw [wkN, if_neg h1, if_neg h2, if_pos h3]⟩

theorem kc_copyFrom_0 : ∀ w ∈ wsX80, w ∈ wsX8_copyFrom := fun w h => List.mem_cons_of_mem _ (gin_wsX80 w h)
theorem kc_copyFrom_1 : (.fieldLink RX8 9 "MistHeaps$Scene" "tape" "[I" : Cond) ∈ wsX8_copyFrom := kc_of 152 rfl rfl rfl
theorem kc_copyFrom_2 : (.methodLink RX8 37 arraycopyName : Cond) ∈ wsX8_copyFrom := kc_of 1126 rfl rfl rfl
theorem kc_copyFrom_3 : (.native arraycopyName : Cond) ∈ wsX8_copyFrom := kc_of 1010 rfl rfl rfl
theorem kc_copyFrom_4 : (.static arraycopyName : Cond) ∈ wsX8_copyFrom := kc_of 1009 rfl rfl rfl
theorem kc_copyFrom_5 : (.initialized "java/lang/System" : Cond) ∈ wsX8_copyFrom := kc_of 91 rfl rfl rfl
theorem kc_copyFrom_6 : (.fieldLink RX8 43 "MistHeaps$Scene" "tapeSize" "I" : Cond) ∈ wsX8_copyFrom := kc_of 155 rfl rfl rfl
theorem kc_copyFrom_7 : (.fieldLink RX8 18 "MistHeaps$Scene" "hill" "LMistHeaps$Hill;" : Cond) ∈ wsX8_copyFrom := kc_of 156 rfl rfl rfl
theorem kc_copyFrom_8 : (.fieldLink RX8 47 "MistHeaps$Scene" "hills" "I" : Cond) ∈ wsX8_copyFrom := kc_of 158 rfl rfl rfl
theorem kc_copyFrom_9 : (.fieldLink RX8 50 "MistHeaps$Scene" "edges" "J" : Cond) ∈ wsX8_copyFrom := kc_of 160 rfl rfl rfl
theorem kc_copyFrom_10 : (.fieldLink RX8 54 "MistHeaps$Scene" "mist" "I" : Cond) ∈ wsX8_copyFrom := kc_of 163 rfl rfl rfl
theorem kc_copyFrom_11 : (.fieldLink RX8 57 "MistHeaps$Scene" "snow" "I" : Cond) ∈ wsX8_copyFrom := kc_of 165 rfl rfl rfl
theorem kc_copyFrom_12 : (.fieldLink RX8 60 "MistHeaps$Scene" "heapCount" "I" : Cond) ∈ wsX8_copyFrom := kc_of 172 rfl rfl rfl
theorem kc_copyFrom_13 : (.fieldLink RX8 28 "MistHeaps$Scene" "walk" "[I" : Cond) ∈ wsX8_copyFrom := kc_of 174 rfl rfl rfl
theorem kc_copyFrom_14 : (.fieldLink RX8 63 "MistHeaps$Scene" "walkSize" "I" : Cond) ∈ wsX8_copyFrom := kc_of 177 rfl rfl rfl
theorem kc_copyFrom_15 : (.fieldLink RX8 31 "MistHeaps$Scene" "book" "[I" : Cond) ∈ wsX8_copyFrom := kc_of 180 rfl rfl rfl
theorem kc_copyFrom_16 : (.fieldLink RX8 66 "MistHeaps$Scene" "bookSize" "I" : Cond) ∈ wsX8_copyFrom := kc_of 182 rfl rfl rfl
theorem kc_copyFrom_17 : (.fieldLink RX8 24 "MistHeaps$Scene" "heaps" "[LMistHeaps$Heap;" : Cond) ∈ wsX8_copyFrom := kc_of 168 rfl rfl rfl
set_option maxHeartbeats 4000000 in
set_option maxRecDepth 100000 in
theorem c_copyFrom (l : Launch) (dC : Nat → ClassId) (dI : Nat → Nat → Nat) (bS : Nat)  (sc : Nat) (kp : Nat) (aTp : Nat) (aHl : Nat) (aHs : Nat) (aWk : Nat) (aBk : Nat) (aFc : Nat) (kTp : Nat) (kHl : Nat) (kHs : Nat) (kWk : Nat) (kBk : Nat) (kFc : Nat) (ts : Nat) (nh : Nat) (n : Nat) (wz : Nat) (bz : Nat) (kn : Nat) (kts : Nat) (knh : Nat) (kwz : Nat) (kbz : Nat) (mi : Int32) (sn : Int32) (kmi : Int32) (ksn : Int32) (ed : Int64) (ked : Int64) (cTp : ClassId) (cHs : ClassId) (cWk : ClassId) (cBk : ClassId) (kcTp : ClassId) (kcHs : ClassId) (kcWk : ClassId) (kcBk : ClassId) (fTp : Nat → Int32) (fWk : Nat → Int32) (fBk : Nat → Int32) (kfTp : Nat → Int32) (kfWk : Nat → Int32) (kfBk : Nat → Int32) (yk : Nat → Int32) (yv : Nat → Int32) (yc : Nat → Int32) (fHs : Nat → Option Nat) (kfHs : Nat → Option Nat) (yi : Nat → Nat) (ya : Nat → Nat) (sz : Nat) (zhs : ∀ k0, k0 < n → fHs k0 = some (ya k0)) (hn8 : n ≤ 8) (zhn : ∀ k0, n ≤ k0 → k0 < 8 → fHs k0 = none) : Met l yX8_copyFrom wsX8_copyFrom ({ frames := 1, cells := 0, slots := 0, locals := 60 } : Room) (va_Pc [.ref kp, .ref sc] (fun U => U.heap.size = sz ∧ va_P (dC, dI) vwCl [(zo10ririliiriririr kp kTp (nI kts) kHl (nI knh) ked kmi ksn kHs (nI kn) kWk (nI kwz) kBk (nI kbz) kFc), (zaI kTp kcTp 100 kfTp), (zaR kHs kcHs 8 kfHs), (zaI kWk kcWk 6 kfWk), (zaI kBk kcBk 12 kfBk), (zo10ririliiriririr sc aTp (nI ts) aHl (nI nh) ed mi sn aHs (nI n) aWk (nI wz) aBk (nI bz) aFc), (zaI aTp cTp 100 fTp), (zaR aHs cHs 8 fHs), (zaI aWk cWk 6 fWk), (zaI aBk cBk 12 fBk)] U.heap ∧ va_K (dC, dI) vwCl [(kcTp, .int), (kcHs, .object "MistHeaps$Heap"), (kcWk, .int), (kcBk, .int), (cTp, .int), (cHs, .object "MistHeaps$Heap"), (cWk, .int), (cBk, .int)] U ∧ va_D (fun _ => True) [(zo10ririliiriririr kp kTp (nI kts) kHl (nI knh) ked kmi ksn kHs (nI kn) kWk (nI kwz) kBk (nI kbz) kFc), (zaI kTp kcTp 100 kfTp), (zaR kHs kcHs 8 kfHs), (zaI kWk kcWk 6 kfWk), (zaI kBk kcBk 12 kfBk), (zo10ririliiriririr sc aTp (nI ts) aHl (nI nh) ed mi sn aHs (nI n) aWk (nI wz) aBk (nI bz) aFc), (zaI aTp cTp 100 fTp), (zaR aHs cHs 8 fHs), (zaI aWk cWk 6 fWk), (zaI aBk cBk 12 fBk)] ∧ Gc bS (va_A [(zo10ririliiriririr kp kTp (nI kts) kHl (nI knh) ked kmi ksn kHs (nI kn) kWk (nI kwz) kBk (nI kbz) kFc), (zaI kTp kcTp 100 kfTp), (zaR kHs kcHs 8 kfHs), (zaI kWk kcWk 6 kfWk), (zaI kBk kcBk 12 kfBk), (zo10ririliiriririr sc aTp (nI ts) aHl (nI nh) ed mi sn aHs (nI n) aWk (nI wz) aBk (nI bz) aFc), (zaI aTp cTp 100 fTp), (zaR aHs cHs 8 fHs), (zaI aWk cWk 6 fWk), (zaI aBk cBk 12 fBk)] sz) U ∧ Hs dC dI n yi ya yk yv yc (va_A [(zo10ririliiriririr kp kTp (nI kts) kHl (nI knh) ked kmi ksn kHs (nI kn) kWk (nI kwz) kBk (nI kbz) kFc), (zaI kTp kcTp 100 kfTp), (zaR kHs kcHs 8 kfHs), (zaI kWk kcWk 6 kfWk), (zaI kBk kcBk 12 kfBk), (zo10ririliiriririr sc aTp (nI ts) aHl (nI nh) ed mi sn aHs (nI n) aWk (nI wz) aBk (nI bz) aFc), (zaI aTp cTp 100 fTp), (zaR aHs cHs 8 fHs), (zaI aWk cWk 6 fWk), (zaI aBk cBk 12 fBk)] sz) U)) (va_Qv (fun (u : (Nat) × (Nat) × (Nat) × (Int64) × (Int32) × (Int32) × (Nat) × (Nat) × (Nat) × (Nat → Int32) × (Nat → Option Nat) × (Nat → Int32) × (Nat → Int32)) => match u with | (kts9, kHl9, knh9, ked9, kmi9, ksn9, kn9, kwz9, kbz9, kfTp9, kfHs9, kfWk9, kfBk9) => kts9 = ts ∧ kHl9 = aHl ∧ knh9 = nh ∧ ked9 = ed ∧ kmi9 = mi ∧ ksn9 = sn ∧ kn9 = n ∧ kwz9 = wz ∧ kbz9 = bz ∧ (∀ k0, k0 < 100 → kfTp9 k0 = fTp k0) ∧ (∀ k0, k0 < 8 → kfHs9 k0 = fHs k0) ∧ (∀ k0, k0 < 6 → kfWk9 k0 = fWk k0) ∧ ∀ k0, k0 < 12 → kfBk9 k0 = fBk k0) (fun (u : (Nat) × (Nat) × (Nat) × (Int64) × (Int32) × (Int32) × (Nat) × (Nat) × (Nat) × (Nat → Int32) × (Nat → Option Nat) × (Nat → Int32) × (Nat → Int32)) (t : State) => match u with | (kts9, kHl9, knh9, ked9, kmi9, ksn9, kn9, kwz9, kbz9, kfTp9, kfHs9, kfWk9, kfBk9) => va_P (dC, dI) vwCl [(zo10ririliiriririr kp kTp (nI kts9) kHl9 (nI knh9) ked9 kmi9 ksn9 kHs (nI kn9) kWk (nI kwz9) kBk (nI kbz9) kFc), (zaI kTp kcTp 100 kfTp9), (zaR kHs kcHs 8 kfHs9), (zaI kWk kcWk 6 kfWk9), (zaI kBk kcBk 12 kfBk9), (zo10ririliiriririr sc aTp (nI ts) aHl (nI nh) ed mi sn aHs (nI n) aWk (nI wz) aBk (nI bz) aFc), (zaI aTp cTp 100 fTp), (zaR aHs cHs 8 fHs), (zaI aWk cWk 6 fWk), (zaI aBk cBk 12 fBk)] t.heap ∧ va_K (dC, dI) vwCl [(kcTp, .int), (kcHs, .object "MistHeaps$Heap"), (kcWk, .int), (kcBk, .int), (cTp, .int), (cHs, .object "MistHeaps$Heap"), (cWk, .int), (cBk, .int)] t ∧ va_D (va_A [(zo10ririliiriririr kp kTp (nI kts) kHl (nI knh) ked kmi ksn kHs (nI kn) kWk (nI kwz) kBk (nI kbz) kFc), (zaI kTp kcTp 100 kfTp), (zaR kHs kcHs 8 kfHs), (zaI kWk kcWk 6 kfWk), (zaI kBk kcBk 12 kfBk), (zo10ririliiriririr sc aTp (nI ts) aHl (nI nh) ed mi sn aHs (nI n) aWk (nI wz) aBk (nI bz) aFc), (zaI aTp cTp 100 fTp), (zaR aHs cHs 8 fHs), (zaI aWk cWk 6 fWk), (zaI aBk cBk 12 fBk)] sz) [(zo10ririliiriririr kp kTp (nI kts9) kHl9 (nI knh9) ked9 kmi9 ksn9 kHs (nI kn9) kWk (nI kwz9) kBk (nI kbz9) kFc), (zaI kTp kcTp 100 kfTp9), (zaR kHs kcHs 8 kfHs9), (zaI kWk kcWk 6 kfWk9), (zaI kBk kcBk 12 kfBk9), (zo10ririliiriririr sc aTp (nI ts) aHl (nI nh) ed mi sn aHs (nI n) aWk (nI wz) aBk (nI bz) aFc), (zaI aTp cTp 100 fTp), (zaR aHs cHs 8 fHs), (zaI aWk cWk 6 fWk), (zaI aBk cBk 12 fBk)]) (va_A [(zo10ririliiriririr kp kTp (nI kts) kHl (nI knh) ked kmi ksn kHs (nI kn) kWk (nI kwz) kBk (nI kbz) kFc), (zaI kTp kcTp 100 kfTp), (zaR kHs kcHs 8 kfHs), (zaI kWk kcWk 6 kfWk), (zaI kBk kcBk 12 kfBk), (zo10ririliiriririr sc aTp (nI ts) aHl (nI nh) ed mi sn aHs (nI n) aWk (nI wz) aBk (nI bz) aFc), (zaI aTp cTp 100 fTp), (zaR aHs cHs 8 fHs), (zaI aWk cWk 6 fWk), (zaI aBk cBk 12 fBk)] sz)) 0 0 (va_A [(zo10ririliiriririr kp kTp (nI kts) kHl (nI knh) ked kmi ksn kHs (nI kn) kWk (nI kwz) kBk (nI kbz) kFc), (zaI kTp kcTp 100 kfTp), (zaR kHs kcHs 8 kfHs), (zaI kWk kcWk 6 kfWk), (zaI kBk kcBk 12 kfBk), (zo10ririliiriririr sc aTp (nI ts) aHl (nI nh) ed mi sn aHs (nI n) aWk (nI wz) aBk (nI bz) aFc), (zaI aTp cTp 100 fTp), (zaR aHs cHs 8 fHs), (zaI aWk cWk 6 fWk), (zaI aBk cBk 12 fBk)] sz) := by
  refine met_ofQ (cc := cX8_copyFrom) (maxL := 3) (ret := none) (by decide) rfl ?_
  intro p e s m args below meth c s₁ Q B hml hv hQ
  obtain ⟨rfl, hsz, hP, hK, hD0, hC, hH_⟩ := hv
  have hx := B.exec
  have hb := B.bytes
  have hr := B.returns
  have hts := atoms_spec (ws := wsX8_copyFrom) B.pre
  have hown : s.vm.findClass RX8 = some m.cls := findClass_of_methodNamed B.named
  have hlocks := B.notSynchronized
  subst hsz
  have hD := hD0.self (sz := s.heap.size)
  generalize hAe : va_A [(zo10ririliiriririr kp kTp (nI kts) kHl (nI knh) ked kmi ksn kHs (nI kn) kWk (nI kwz) kBk (nI kbz) kFc), (zaI kTp kcTp 100 kfTp), (zaR kHs kcHs 8 kfHs), (zaI kWk kcWk 6 kfWk), (zaI kBk kcBk 12 kfBk), (zo10ririliiriririr sc aTp (nI ts) aHl (nI nh) ed mi sn aHs (nI n) aWk (nI wz) aBk (nI bz) aFc), (zaI aTp cTp 100 fTp), (zaR aHs cHs 8 fHs), (zaI aWk cWk 6 fWk), (zaI aBk cBk 12 fBk)] s.heap.size = A at hD hQ hC hH_ ⊢
  have hA : ∀ q : Nat, s.heap.size ≤ q → A q := fun q h => by rw [← hAe]; exact Or.inr h
  have hS : va_S A s.heap s.heap [] := va_S.rf
  have hl := lv_entry [.ref kp, .ref sc] (n := 3) (Nat.le_of_ble_eq_true rfl)
  rw [lg_entry_eq]
  generalize (lg_sl [.ref kp, .ref sc] ++ List.replicate (3 - (lg_sl [.ref kp, .ref sc]).length) Slot.unset).toArray = ls at hl ⊢
  generalize hag : ([.ref kp, .ref sc] : List Value).toArray = args at hts hQ ⊢
  have hl : lv_has ls 3 [(0, .ref kp), (1, .ref sc)] := hl
  obtain ⟨H, hH⟩ : ∃ H : Heap, H = s.heap := ⟨_, rfl⟩
  rw [← hH] at hP
  rw [← hH]
  have hS : va_S A s.heap H [] := by rw [hH]; exact hS
  obtain ⟨locs, hlo⟩ : ∃ L : List Loc, L = [] := ⟨_, rfl⟩
  rw [← hlo] at hS
  rw [← hlo]
  clear hH hlo
  refine lv_aload_n hx hb dX8_copyFrom_0 rfl (lv_at hl 1 rfl) ?_
  refine va_get (D := (dC, dI)) (ci := 10) (v := .ref aTp) (C := RX8) (T := TX8) (N := 14) hx hb hts kc_copyFrom_0 hown hK hP 5 rfl rfl 0 (by decide) (hts (.fieldLink RX8 9 "MistHeaps$Scene" "tape" "[I") kc_copyFrom_1) (fun _ h9 => h9) rfl dX8_copyFrom_1 ?_
  refine lv_iconst (v := 0) hx hb dX8_copyFrom_4 (by decide) ?_
  refine lv_aload_n hx hb dX8_copyFrom_5 rfl (lv_at hl 0 rfl) ?_
  refine va_get (D := (dC, dI)) (ci := 10) (v := .ref kTp) (C := RX8) (T := TX8) (N := 14) hx hb hts kc_copyFrom_0 hown hK hP 0 rfl rfl 0 (by decide) (hts (.fieldLink RX8 9 "MistHeaps$Scene" "tape" "[I") kc_copyFrom_1) (fun _ h9 => h9) rfl dX8_copyFrom_6 ?_
  refine lv_iconst (v := 0) hx hb dX8_copyFrom_9 (by decide) ?_
  refine lv_bipush (v := 100) hx hb dX8_copyFrom_10 (by decide) ?_
  refine va_copyi hx hb (by rw [hml]; exact hl.1.symm) hown (hts (.methodLink RX8 37 arraycopyName) kc_copyFrom_2) (hts (.native arraycopyName) kc_copyFrom_3) (hts (.static arraycopyName) kc_copyFrom_4) (hts (.initialized "java/lang/System") kc_copyFrom_5) hK hP hD hS 6 1 4 0 rfl rfl rfl rfl rfl (by decide) (by decide) (by decide) (by decide) (by decide) (fun _ _ => rfl) (Nat.le_of_ble_eq_true rfl) (Nat.le_of_ble_eq_true rfl) dX8_copyFrom_12 (fun H locs hP hD hS => ?_)
  have hP : va_P (dC, dI) vwCl [(zo10ririliiriririr kp kTp (nI kts) kHl (nI knh) ked kmi ksn kHs (nI kn) kWk (nI kwz) kBk (nI kbz) kFc), (zaI kTp kcTp 100 (va_cpy fTp kfTp 0 0 100)), (zaR kHs kcHs 8 kfHs), (zaI kWk kcWk 6 kfWk), (zaI kBk kcBk 12 kfBk), (zo10ririliiriririr sc aTp (nI ts) aHl (nI nh) ed mi sn aHs (nI n) aWk (nI wz) aBk (nI bz) aFc), (zaI aTp cTp 100 fTp), (zaR aHs cHs 8 fHs), (zaI aWk cWk 6 fWk), (zaI aBk cBk 12 fBk)] H := hP
  have hD : va_D A [(zo10ririliiriririr kp kTp (nI kts) kHl (nI knh) ked kmi ksn kHs (nI kn) kWk (nI kwz) kBk (nI kbz) kFc), (zaI kTp kcTp 100 (va_cpy fTp kfTp 0 0 100)), (zaR kHs kcHs 8 kfHs), (zaI kWk kcWk 6 kfWk), (zaI kBk kcBk 12 kfBk), (zo10ririliiriririr sc aTp (nI ts) aHl (nI nh) ed mi sn aHs (nI n) aWk (nI wz) aBk (nI bz) aFc), (zaI aTp cTp 100 fTp), (zaR aHs cHs 8 fHs), (zaI aWk cWk 6 fWk), (zaI aBk cBk 12 fBk)] := hD
  refine lv_aload_n hx hb dX8_copyFrom_15 rfl (lv_at hl 0 rfl) ?_
  refine lv_aload_n hx hb dX8_copyFrom_16 rfl (lv_at hl 1 rfl) ?_
  refine va_get (D := (dC, dI)) (ci := 10) (v := .int (nI ts)) (C := RX8) (T := TX8) (N := 14) hx hb hts kc_copyFrom_0 hown hK hP 5 rfl rfl 1 (by decide) (hts (.fieldLink RX8 43 "MistHeaps$Scene" "tapeSize" "I") kc_copyFrom_6) (fun _ h9 => h9) rfl dX8_copyFrom_17 ?_
  refine va_put (D := (dC, dI)) (ci := 10) (v := .int (nI ts)) (ty := .int) (C := RX8) (T := TX8) (N := 14) hx hb hts kc_copyFrom_0 tyX8 tyX8_ok nmX8 hown hK hP hD hS 0 rfl rfl 1 (by decide) (hts (.fieldLink RX8 43 "MistHeaps$Scene" "tapeSize" "I") kc_copyFrom_6) (fun _ h9 => h9) rfl (by decide +kernel) rfl rfl (Nat.le_of_ble_eq_true rfl) dX8_copyFrom_20 (fun H locs hP hD hS => ?_)
  have hP : va_P (dC, dI) vwCl [(zo10ririliiriririr kp kTp (nI ts) kHl (nI knh) ked kmi ksn kHs (nI kn) kWk (nI kwz) kBk (nI kbz) kFc), (zaI kTp kcTp 100 (va_cpy fTp kfTp 0 0 100)), (zaR kHs kcHs 8 kfHs), (zaI kWk kcWk 6 kfWk), (zaI kBk kcBk 12 kfBk), (zo10ririliiriririr sc aTp (nI ts) aHl (nI nh) ed mi sn aHs (nI n) aWk (nI wz) aBk (nI bz) aFc), (zaI aTp cTp 100 fTp), (zaR aHs cHs 8 fHs), (zaI aWk cWk 6 fWk), (zaI aBk cBk 12 fBk)] H := hP
  have hD : va_D A [(zo10ririliiriririr kp kTp (nI ts) kHl (nI knh) ked kmi ksn kHs (nI kn) kWk (nI kwz) kBk (nI kbz) kFc), (zaI kTp kcTp 100 (va_cpy fTp kfTp 0 0 100)), (zaR kHs kcHs 8 kfHs), (zaI kWk kcWk 6 kfWk), (zaI kBk kcBk 12 kfBk), (zo10ririliiriririr sc aTp (nI ts) aHl (nI nh) ed mi sn aHs (nI n) aWk (nI wz) aBk (nI bz) aFc), (zaI aTp cTp 100 fTp), (zaR aHs cHs 8 fHs), (zaI aWk cWk 6 fWk), (zaI aBk cBk 12 fBk)] := hD
  refine lv_aload_n hx hb dX8_copyFrom_23 rfl (lv_at hl 0 rfl) ?_
  refine lv_aload_n hx hb dX8_copyFrom_24 rfl (lv_at hl 1 rfl) ?_
  refine va_get (D := (dC, dI)) (ci := 10) (v := .ref aHl) (C := RX8) (T := TX8) (N := 14) hx hb hts kc_copyFrom_0 hown hK hP 5 rfl rfl 2 (by decide) (hts (.fieldLink RX8 18 "MistHeaps$Scene" "hill" "LMistHeaps$Hill;") kc_copyFrom_7) (fun _ h9 => h9) rfl dX8_copyFrom_25 ?_
  refine va_put (D := (dC, dI)) (ci := 10) (v := .ref aHl) (ty := .object "MistHeaps$Hill") (C := RX8) (T := TX8) (N := 14) hx hb hts kc_copyFrom_0 tyX8 tyX8_ok nmX8 hown hK hP hD hS 0 rfl rfl 2 (by decide) (hts (.fieldLink RX8 18 "MistHeaps$Scene" "hill" "LMistHeaps$Hill;") kc_copyFrom_7) (fun _ h9 => h9) rfl (by decide +kernel) rfl rfl (Nat.le_of_ble_eq_true rfl) dX8_copyFrom_28 (fun H locs hP hD hS => ?_)
  have hP : va_P (dC, dI) vwCl [(zo10ririliiriririr kp kTp (nI ts) aHl (nI knh) ked kmi ksn kHs (nI kn) kWk (nI kwz) kBk (nI kbz) kFc), (zaI kTp kcTp 100 (va_cpy fTp kfTp 0 0 100)), (zaR kHs kcHs 8 kfHs), (zaI kWk kcWk 6 kfWk), (zaI kBk kcBk 12 kfBk), (zo10ririliiriririr sc aTp (nI ts) aHl (nI nh) ed mi sn aHs (nI n) aWk (nI wz) aBk (nI bz) aFc), (zaI aTp cTp 100 fTp), (zaR aHs cHs 8 fHs), (zaI aWk cWk 6 fWk), (zaI aBk cBk 12 fBk)] H := hP
  have hD : va_D A [(zo10ririliiriririr kp kTp (nI ts) aHl (nI knh) ked kmi ksn kHs (nI kn) kWk (nI kwz) kBk (nI kbz) kFc), (zaI kTp kcTp 100 (va_cpy fTp kfTp 0 0 100)), (zaR kHs kcHs 8 kfHs), (zaI kWk kcWk 6 kfWk), (zaI kBk kcBk 12 kfBk), (zo10ririliiriririr sc aTp (nI ts) aHl (nI nh) ed mi sn aHs (nI n) aWk (nI wz) aBk (nI bz) aFc), (zaI aTp cTp 100 fTp), (zaR aHs cHs 8 fHs), (zaI aWk cWk 6 fWk), (zaI aBk cBk 12 fBk)] := hD
  refine lv_aload_n hx hb dX8_copyFrom_31 rfl (lv_at hl 0 rfl) ?_
  refine lv_aload_n hx hb dX8_copyFrom_32 rfl (lv_at hl 1 rfl) ?_
  refine va_get (D := (dC, dI)) (ci := 10) (v := .int (nI nh)) (C := RX8) (T := TX8) (N := 14) hx hb hts kc_copyFrom_0 hown hK hP 5 rfl rfl 3 (by decide) (hts (.fieldLink RX8 47 "MistHeaps$Scene" "hills" "I") kc_copyFrom_8) (fun _ h9 => h9) rfl dX8_copyFrom_33 ?_
  refine va_put (D := (dC, dI)) (ci := 10) (v := .int (nI nh)) (ty := .int) (C := RX8) (T := TX8) (N := 14) hx hb hts kc_copyFrom_0 tyX8 tyX8_ok nmX8 hown hK hP hD hS 0 rfl rfl 3 (by decide) (hts (.fieldLink RX8 47 "MistHeaps$Scene" "hills" "I") kc_copyFrom_8) (fun _ h9 => h9) rfl (by decide +kernel) rfl rfl (Nat.le_of_ble_eq_true rfl) dX8_copyFrom_36 (fun H locs hP hD hS => ?_)
  have hP : va_P (dC, dI) vwCl [(zo10ririliiriririr kp kTp (nI ts) aHl (nI nh) ked kmi ksn kHs (nI kn) kWk (nI kwz) kBk (nI kbz) kFc), (zaI kTp kcTp 100 (va_cpy fTp kfTp 0 0 100)), (zaR kHs kcHs 8 kfHs), (zaI kWk kcWk 6 kfWk), (zaI kBk kcBk 12 kfBk), (zo10ririliiriririr sc aTp (nI ts) aHl (nI nh) ed mi sn aHs (nI n) aWk (nI wz) aBk (nI bz) aFc), (zaI aTp cTp 100 fTp), (zaR aHs cHs 8 fHs), (zaI aWk cWk 6 fWk), (zaI aBk cBk 12 fBk)] H := hP
  have hD : va_D A [(zo10ririliiriririr kp kTp (nI ts) aHl (nI nh) ked kmi ksn kHs (nI kn) kWk (nI kwz) kBk (nI kbz) kFc), (zaI kTp kcTp 100 (va_cpy fTp kfTp 0 0 100)), (zaR kHs kcHs 8 kfHs), (zaI kWk kcWk 6 kfWk), (zaI kBk kcBk 12 kfBk), (zo10ririliiriririr sc aTp (nI ts) aHl (nI nh) ed mi sn aHs (nI n) aWk (nI wz) aBk (nI bz) aFc), (zaI aTp cTp 100 fTp), (zaR aHs cHs 8 fHs), (zaI aWk cWk 6 fWk), (zaI aBk cBk 12 fBk)] := hD
  refine lv_aload_n hx hb dX8_copyFrom_39 rfl (lv_at hl 0 rfl) ?_
  refine lv_aload_n hx hb dX8_copyFrom_40 rfl (lv_at hl 1 rfl) ?_
  refine va_get (D := (dC, dI)) (ci := 10) (v := .long ed) (C := RX8) (T := TX8) (N := 14) hx hb hts kc_copyFrom_0 hown hK hP 5 rfl rfl 4 (by decide) (hts (.fieldLink RX8 50 "MistHeaps$Scene" "edges" "J") kc_copyFrom_9) (fun _ h9 => h9) rfl dX8_copyFrom_41 ?_
  refine va_put (D := (dC, dI)) (ci := 10) (v := .long ed) (ty := .long) (C := RX8) (T := TX8) (N := 14) hx hb hts kc_copyFrom_0 tyX8 tyX8_ok nmX8 hown hK hP hD hS 0 rfl rfl 4 (by decide) (hts (.fieldLink RX8 50 "MistHeaps$Scene" "edges" "J") kc_copyFrom_9) (fun _ h9 => h9) rfl (by decide +kernel) rfl rfl (Nat.le_of_ble_eq_true rfl) dX8_copyFrom_44 (fun H locs hP hD hS => ?_)
  have hP : va_P (dC, dI) vwCl [(zo10ririliiriririr kp kTp (nI ts) aHl (nI nh) ed kmi ksn kHs (nI kn) kWk (nI kwz) kBk (nI kbz) kFc), (zaI kTp kcTp 100 (va_cpy fTp kfTp 0 0 100)), (zaR kHs kcHs 8 kfHs), (zaI kWk kcWk 6 kfWk), (zaI kBk kcBk 12 kfBk), (zo10ririliiriririr sc aTp (nI ts) aHl (nI nh) ed mi sn aHs (nI n) aWk (nI wz) aBk (nI bz) aFc), (zaI aTp cTp 100 fTp), (zaR aHs cHs 8 fHs), (zaI aWk cWk 6 fWk), (zaI aBk cBk 12 fBk)] H := hP
  have hD : va_D A [(zo10ririliiriririr kp kTp (nI ts) aHl (nI nh) ed kmi ksn kHs (nI kn) kWk (nI kwz) kBk (nI kbz) kFc), (zaI kTp kcTp 100 (va_cpy fTp kfTp 0 0 100)), (zaR kHs kcHs 8 kfHs), (zaI kWk kcWk 6 kfWk), (zaI kBk kcBk 12 kfBk), (zo10ririliiriririr sc aTp (nI ts) aHl (nI nh) ed mi sn aHs (nI n) aWk (nI wz) aBk (nI bz) aFc), (zaI aTp cTp 100 fTp), (zaR aHs cHs 8 fHs), (zaI aWk cWk 6 fWk), (zaI aBk cBk 12 fBk)] := hD
  refine lv_aload_n hx hb dX8_copyFrom_47 rfl (lv_at hl 0 rfl) ?_
  refine lv_aload_n hx hb dX8_copyFrom_48 rfl (lv_at hl 1 rfl) ?_
  refine va_get (D := (dC, dI)) (ci := 10) (v := .int mi) (C := RX8) (T := TX8) (N := 14) hx hb hts kc_copyFrom_0 hown hK hP 5 rfl rfl 5 (by decide) (hts (.fieldLink RX8 54 "MistHeaps$Scene" "mist" "I") kc_copyFrom_10) (fun _ h9 => h9) rfl dX8_copyFrom_49 ?_
  refine va_put (D := (dC, dI)) (ci := 10) (v := .int mi) (ty := .int) (C := RX8) (T := TX8) (N := 14) hx hb hts kc_copyFrom_0 tyX8 tyX8_ok nmX8 hown hK hP hD hS 0 rfl rfl 5 (by decide) (hts (.fieldLink RX8 54 "MistHeaps$Scene" "mist" "I") kc_copyFrom_10) (fun _ h9 => h9) rfl (by decide +kernel) rfl rfl (Nat.le_of_ble_eq_true rfl) dX8_copyFrom_52 (fun H locs hP hD hS => ?_)
  have hP : va_P (dC, dI) vwCl [(zo10ririliiriririr kp kTp (nI ts) aHl (nI nh) ed mi ksn kHs (nI kn) kWk (nI kwz) kBk (nI kbz) kFc), (zaI kTp kcTp 100 (va_cpy fTp kfTp 0 0 100)), (zaR kHs kcHs 8 kfHs), (zaI kWk kcWk 6 kfWk), (zaI kBk kcBk 12 kfBk), (zo10ririliiriririr sc aTp (nI ts) aHl (nI nh) ed mi sn aHs (nI n) aWk (nI wz) aBk (nI bz) aFc), (zaI aTp cTp 100 fTp), (zaR aHs cHs 8 fHs), (zaI aWk cWk 6 fWk), (zaI aBk cBk 12 fBk)] H := hP
  have hD : va_D A [(zo10ririliiriririr kp kTp (nI ts) aHl (nI nh) ed mi ksn kHs (nI kn) kWk (nI kwz) kBk (nI kbz) kFc), (zaI kTp kcTp 100 (va_cpy fTp kfTp 0 0 100)), (zaR kHs kcHs 8 kfHs), (zaI kWk kcWk 6 kfWk), (zaI kBk kcBk 12 kfBk), (zo10ririliiriririr sc aTp (nI ts) aHl (nI nh) ed mi sn aHs (nI n) aWk (nI wz) aBk (nI bz) aFc), (zaI aTp cTp 100 fTp), (zaR aHs cHs 8 fHs), (zaI aWk cWk 6 fWk), (zaI aBk cBk 12 fBk)] := hD
  refine lv_aload_n hx hb dX8_copyFrom_55 rfl (lv_at hl 0 rfl) ?_
  refine lv_aload_n hx hb dX8_copyFrom_56 rfl (lv_at hl 1 rfl) ?_
  refine va_get (D := (dC, dI)) (ci := 10) (v := .int sn) (C := RX8) (T := TX8) (N := 14) hx hb hts kc_copyFrom_0 hown hK hP 5 rfl rfl 6 (by decide) (hts (.fieldLink RX8 57 "MistHeaps$Scene" "snow" "I") kc_copyFrom_11) (fun _ h9 => h9) rfl dX8_copyFrom_57 ?_
  refine va_put (D := (dC, dI)) (ci := 10) (v := .int sn) (ty := .int) (C := RX8) (T := TX8) (N := 14) hx hb hts kc_copyFrom_0 tyX8 tyX8_ok nmX8 hown hK hP hD hS 0 rfl rfl 6 (by decide) (hts (.fieldLink RX8 57 "MistHeaps$Scene" "snow" "I") kc_copyFrom_11) (fun _ h9 => h9) rfl (by decide +kernel) rfl rfl (Nat.le_of_ble_eq_true rfl) dX8_copyFrom_60 (fun H locs hP hD hS => ?_)
  have hP : va_P (dC, dI) vwCl [(zo10ririliiriririr kp kTp (nI ts) aHl (nI nh) ed mi sn kHs (nI kn) kWk (nI kwz) kBk (nI kbz) kFc), (zaI kTp kcTp 100 (va_cpy fTp kfTp 0 0 100)), (zaR kHs kcHs 8 kfHs), (zaI kWk kcWk 6 kfWk), (zaI kBk kcBk 12 kfBk), (zo10ririliiriririr sc aTp (nI ts) aHl (nI nh) ed mi sn aHs (nI n) aWk (nI wz) aBk (nI bz) aFc), (zaI aTp cTp 100 fTp), (zaR aHs cHs 8 fHs), (zaI aWk cWk 6 fWk), (zaI aBk cBk 12 fBk)] H := hP
  have hD : va_D A [(zo10ririliiriririr kp kTp (nI ts) aHl (nI nh) ed mi sn kHs (nI kn) kWk (nI kwz) kBk (nI kbz) kFc), (zaI kTp kcTp 100 (va_cpy fTp kfTp 0 0 100)), (zaR kHs kcHs 8 kfHs), (zaI kWk kcWk 6 kfWk), (zaI kBk kcBk 12 kfBk), (zo10ririliiriririr sc aTp (nI ts) aHl (nI nh) ed mi sn aHs (nI n) aWk (nI wz) aBk (nI bz) aFc), (zaI aTp cTp 100 fTp), (zaR aHs cHs 8 fHs), (zaI aWk cWk 6 fWk), (zaI aBk cBk 12 fBk)] := hD
  refine lv_iconst (v := 0) hx hb dX8_copyFrom_63 (by decide) ?_
  refine lv_istore_n (lv' := [(2, .int 0), (0, .ref kp), (1, .ref sc)]) hx hb dX8_copyFrom_64 rfl hl (by decide) rfl (fun ls hl => ?_)
  have L65 : ∀ (nF : Nat) (i : Nat) (f2 : Nat → Option Nat), 8 - i < nF → (i ≤ 8) → (∀ k0, k0 < i → f2 k0 = fHs k0) → ∀ (H : Heap) (locs : List Loc), va_K (dC, dI) vwCl [(kcTp, .int), (kcHs, .object "MistHeaps$Heap"), (kcWk, .int), (kcBk, .int), (cTp, .int), (cHs, .object "MistHeaps$Heap"), (cWk, .int), (cBk, .int)] s → va_P (dC, dI) vwCl [(zo10ririliiriririr kp kTp (nI ts) aHl (nI nh) ed mi sn kHs (nI kn) kWk (nI kwz) kBk (nI kbz) kFc), (zaI kTp kcTp 100 (va_cpy fTp kfTp 0 0 100)), (zaR kHs kcHs 8 f2), (zaI kWk kcWk 6 kfWk), (zaI kBk kcBk 12 kfBk), (zo10ririliiriririr sc aTp (nI ts) aHl (nI nh) ed mi sn aHs (nI n) aWk (nI wz) aBk (nI bz) aFc), (zaI aTp cTp 100 fTp), (zaR aHs cHs 8 fHs), (zaI aWk cWk 6 fWk), (zaI aBk cBk 12 fBk)] H → va_D A [(zo10ririliiriririr kp kTp (nI ts) aHl (nI nh) ed mi sn kHs (nI kn) kWk (nI kwz) kBk (nI kbz) kFc), (zaI kTp kcTp 100 (va_cpy fTp kfTp 0 0 100)), (zaR kHs kcHs 8 f2), (zaI kWk kcWk 6 kfWk), (zaI kBk kcBk 12 kfBk), (zo10ririliiriririr sc aTp (nI ts) aHl (nI nh) ed mi sn aHs (nI n) aWk (nI wz) aBk (nI bz) aFc), (zaI aTp cTp 100 fTp), (zaR aHs cHs 8 fHs), (zaI aWk cWk 6 fWk), (zaI aBk cBk 12 fBk)] → va_S A s.heap H locs → ∀ (ls : Array Slot), lv_has ls 3 [(0, .ref kp), (1, .ref sc), (2, .int (nI i))] → W p l e ({ frames := 1, cells := 0, slots := 0, locals := 60 } : Room) s m args below meth c H locs 0 0 Q (F0 m 65 ls []) := by
    intro nF
    induction nF with
    | zero => intro i f2 hm; exact absurd hm (Nat.not_lt_zero _)
    | succ nF ih65 =>
      intro i f2 hm hi hf2 H locs hK hP hD hS ls hl
      refine lv_iload_n hx hb dX8_copyFrom_65 rfl (lv_at hl 2 rfl) ?_
      refine lv_bipush (v := 8) hx hb dX8_copyFrom_66 (by decide) ?_
      refine lv_icmp_ge (tgt := 89) hx hb dX8_copyFrom_68 (by decide) (fun c_1 => ?_) (fun c_1 => ?_)
      · skip
        have c_1 : 8 ≤ i := (nI_leI (a := 8) (b := i) (by omega) (by omega)).mp c_1
        refine lv_aload_n hx hb dX8_copyFrom_89 rfl (lv_at hl 0 rfl) ?_
        refine lv_aload_n hx hb dX8_copyFrom_90 rfl (lv_at hl 1 rfl) ?_
        refine va_get (D := (dC, dI)) (ci := 10) (v := .int (nI n)) (C := RX8) (T := TX8) (N := 14) hx hb hts kc_copyFrom_0 hown hK hP 5 rfl rfl 8 (by decide) (hts (.fieldLink RX8 60 "MistHeaps$Scene" "heapCount" "I") kc_copyFrom_12) (fun _ h9 => h9) rfl dX8_copyFrom_91 ?_
        refine va_put (D := (dC, dI)) (ci := 10) (v := .int (nI n)) (ty := .int) (C := RX8) (T := TX8) (N := 14) hx hb hts kc_copyFrom_0 tyX8 tyX8_ok nmX8 hown hK hP hD hS 0 rfl rfl 8 (by decide) (hts (.fieldLink RX8 60 "MistHeaps$Scene" "heapCount" "I") kc_copyFrom_12) (fun _ h9 => h9) rfl (by decide +kernel) rfl rfl (Nat.le_of_ble_eq_true rfl) dX8_copyFrom_94 (fun H locs hP hD hS => ?_)
        have hP : va_P (dC, dI) vwCl [(zo10ririliiriririr kp kTp (nI ts) aHl (nI nh) ed mi sn kHs (nI n) kWk (nI kwz) kBk (nI kbz) kFc), (zaI kTp kcTp 100 (va_cpy fTp kfTp 0 0 100)), (zaR kHs kcHs 8 f2), (zaI kWk kcWk 6 kfWk), (zaI kBk kcBk 12 kfBk), (zo10ririliiriririr sc aTp (nI ts) aHl (nI nh) ed mi sn aHs (nI n) aWk (nI wz) aBk (nI bz) aFc), (zaI aTp cTp 100 fTp), (zaR aHs cHs 8 fHs), (zaI aWk cWk 6 fWk), (zaI aBk cBk 12 fBk)] H := hP
        have hD : va_D A [(zo10ririliiriririr kp kTp (nI ts) aHl (nI nh) ed mi sn kHs (nI n) kWk (nI kwz) kBk (nI kbz) kFc), (zaI kTp kcTp 100 (va_cpy fTp kfTp 0 0 100)), (zaR kHs kcHs 8 f2), (zaI kWk kcWk 6 kfWk), (zaI kBk kcBk 12 kfBk), (zo10ririliiriririr sc aTp (nI ts) aHl (nI nh) ed mi sn aHs (nI n) aWk (nI wz) aBk (nI bz) aFc), (zaI aTp cTp 100 fTp), (zaR aHs cHs 8 fHs), (zaI aWk cWk 6 fWk), (zaI aBk cBk 12 fBk)] := hD
        refine lv_aload_n hx hb dX8_copyFrom_97 rfl (lv_at hl 1 rfl) ?_
        refine va_get (D := (dC, dI)) (ci := 10) (v := .ref aWk) (C := RX8) (T := TX8) (N := 14) hx hb hts kc_copyFrom_0 hown hK hP 5 rfl rfl 9 (by decide) (hts (.fieldLink RX8 28 "MistHeaps$Scene" "walk" "[I") kc_copyFrom_13) (fun _ h9 => h9) rfl dX8_copyFrom_98 ?_
        refine lv_iconst (v := 0) hx hb dX8_copyFrom_101 (by decide) ?_
        refine lv_aload_n hx hb dX8_copyFrom_102 rfl (lv_at hl 0 rfl) ?_
        refine va_get (D := (dC, dI)) (ci := 10) (v := .ref kWk) (C := RX8) (T := TX8) (N := 14) hx hb hts kc_copyFrom_0 hown hK hP 0 rfl rfl 9 (by decide) (hts (.fieldLink RX8 28 "MistHeaps$Scene" "walk" "[I") kc_copyFrom_13) (fun _ h9 => h9) rfl dX8_copyFrom_103 ?_
        refine lv_iconst (v := 0) hx hb dX8_copyFrom_106 (by decide) ?_
        refine lv_bipush (v := 6) hx hb dX8_copyFrom_107 (by decide) ?_
        refine va_copyi hx hb (by rw [hml]; exact hl.1.symm) hown (hts (.methodLink RX8 37 arraycopyName) kc_copyFrom_2) (hts (.native arraycopyName) kc_copyFrom_3) (hts (.static arraycopyName) kc_copyFrom_4) (hts (.initialized "java/lang/System") kc_copyFrom_5) hK hP hD hS 8 3 6 2 rfl rfl rfl rfl rfl (by decide) (by decide) (by decide) (by decide) (by decide) (fun _ _ => rfl) (Nat.le_of_ble_eq_true rfl) (Nat.le_of_ble_eq_true rfl) dX8_copyFrom_109 (fun H locs hP hD hS => ?_)
        have hP : va_P (dC, dI) vwCl [(zo10ririliiriririr kp kTp (nI ts) aHl (nI nh) ed mi sn kHs (nI n) kWk (nI kwz) kBk (nI kbz) kFc), (zaI kTp kcTp 100 (va_cpy fTp kfTp 0 0 100)), (zaR kHs kcHs 8 f2), (zaI kWk kcWk 6 (va_cpy fWk kfWk 0 0 6)), (zaI kBk kcBk 12 kfBk), (zo10ririliiriririr sc aTp (nI ts) aHl (nI nh) ed mi sn aHs (nI n) aWk (nI wz) aBk (nI bz) aFc), (zaI aTp cTp 100 fTp), (zaR aHs cHs 8 fHs), (zaI aWk cWk 6 fWk), (zaI aBk cBk 12 fBk)] H := hP
        have hD : va_D A [(zo10ririliiriririr kp kTp (nI ts) aHl (nI nh) ed mi sn kHs (nI n) kWk (nI kwz) kBk (nI kbz) kFc), (zaI kTp kcTp 100 (va_cpy fTp kfTp 0 0 100)), (zaR kHs kcHs 8 f2), (zaI kWk kcWk 6 (va_cpy fWk kfWk 0 0 6)), (zaI kBk kcBk 12 kfBk), (zo10ririliiriririr sc aTp (nI ts) aHl (nI nh) ed mi sn aHs (nI n) aWk (nI wz) aBk (nI bz) aFc), (zaI aTp cTp 100 fTp), (zaR aHs cHs 8 fHs), (zaI aWk cWk 6 fWk), (zaI aBk cBk 12 fBk)] := hD
        refine lv_aload_n hx hb dX8_copyFrom_112 rfl (lv_at hl 0 rfl) ?_
        refine lv_aload_n hx hb dX8_copyFrom_113 rfl (lv_at hl 1 rfl) ?_
        refine va_get (D := (dC, dI)) (ci := 10) (v := .int (nI wz)) (C := RX8) (T := TX8) (N := 14) hx hb hts kc_copyFrom_0 hown hK hP 5 rfl rfl 10 (by decide) (hts (.fieldLink RX8 63 "MistHeaps$Scene" "walkSize" "I") kc_copyFrom_14) (fun _ h9 => h9) rfl dX8_copyFrom_114 ?_
        refine va_put (D := (dC, dI)) (ci := 10) (v := .int (nI wz)) (ty := .int) (C := RX8) (T := TX8) (N := 14) hx hb hts kc_copyFrom_0 tyX8 tyX8_ok nmX8 hown hK hP hD hS 0 rfl rfl 10 (by decide) (hts (.fieldLink RX8 63 "MistHeaps$Scene" "walkSize" "I") kc_copyFrom_14) (fun _ h9 => h9) rfl (by decide +kernel) rfl rfl (Nat.le_of_ble_eq_true rfl) dX8_copyFrom_117 (fun H locs hP hD hS => ?_)
        have hP : va_P (dC, dI) vwCl [(zo10ririliiriririr kp kTp (nI ts) aHl (nI nh) ed mi sn kHs (nI n) kWk (nI wz) kBk (nI kbz) kFc), (zaI kTp kcTp 100 (va_cpy fTp kfTp 0 0 100)), (zaR kHs kcHs 8 f2), (zaI kWk kcWk 6 (va_cpy fWk kfWk 0 0 6)), (zaI kBk kcBk 12 kfBk), (zo10ririliiriririr sc aTp (nI ts) aHl (nI nh) ed mi sn aHs (nI n) aWk (nI wz) aBk (nI bz) aFc), (zaI aTp cTp 100 fTp), (zaR aHs cHs 8 fHs), (zaI aWk cWk 6 fWk), (zaI aBk cBk 12 fBk)] H := hP
        have hD : va_D A [(zo10ririliiriririr kp kTp (nI ts) aHl (nI nh) ed mi sn kHs (nI n) kWk (nI wz) kBk (nI kbz) kFc), (zaI kTp kcTp 100 (va_cpy fTp kfTp 0 0 100)), (zaR kHs kcHs 8 f2), (zaI kWk kcWk 6 (va_cpy fWk kfWk 0 0 6)), (zaI kBk kcBk 12 kfBk), (zo10ririliiriririr sc aTp (nI ts) aHl (nI nh) ed mi sn aHs (nI n) aWk (nI wz) aBk (nI bz) aFc), (zaI aTp cTp 100 fTp), (zaR aHs cHs 8 fHs), (zaI aWk cWk 6 fWk), (zaI aBk cBk 12 fBk)] := hD
        refine lv_aload_n hx hb dX8_copyFrom_120 rfl (lv_at hl 1 rfl) ?_
        refine va_get (D := (dC, dI)) (ci := 10) (v := .ref aBk) (C := RX8) (T := TX8) (N := 14) hx hb hts kc_copyFrom_0 hown hK hP 5 rfl rfl 11 (by decide) (hts (.fieldLink RX8 31 "MistHeaps$Scene" "book" "[I") kc_copyFrom_15) (fun _ h9 => h9) rfl dX8_copyFrom_121 ?_
        refine lv_iconst (v := 0) hx hb dX8_copyFrom_124 (by decide) ?_
        refine lv_aload_n hx hb dX8_copyFrom_125 rfl (lv_at hl 0 rfl) ?_
        refine va_get (D := (dC, dI)) (ci := 10) (v := .ref kBk) (C := RX8) (T := TX8) (N := 14) hx hb hts kc_copyFrom_0 hown hK hP 0 rfl rfl 11 (by decide) (hts (.fieldLink RX8 31 "MistHeaps$Scene" "book" "[I") kc_copyFrom_15) (fun _ h9 => h9) rfl dX8_copyFrom_126 ?_
        refine lv_iconst (v := 0) hx hb dX8_copyFrom_129 (by decide) ?_
        refine lv_bipush (v := 12) hx hb dX8_copyFrom_130 (by decide) ?_
        refine va_copyi hx hb (by rw [hml]; exact hl.1.symm) hown (hts (.methodLink RX8 37 arraycopyName) kc_copyFrom_2) (hts (.native arraycopyName) kc_copyFrom_3) (hts (.static arraycopyName) kc_copyFrom_4) (hts (.initialized "java/lang/System") kc_copyFrom_5) hK hP hD hS 9 4 7 3 rfl rfl rfl rfl rfl (by decide) (by decide) (by decide) (by decide) (by decide) (fun _ _ => rfl) (Nat.le_of_ble_eq_true rfl) (Nat.le_of_ble_eq_true rfl) dX8_copyFrom_132 (fun H locs hP hD hS => ?_)
        have hP : va_P (dC, dI) vwCl [(zo10ririliiriririr kp kTp (nI ts) aHl (nI nh) ed mi sn kHs (nI n) kWk (nI wz) kBk (nI kbz) kFc), (zaI kTp kcTp 100 (va_cpy fTp kfTp 0 0 100)), (zaR kHs kcHs 8 f2), (zaI kWk kcWk 6 (va_cpy fWk kfWk 0 0 6)), (zaI kBk kcBk 12 (va_cpy fBk kfBk 0 0 12)), (zo10ririliiriririr sc aTp (nI ts) aHl (nI nh) ed mi sn aHs (nI n) aWk (nI wz) aBk (nI bz) aFc), (zaI aTp cTp 100 fTp), (zaR aHs cHs 8 fHs), (zaI aWk cWk 6 fWk), (zaI aBk cBk 12 fBk)] H := hP
        have hD : va_D A [(zo10ririliiriririr kp kTp (nI ts) aHl (nI nh) ed mi sn kHs (nI n) kWk (nI wz) kBk (nI kbz) kFc), (zaI kTp kcTp 100 (va_cpy fTp kfTp 0 0 100)), (zaR kHs kcHs 8 f2), (zaI kWk kcWk 6 (va_cpy fWk kfWk 0 0 6)), (zaI kBk kcBk 12 (va_cpy fBk kfBk 0 0 12)), (zo10ririliiriririr sc aTp (nI ts) aHl (nI nh) ed mi sn aHs (nI n) aWk (nI wz) aBk (nI bz) aFc), (zaI aTp cTp 100 fTp), (zaR aHs cHs 8 fHs), (zaI aWk cWk 6 fWk), (zaI aBk cBk 12 fBk)] := hD
        refine lv_aload_n hx hb dX8_copyFrom_135 rfl (lv_at hl 0 rfl) ?_
        refine lv_aload_n hx hb dX8_copyFrom_136 rfl (lv_at hl 1 rfl) ?_
        refine va_get (D := (dC, dI)) (ci := 10) (v := .int (nI bz)) (C := RX8) (T := TX8) (N := 14) hx hb hts kc_copyFrom_0 hown hK hP 5 rfl rfl 12 (by decide) (hts (.fieldLink RX8 66 "MistHeaps$Scene" "bookSize" "I") kc_copyFrom_16) (fun _ h9 => h9) rfl dX8_copyFrom_137 ?_
        refine va_put (D := (dC, dI)) (ci := 10) (v := .int (nI bz)) (ty := .int) (C := RX8) (T := TX8) (N := 14) hx hb hts kc_copyFrom_0 tyX8 tyX8_ok nmX8 hown hK hP hD hS 0 rfl rfl 12 (by decide) (hts (.fieldLink RX8 66 "MistHeaps$Scene" "bookSize" "I") kc_copyFrom_16) (fun _ h9 => h9) rfl (by decide +kernel) rfl rfl (Nat.le_of_ble_eq_true rfl) dX8_copyFrom_140 (fun H locs hP hD hS => ?_)
        have hP : va_P (dC, dI) vwCl [(zo10ririliiriririr kp kTp (nI ts) aHl (nI nh) ed mi sn kHs (nI n) kWk (nI wz) kBk (nI bz) kFc), (zaI kTp kcTp 100 (va_cpy fTp kfTp 0 0 100)), (zaR kHs kcHs 8 f2), (zaI kWk kcWk 6 (va_cpy fWk kfWk 0 0 6)), (zaI kBk kcBk 12 (va_cpy fBk kfBk 0 0 12)), (zo10ririliiriririr sc aTp (nI ts) aHl (nI nh) ed mi sn aHs (nI n) aWk (nI wz) aBk (nI bz) aFc), (zaI aTp cTp 100 fTp), (zaR aHs cHs 8 fHs), (zaI aWk cWk 6 fWk), (zaI aBk cBk 12 fBk)] H := hP
        have hD : va_D A [(zo10ririliiriririr kp kTp (nI ts) aHl (nI nh) ed mi sn kHs (nI n) kWk (nI wz) kBk (nI bz) kFc), (zaI kTp kcTp 100 (va_cpy fTp kfTp 0 0 100)), (zaR kHs kcHs 8 f2), (zaI kWk kcWk 6 (va_cpy fWk kfWk 0 0 6)), (zaI kBk kcBk 12 (va_cpy fBk kfBk 0 0 12)), (zo10ririliiriririr sc aTp (nI ts) aHl (nI nh) ed mi sn aHs (nI n) aWk (nI wz) aBk (nI bz) aFc), (zaI aTp cTp 100 fTp), (zaR aHs cHs 8 fHs), (zaI aWk cWk 6 fWk), (zaI aBk cBk 12 fBk)] := hD
        rw [hQ]
        have hP9 := hP.sub (ws' := [(zo10ririliiriririr kp kTp (nI ts) aHl (nI nh) ed mi sn kHs (nI n) kWk (nI wz) kBk (nI bz) kFc), (zaI kTp kcTp 100 (va_cpy fTp kfTp 0 0 100)), (zaR kHs kcHs 8 f2), (zaI kWk kcWk 6 (va_cpy fWk kfWk 0 0 6)), (zaI kBk kcBk 12 (va_cpy fBk kfBk 0 0 12)), (zo10ririliiriririr sc aTp (nI ts) aHl (nI nh) ed mi sn aHs (nI n) aWk (nI wz) aBk (nI bz) aFc), (zaI aTp cTp 100 fTp), (zaR aHs cHs 8 fHs), (zaI aWk cWk 6 fWk), (zaI aBk cBk 12 fBk)]) [0, 1, 2, 3, 4, 5, 6, 7, 8, 9] rfl
        have hD9 := hD.sub (ws' := [(zo10ririliiriririr kp kTp (nI ts) aHl (nI nh) ed mi sn kHs (nI n) kWk (nI wz) kBk (nI bz) kFc), (zaI kTp kcTp 100 (va_cpy fTp kfTp 0 0 100)), (zaR kHs kcHs 8 f2), (zaI kWk kcWk 6 (va_cpy fWk kfWk 0 0 6)), (zaI kBk kcBk 12 (va_cpy fBk kfBk 0 0 12)), (zo10ririliiriririr sc aTp (nI ts) aHl (nI nh) ed mi sn aHs (nI n) aWk (nI wz) aBk (nI bz) aFc), (zaI aTp cTp 100 fTp), (zaR aHs cHs 8 fHs), (zaI aWk cWk 6 fWk), (zaI aBk cBk 12 fBk)]) [0, 1, 2, 3, 4, 5, 6, 7, 8, 9] (by decide) rfl
        have hK9 := hK.sub (tys' := [(kcTp, .int), (kcHs, .object "MistHeaps$Heap"), (kcWk, .int), (kcBk, .int), (cTp, .int), (cHs, .object "MistHeaps$Heap"), (cWk, .int), (cBk, .int)]) [0, 1, 2, 3, 4, 5, 6, 7] rfl
        exact W.vret hx hb hr (fun tQ htQ hWQ => ⟨⟨(ts, aHl, nh, ed, mi, sn, n, wz, bz, (va_cpy fTp kfTp 0 0 100), f2, (va_cpy fWk kfWk 0 0 6), (va_cpy fBk kfBk 0 0 12)), rfl, ⟨rfl, rfl, rfl, rfl, rfl, rfl, rfl, rfl, rfl, cpy0, fun k0 h0 => hf2 k0 (by omega), cpy0, cpy0⟩, by rw [htQ]; exact hP9, va_K.moved hWQ.alike hK9, hD9⟩, hS.F htQ⟩) hS.2.2 dX8_copyFrom_143
      · skip
        have c_1 : ¬ 8 ≤ i := fun q => c_1 ((nI_leI (a := 8) (b := i) (by omega) (by omega)).mpr q)
        rcases Nat.lt_or_ge i n with hin | hin
        · skip
          refine lv_aload_n hx hb dX8_copyFrom_71 rfl (lv_at hl 0 rfl) ?_
          refine va_get (D := (dC, dI)) (ci := 10) (v := .ref kHs) (C := RX8) (T := TX8) (N := 14) hx hb hts kc_copyFrom_0 hown hK hP 0 rfl rfl 7 (by decide) (hts (.fieldLink RX8 24 "MistHeaps$Scene" "heaps" "[LMistHeaps$Heap;") kc_copyFrom_17) (fun _ h9 => h9) rfl dX8_copyFrom_72 ?_
          refine lv_iload_n hx hb dX8_copyFrom_75 rfl (lv_at hl 2 rfl) ?_
          refine lv_aload_n hx hb dX8_copyFrom_76 rfl (lv_at hl 1 rfl) ?_
          refine va_get (D := (dC, dI)) (ci := 10) (v := .ref aHs) (C := RX8) (T := TX8) (N := 14) hx hb hts kc_copyFrom_0 hown hK hP 5 rfl rfl 7 (by decide) (hts (.fieldLink RX8 24 "MistHeaps$Scene" "heaps" "[LMistHeaps$Heap;") kc_copyFrom_17) (fun _ h9 => h9) rfl dX8_copyFrom_77 ?_
          refine lv_iload_n hx hb dX8_copyFrom_80 rfl (lv_at hl 2 rfl) ?_
          refine va_aldq hx hb hK hP 7 5 rfl rfl (vp_in_nI (n := i) (N := 8) (by omega) (by omega)) dX8_copyFrom_81 ?_
          refine qq_as (v := .ref (ya i)) (by rw [nI_clamp (by omega), zhs i hin]; rfl) ?_
          refine va_astH (v := (ya i)) hx hb hK hP hD hS 2 1 rfl rfl hC (hH_ i (by omega)).1 (hH_ i (by omega)).2 (vp_in_nI (n := i) (N := 8) (by omega) (by omega)) dX8_copyFrom_82 (fun H locs hP hD hS => ?_)
          rw [nI_clamp (n := i) (by omega)] at hP hD
          have hP : va_P (dC, dI) vwCl [(zo10ririliiriririr kp kTp (nI ts) aHl (nI nh) ed mi sn kHs (nI kn) kWk (nI kwz) kBk (nI kbz) kFc), (zaI kTp kcTp 100 (va_cpy fTp kfTp 0 0 100)), (zaR kHs kcHs 8 (va_up f2 i (some (ya i)))), (zaI kWk kcWk 6 kfWk), (zaI kBk kcBk 12 kfBk), (zo10ririliiriririr sc aTp (nI ts) aHl (nI nh) ed mi sn aHs (nI n) aWk (nI wz) aBk (nI bz) aFc), (zaI aTp cTp 100 fTp), (zaR aHs cHs 8 fHs), (zaI aWk cWk 6 fWk), (zaI aBk cBk 12 fBk)] H := hP
          have hD : va_D A [(zo10ririliiriririr kp kTp (nI ts) aHl (nI nh) ed mi sn kHs (nI kn) kWk (nI kwz) kBk (nI kbz) kFc), (zaI kTp kcTp 100 (va_cpy fTp kfTp 0 0 100)), (zaR kHs kcHs 8 (va_up f2 i (some (ya i)))), (zaI kWk kcWk 6 kfWk), (zaI kBk kcBk 12 kfBk), (zo10ririliiriririr sc aTp (nI ts) aHl (nI nh) ed mi sn aHs (nI n) aWk (nI wz) aBk (nI bz) aFc), (zaI aTp cTp 100 fTp), (zaR aHs cHs 8 fHs), (zaI aWk cWk 6 fWk), (zaI aBk cBk 12 fBk)] := hD
          refine lv_iinc (v := nI (i + 1)) (lv' := [(2, .int (nI (i + 1))), (0, .ref kp), (1, .ref sc)]) hx hb dX8_copyFrom_83 hl (k := 2) rfl (nI_add i 1) (by decide) rfl (fun ls hl => ?_)
          refine lv_goto (tgt := 65) hx hb dX8_copyFrom_86 (by decide) ?_
          exact ih65 (i + 1) _ (by omega) (by omega) (up_cp hf2 (zhs i hin)) _ _ (hK.sub [0, 1, 2, 3, 4, 5, 6, 7] rfl) (hP.sub [0, 1, 2, 3, 4, 5, 6, 7, 8, 9] rfl) (hD.sub [0, 1, 2, 3, 4, 5, 6, 7, 8, 9] (by decide) rfl) hS ls (lv_sub hl [1, 2, 0] rfl)
        · skip
          refine lv_aload_n hx hb dX8_copyFrom_71 rfl (lv_at hl 0 rfl) ?_
          refine va_get (D := (dC, dI)) (ci := 10) (v := .ref kHs) (C := RX8) (T := TX8) (N := 14) hx hb hts kc_copyFrom_0 hown hK hP 0 rfl rfl 7 (by decide) (hts (.fieldLink RX8 24 "MistHeaps$Scene" "heaps" "[LMistHeaps$Heap;") kc_copyFrom_17) (fun _ h9 => h9) rfl dX8_copyFrom_72 ?_
          refine lv_iload_n hx hb dX8_copyFrom_75 rfl (lv_at hl 2 rfl) ?_
          refine lv_aload_n hx hb dX8_copyFrom_76 rfl (lv_at hl 1 rfl) ?_
          refine va_get (D := (dC, dI)) (ci := 10) (v := .ref aHs) (C := RX8) (T := TX8) (N := 14) hx hb hts kc_copyFrom_0 hown hK hP 5 rfl rfl 7 (by decide) (hts (.fieldLink RX8 24 "MistHeaps$Scene" "heaps" "[LMistHeaps$Heap;") kc_copyFrom_17) (fun _ h9 => h9) rfl dX8_copyFrom_77 ?_
          refine lv_iload_n hx hb dX8_copyFrom_80 rfl (lv_at hl 2 rfl) ?_
          refine va_aldq hx hb hK hP 7 5 rfl rfl (vp_in_nI (n := i) (N := 8) (by omega) (by omega)) dX8_copyFrom_81 ?_
          refine qq_as (v := .null) (by rw [nI_clamp (by omega), zhn i hin (by omega)]; rfl) ?_
          refine va_astqN hx hb hK hP hD hS 2 1 rfl rfl (vp_in_nI (n := i) (N := 8) (by omega) (by omega)) dX8_copyFrom_82 (fun H locs hP hD hS => ?_)
          rw [nI_clamp (n := i) (by omega)] at hP hD
          have hP : va_P (dC, dI) vwCl [(zo10ririliiriririr kp kTp (nI ts) aHl (nI nh) ed mi sn kHs (nI kn) kWk (nI kwz) kBk (nI kbz) kFc), (zaI kTp kcTp 100 (va_cpy fTp kfTp 0 0 100)), (zaR kHs kcHs 8 (va_up f2 i none)), (zaI kWk kcWk 6 kfWk), (zaI kBk kcBk 12 kfBk), (zo10ririliiriririr sc aTp (nI ts) aHl (nI nh) ed mi sn aHs (nI n) aWk (nI wz) aBk (nI bz) aFc), (zaI aTp cTp 100 fTp), (zaR aHs cHs 8 fHs), (zaI aWk cWk 6 fWk), (zaI aBk cBk 12 fBk)] H := hP
          have hD : va_D A [(zo10ririliiriririr kp kTp (nI ts) aHl (nI nh) ed mi sn kHs (nI kn) kWk (nI kwz) kBk (nI kbz) kFc), (zaI kTp kcTp 100 (va_cpy fTp kfTp 0 0 100)), (zaR kHs kcHs 8 (va_up f2 i none)), (zaI kWk kcWk 6 kfWk), (zaI kBk kcBk 12 kfBk), (zo10ririliiriririr sc aTp (nI ts) aHl (nI nh) ed mi sn aHs (nI n) aWk (nI wz) aBk (nI bz) aFc), (zaI aTp cTp 100 fTp), (zaR aHs cHs 8 fHs), (zaI aWk cWk 6 fWk), (zaI aBk cBk 12 fBk)] := hD
          refine lv_iinc (v := nI (i + 1)) (lv' := [(2, .int (nI (i + 1))), (0, .ref kp), (1, .ref sc)]) hx hb dX8_copyFrom_83 hl (k := 2) rfl (nI_add i 1) (by decide) rfl (fun ls hl => ?_)
          refine lv_goto (tgt := 65) hx hb dX8_copyFrom_86 (by decide) ?_
          exact ih65 (i + 1) _ (by omega) (by omega) (up_cp hf2 (zhn i hin (by omega))) _ _ (hK.sub [0, 1, 2, 3, 4, 5, 6, 7] rfl) (hP.sub [0, 1, 2, 3, 4, 5, 6, 7, 8, 9] rfl) (hD.sub [0, 1, 2, 3, 4, 5, 6, 7, 8, 9] (by decide) rfl) hS ls (lv_sub hl [1, 2, 0] rfl)
  exact L65 _ (0) _ (Nat.lt_succ_self _) (by omega) (fun k0 h0 => absurd h0 (Nat.not_lt_zero k0)) _ _ (hK.sub [0, 1, 2, 3, 4, 5, 6, 7] rfl) (hP.sub [0, 1, 2, 3, 4, 5, 6, 7, 8, 9] rfl) (hD.sub [0, 1, 2, 3, 4, 5, 6, 7, 8, 9] (by decide) rfl) hS ls (lv_sub hl [1, 2, 0] rfl)

/-- one clause more: its word, its number, its end -/
noncomputable def RW (i : Nat) (fW fA fE : Nat → Int32) (C : List pCla) : Prop := C.length = i ∧ ∀ k, k < i → fW k = nI (C.getD k dfC).1 ∧ fA k = nI (C.getD k dfC).2.1 ∧ fE k = nI (tkC (C.take (k + 1))).length
theorem RW.add {i w v n : Nat} {fW fA fE : Nat → Int32} {C : List pCla} {L : List Nat} (h : RW i fW fA fE C) (hn : (tkC C ++ L).length = n) : RW (i + 1) (upd fW i (nI w)) (upd fA i (nI v)) (upd fE i (nI n)) (C ++ [(w, v, L)]) := by
  obtain ⟨h1, h2⟩ := h
  refine ⟨by rw [List.length_append, h1]; rfl, fun k hk => ?_⟩
  by_cases q : k = i
  · subst q
    rw [pk_us, pk_us, pk_us, ← h1, gC_r, List.take_of_length_le (by rw [List.length_append]; exact Nat.le_refl _), tkC_add]
    exact ⟨rfl, rfl, by rw [← hn]⟩
  · rw [pk_un q, pk_un q, pk_un q, gC_l (by omega), List.take_append_of_le_length (by omega)]
    exact h2 k (by omega)
theorem RW.hc {i n p : Nat} {sg : Int32} {fW fA fE fC : Nat → Int32} {C : List pCla} (h : RW i fW fA fE C) (h2 : XT fC n (tkC C) p) (h3 : sg = nI (sgC C)) (h4 : p ≤ 100) : HC i sg fW fA fE fC C := by
  obtain ⟨a1, a2, a3⟩ := h2
  exact ⟨h.1, h3, h.2, by omega, fun i hi => a3 i (by omega)⟩
theorem sg_ad {C : List pCla} {w v : Nat} {L : List Nat} (hw : ¬ w = 2) : nI (sgC C) = nI (sgC (C ++ [(w, v, L)])) := by rw [sgC_add, if_neg hw]
theorem sg_a2 {C : List pCla} {w v : Nat} (hw : w = 2) : nI v = nI (sgC (C ++ [(w, v, [])])) := by rw [sgC_add, if_pos hw]

theorem kc_xRead_0 : ∀ w ∈ wsX50, w ∈ wsX5_read := fun w h => List.mem_cons_of_mem _ (gin_wsX50 w h)
theorem kc_xRead_1 : (.fieldLink RX5 28 "MistHeaps$Hill" "tape" "[I" : Cond) ∈ wsX5_read := kc_of 122 rfl rfl rfl
theorem kc_xRead_2 : (.fieldLink RX5 31 "MistHeaps$Hill" "size" "I" : Cond) ∈ wsX5_read := kc_of 123 rfl rfl rfl
theorem kc_xRead_3 : (.fieldLink RX5 34 "MistHeaps$Hill" "at" "I" : Cond) ∈ wsX5_read := kc_of 124 rfl rfl rfl
theorem kc_xRead_4 : (.fieldLink RX5 37 "MistHeaps$Hill" "coded" "I" : Cond) ∈ wsX5_read := kc_of 121 rfl rfl rfl
theorem kc_xRead_5 : (.fieldLink RX5 11 "MistHeaps$Hill" "sight" "I" : Cond) ∈ wsX5_read := kc_of 113 rfl rfl rfl
theorem kc_xRead_6 : (.fieldLink RX5 15 "MistHeaps$Hill" "words" "[I" : Cond) ∈ wsX5_read := kc_of 117 rfl rfl rfl
theorem kc_xRead_7 : (.fieldLink RX5 19 "MistHeaps$Hill" "amounts" "[I" : Cond) ∈ wsX5_read := kc_of 118 rfl rfl rfl
theorem kc_xRead_8 : (.fieldLink RX5 48 "MistHeaps$Hill" "number" "I" : Cond) ∈ wsX5_read := kc_of 125 rfl rfl rfl
theorem kc_xRead_9 : (.fieldLink RX5 22 "MistHeaps$Hill" "ends" "[I" : Cond) ∈ wsX5_read := kc_of 119 rfl rfl rfl
theorem kc_xRead_10 : (.fieldLink RX5 59 "MistHeaps$Hill" "clauses" "I" : Cond) ∈ wsX5_read := kc_of 116 rfl rfl rfl
set_option maxHeartbeats 4000000 in
set_option maxRecDepth 100000 in
theorem c_xRead (l : Launch) (dC : Nat → ClassId) (dI : Nat → Nat → Nat) (sK sV : Nat → Nat) (bl : Nat) (aTp : Nat) (eW : Nat) (eA : Nat) (eE : Nat) (eC : Nat) (ecl : Nat) (cdd : Int32) (szz : Int32) (att : Int32) (esg : Int32) (cTp : ClassId) (ceW : ClassId) (ceA : ClassId) (ceE : ClassId) (ceC : ClassId) (fTp : Nat → Int32) (feW : Nat → Int32) (feA : Nat → Int32) (feE : Nat → Int32) (feC : Nat → Int32) (etv : Value) (ez : Nat) (em : Nat) (ss : Nat → Nat) (sz : Nat) (hez : ez ≤ 100) (hcl : ecl ≤ 10) (hem : em ≤ 99) (zeE : ∀ k0, k0 < 10 → ∃ e0 : Nat, e0 ≤ 100 ∧ feE k0 = nI e0) (zeC : ∀ k0, k0 < 100 → okC (feC k0)) (gX : TX fTp ez ss) : Met l yX5_read wsX5_read ({ frames := 23, cells := 0, slots := 0, locals := 509 } : Room) (va_Pc [.ref bl, .ref aTp, .int (nI ez)] (fun U => U.heap.size = sz ∧ va_P (dC, dI) vwCl [(zo7iirrrriviii bl esg (nI ecl) eW eA eE eC cdd etv szz att (nI em)), (zaI aTp cTp 100 fTp), (zaI eW ceW 10 feW), (zaI eA ceA 10 feA), (zaI eE ceE 10 feE), (zaI eC ceC 100 feC)] U.heap ∧ va_K (dC, dI) vwCl [(cTp, .int), (ceW, .int), (ceA, .int), (ceE, .int), (ceC, .int)] U ∧ va_D (fun _ => True) [(zo7iirrrriviii bl esg (nI ecl) eW eA eE eC cdd etv szz att (nI em)), (zaI aTp cTp 100 fTp), (zaI eW ceW 10 feW), (zaI eA ceA 10 feA), (zaI eE ceE 10 feE), (zaI eC ceC 100 feC)] ∧ Gs sK sV (va_A [(zo7iirrrriviii bl esg (nI ecl) eW eA eE eC cdd etv szz att (nI em)), (zaI aTp cTp 100 fTp), (zaI eW ceW 10 feW), (zaI eA ceA 10 feA), (zaI eE ceE 10 feE), (zaI eC ceC 100 feC)] sz) U)) (va_Qi (fun (r : Int32) (u : (Int32) × (Nat) × (Nat) × (Nat) × (Nat) × (Nat → Int32) × (Nat → Int32) × (Nat → Int32) × (Nat → Int32)) => match u with | (esg9, ecl9, ecd9, ep9, em9, feW9, feA9, feE9, feC9) => (ecl9 ≤ 10 ∧ em9 ≤ 99 ∧ (∀ k0, k0 < 10 → ∃ e0 : Nat, e0 ≤ 100 ∧ feE9 k0 = nI e0) ∧ ∀ k0, k0 < 100 → okC (feC9 k0)) ∧ ((r = -1 ∧ ∃ C : List pCla, pHl ss ez = (some C, ez) ∧ HC ecl9 esg9 feW9 feA9 feE9 feC9 C) ∨ (∃ q : Nat, q ≤ 200 ∧ r = nI q ∧ pHl ss ez = (none, q)))) (fun (u : (Int32) × (Nat) × (Nat) × (Nat) × (Nat) × (Nat → Int32) × (Nat → Int32) × (Nat → Int32) × (Nat → Int32)) (t : State) => match u with | (esg9, ecl9, ecd9, ep9, em9, feW9, feA9, feE9, feC9) => va_P (dC, dI) vwCl [(zo7iirrrririii bl esg9 (nI ecl9) eW eA eE eC (nI ecd9) aTp (nI ez) (nI ep9) (nI em9)), (zaI aTp cTp 100 fTp), (zaI eW ceW 10 feW9), (zaI eA ceA 10 feA9), (zaI eE ceE 10 feE9), (zaI eC ceC 100 feC9)] t.heap ∧ va_K (dC, dI) vwCl [(cTp, .int), (ceW, .int), (ceA, .int), (ceE, .int), (ceC, .int)] t ∧ va_D (va_A [(zo7iirrrriviii bl esg (nI ecl) eW eA eE eC cdd etv szz att (nI em)), (zaI aTp cTp 100 fTp), (zaI eW ceW 10 feW), (zaI eA ceA 10 feA), (zaI eE ceE 10 feE), (zaI eC ceC 100 feC)] sz) [(zo7iirrrririii bl esg9 (nI ecl9) eW eA eE eC (nI ecd9) aTp (nI ez) (nI ep9) (nI em9)), (zaI aTp cTp 100 fTp), (zaI eW ceW 10 feW9), (zaI eA ceA 10 feA9), (zaI eE ceE 10 feE9), (zaI eC ceC 100 feC9)]) (va_A [(zo7iirrrriviii bl esg (nI ecl) eW eA eE eC cdd etv szz att (nI em)), (zaI aTp cTp 100 fTp), (zaI eW ceW 10 feW), (zaI eA ceA 10 feA), (zaI eE ceE 10 feE), (zaI eC ceC 100 feC)] sz)) 0 0 (va_A [(zo7iirrrriviii bl esg (nI ecl) eW eA eE eC cdd etv szz att (nI em)), (zaI aTp cTp 100 fTp), (zaI eW ceW 10 feW), (zaI eA ceA 10 feA), (zaI eE ceE 10 feE), (zaI eC ceC 100 feC)] sz) := by
  refine met_ofQ (cc := cX5_read) (maxL := 5) (ret := (some .int)) (by decide) rfl ?_
  intro p e s m args below meth c s₁ Q B hml hv hQ
  obtain ⟨rfl, hsz, hP, hK, hD0, hE⟩ := hv
  have hx := B.exec
  have hb := B.bytes
  have hr := B.returns
  have hts := atoms_spec (ws := wsX5_read) B.pre
  have hown : s.vm.findClass RX5 = some m.cls := findClass_of_methodNamed B.named
  have hlocks := B.notSynchronized
  subst hsz
  have hD := hD0.self (sz := s.heap.size)
  generalize hAe : va_A [(zo7iirrrriviii bl esg (nI ecl) eW eA eE eC cdd etv szz att (nI em)), (zaI aTp cTp 100 fTp), (zaI eW ceW 10 feW), (zaI eA ceA 10 feA), (zaI eE ceE 10 feE), (zaI eC ceC 100 feC)] s.heap.size = A at hD hQ hE ⊢
  have hA : ∀ q : Nat, s.heap.size ≤ q → A q := fun q h => by rw [← hAe]; exact Or.inr h
  have hS : va_S A s.heap s.heap [] := va_S.rf
  have hl := lv_entry [.ref bl, .ref aTp, .int (nI ez)] (n := 5) (Nat.le_of_ble_eq_true rfl)
  rw [lg_entry_eq]
  generalize (lg_sl [.ref bl, .ref aTp, .int (nI ez)] ++ List.replicate (5 - (lg_sl [.ref bl, .ref aTp, .int (nI ez)]).length) Slot.unset).toArray = ls at hl ⊢
  generalize hag : ([.ref bl, .ref aTp, .int (nI ez)] : List Value).toArray = args at hts hQ ⊢
  have hl : lv_has ls 5 [(0, .ref bl), (1, .ref aTp), (2, .int (nI ez))] := hl
  obtain ⟨H, hH⟩ : ∃ H : Heap, H = s.heap := ⟨_, rfl⟩
  rw [← hH] at hP
  rw [← hH]
  have hS : va_S A s.heap H [] := by rw [hH]; exact hS
  obtain ⟨locs, hlo⟩ : ∃ L : List Loc, L = [] := ⟨_, rfl⟩
  rw [← hlo] at hS
  rw [← hlo]
  clear hH hlo
  refine lv_aload_n hx hb dX5_read_0 rfl (lv_at hl 0 rfl) ?_
  refine lv_aload_n hx hb dX5_read_1 rfl (lv_at hl 1 rfl) ?_
  refine va_put (D := (dC, dI)) (ci := 7) (v := .ref aTp) (ty := .array .int) (C := RX5) (T := TX5) (N := 11) hx hb hts kc_xRead_0 tyX5 tyX5_ok nmX5 hown hK hP hD hS 0 rfl rfl 7 (by decide) (hts (.fieldLink RX5 28 "MistHeaps$Hill" "tape" "[I") kc_xRead_1) (fun _ h9 => h9) rfl (by decide +kernel) rfl rfl (Nat.le_of_ble_eq_true rfl) dX5_read_2 (fun H locs hP hD hS => ?_)
  have hP : va_P (dC, dI) vwCl [(zo7iirrrririii bl esg (nI ecl) eW eA eE eC cdd aTp szz att (nI em)), (zaI aTp cTp 100 fTp), (zaI eW ceW 10 feW), (zaI eA ceA 10 feA), (zaI eE ceE 10 feE), (zaI eC ceC 100 feC)] H := hP
  have hD : va_D A [(zo7iirrrririii bl esg (nI ecl) eW eA eE eC cdd aTp szz att (nI em)), (zaI aTp cTp 100 fTp), (zaI eW ceW 10 feW), (zaI eA ceA 10 feA), (zaI eE ceE 10 feE), (zaI eC ceC 100 feC)] := hD
  refine lv_aload_n hx hb dX5_read_5 rfl (lv_at hl 0 rfl) ?_
  refine lv_iload_n hx hb dX5_read_6 rfl (lv_at hl 2 rfl) ?_
  refine va_put (D := (dC, dI)) (ci := 7) (v := .int (nI ez)) (ty := .int) (C := RX5) (T := TX5) (N := 11) hx hb hts kc_xRead_0 tyX5 tyX5_ok nmX5 hown hK hP hD hS 0 rfl rfl 8 (by decide) (hts (.fieldLink RX5 31 "MistHeaps$Hill" "size" "I") kc_xRead_2) (fun _ h9 => h9) rfl (by decide +kernel) rfl rfl (Nat.le_of_ble_eq_true rfl) dX5_read_7 (fun H locs hP hD hS => ?_)
  have hP : va_P (dC, dI) vwCl [(zo7iirrrririii bl esg (nI ecl) eW eA eE eC cdd aTp (nI ez) att (nI em)), (zaI aTp cTp 100 fTp), (zaI eW ceW 10 feW), (zaI eA ceA 10 feA), (zaI eE ceE 10 feE), (zaI eC ceC 100 feC)] H := hP
  have hD : va_D A [(zo7iirrrririii bl esg (nI ecl) eW eA eE eC cdd aTp (nI ez) att (nI em)), (zaI aTp cTp 100 fTp), (zaI eW ceW 10 feW), (zaI eA ceA 10 feA), (zaI eE ceE 10 feE), (zaI eC ceC 100 feC)] := hD
  refine lv_aload_n hx hb dX5_read_10 rfl (lv_at hl 0 rfl) ?_
  refine lv_iconst (v := 0) hx hb dX5_read_11 (by decide) ?_
  refine va_put (D := (dC, dI)) (ci := 7) (v := .int 0) (ty := .int) (C := RX5) (T := TX5) (N := 11) hx hb hts kc_xRead_0 tyX5 tyX5_ok nmX5 hown hK hP hD hS 0 rfl rfl 9 (by decide) (hts (.fieldLink RX5 34 "MistHeaps$Hill" "at" "I") kc_xRead_3) (fun _ h9 => h9) rfl (by decide +kernel) rfl rfl (Nat.le_of_ble_eq_true rfl) dX5_read_12 (fun H locs hP hD hS => ?_)
  have hP : va_P (dC, dI) vwCl [(zo7iirrrririii bl esg (nI ecl) eW eA eE eC cdd aTp (nI ez) 0 (nI em)), (zaI aTp cTp 100 fTp), (zaI eW ceW 10 feW), (zaI eA ceA 10 feA), (zaI eE ceE 10 feE), (zaI eC ceC 100 feC)] H := hP
  have hD : va_D A [(zo7iirrrririii bl esg (nI ecl) eW eA eE eC cdd aTp (nI ez) 0 (nI em)), (zaI aTp cTp 100 fTp), (zaI eW ceW 10 feW), (zaI eA ceA 10 feA), (zaI eE ceE 10 feE), (zaI eC ceC 100 feC)] := hD
  refine lv_aload_n hx hb dX5_read_15 rfl (lv_at hl 0 rfl) ?_
  refine lv_iconst (v := 0) hx hb dX5_read_16 (by decide) ?_
  refine va_put (D := (dC, dI)) (ci := 7) (v := .int 0) (ty := .int) (C := RX5) (T := TX5) (N := 11) hx hb hts kc_xRead_0 tyX5 tyX5_ok nmX5 hown hK hP hD hS 0 rfl rfl 6 (by decide) (hts (.fieldLink RX5 37 "MistHeaps$Hill" "coded" "I") kc_xRead_4) (fun _ h9 => h9) rfl (by decide +kernel) rfl rfl (Nat.le_of_ble_eq_true rfl) dX5_read_17 (fun H locs hP hD hS => ?_)
  have hP : va_P (dC, dI) vwCl [(zo7iirrrririii bl esg (nI ecl) eW eA eE eC 0 aTp (nI ez) 0 (nI em)), (zaI aTp cTp 100 fTp), (zaI eW ceW 10 feW), (zaI eA ceA 10 feA), (zaI eE ceE 10 feE), (zaI eC ceC 100 feC)] H := hP
  have hD : va_D A [(zo7iirrrririii bl esg (nI ecl) eW eA eE eC 0 aTp (nI ez) 0 (nI em)), (zaI aTp cTp 100 fTp), (zaI eW ceW 10 feW), (zaI eA ceA 10 feA), (zaI eE ceE 10 feE), (zaI eC ceC 100 feC)] := hD
  refine lv_aload_n hx hb dX5_read_20 rfl (lv_at hl 0 rfl) ?_
  refine lv_iconst (v := 3) hx hb dX5_read_21 (by decide) ?_
  refine va_put (D := (dC, dI)) (ci := 7) (v := .int 3) (ty := .int) (C := RX5) (T := TX5) (N := 11) hx hb hts kc_xRead_0 tyX5 tyX5_ok nmX5 hown hK hP hD hS 0 rfl rfl 0 (by decide) (hts (.fieldLink RX5 11 "MistHeaps$Hill" "sight" "I") kc_xRead_5) (fun _ h9 => h9) rfl (by decide +kernel) rfl rfl (Nat.le_of_ble_eq_true rfl) dX5_read_22 (fun H locs hP hD hS => ?_)
  have hP : va_P (dC, dI) vwCl [(zo7iirrrririii bl 3 (nI ecl) eW eA eE eC 0 aTp (nI ez) 0 (nI em)), (zaI aTp cTp 100 fTp), (zaI eW ceW 10 feW), (zaI eA ceA 10 feA), (zaI eE ceE 10 feE), (zaI eC ceC 100 feC)] H := hP
  have hD : va_D A [(zo7iirrrririii bl 3 (nI ecl) eW eA eE eC 0 aTp (nI ez) 0 (nI em)), (zaI aTp cTp 100 fTp), (zaI eW ceW 10 feW), (zaI eA ceA 10 feA), (zaI eE ceE 10 feE), (zaI eC ceC 100 feC)] := hD
  refine lv_iconst (v := 0) hx hb dX5_read_25 (by decide) ?_
  refine lv_istore_n (lv' := [(3, .int 0), (0, .ref bl), (1, .ref aTp), (2, .int (nI ez))]) hx hb dX5_read_26 rfl hl (by decide) rfl (fun ls hl => ?_)
  have L27 : ∀ (nF : Nat) (i : Nat) (sg2 : Int32) (cl2 : Nat) (cd2 : Nat) (p2 : Nat) (m2 : Nat) (feW2 : Nat → Int32) (feA2 : Nat → Int32) (feE2 : Nat → Int32) (feC2 : Nat → Int32) (C1 : List pCla), 10 - i < nF → (i ≤ 10) → (p2 ≤ ez ∧ cl2 ≤ 10) → (cd2 ≤ 100 ∧ m2 ≤ 99) → (∀ k0, k0 < 10 → ∃ e0 : Nat, e0 ≤ 100 ∧ feE2 k0 = nI e0) → (∀ k0, k0 < 100 → okC (feC2 k0)) → ((i < 10 ∧ pHl ss ez = pBf ss ez (9 - i) C1 p2) ∨ (i = 10 ∧ 1 ≤ p2 ∧ pHl ss ez = (none, p2 - 1))) → (RW i feW2 feA2 feE2 C1) → (XT feC2 cd2 (tkC C1) p2) → (sg2 = nI (sgC C1)) → ∀ (H : Heap) (locs : List Loc), va_K (dC, dI) vwCl [(cTp, .int), (ceW, .int), (ceA, .int), (ceE, .int), (ceC, .int)] s → va_P (dC, dI) vwCl [(zo7iirrrririii bl sg2 (nI cl2) eW eA eE eC (nI cd2) aTp (nI ez) (nI p2) (nI m2)), (zaI aTp cTp 100 fTp), (zaI eW ceW 10 feW2), (zaI eA ceA 10 feA2), (zaI eE ceE 10 feE2), (zaI eC ceC 100 feC2)] H → va_D A [(zo7iirrrririii bl sg2 (nI cl2) eW eA eE eC (nI cd2) aTp (nI ez) (nI p2) (nI m2)), (zaI aTp cTp 100 fTp), (zaI eW ceW 10 feW2), (zaI eA ceA 10 feA2), (zaI eE ceE 10 feE2), (zaI eC ceC 100 feC2)] → va_S A s.heap H locs → ∀ (ls : Array Slot), lv_has ls 5 [(0, .ref bl), (3, .int (nI i))] → W p l e ({ frames := 23, cells := 0, slots := 0, locals := 509 } : Room) s m args below meth c H locs 0 0 Q (F0 m 27 ls []) := by
    intro nF
    induction nF with
    | zero => intro i sg2 cl2 cd2 p2 m2 feW2 feA2 feE2 feC2 C1 hm; exact absurd hm (Nat.not_lt_zero _)
    | succ nF ih27 =>
      intro i sg2 cl2 cd2 p2 m2 feW2 feA2 feE2 feC2 C1 hm hi h2a h2b zE2 zC2 hE9 hRW hXT hsg H locs hK hP hD hS ls hl
      obtain ⟨h2c, h2d⟩ := h2a
      obtain ⟨h2e, h2f⟩ := h2b
      refine lv_iload_n hx hb dX5_read_27 rfl (lv_at hl 1 rfl) ?_
      refine lv_bipush (v := 10) hx hb dX5_read_28 (by decide) ?_
      refine lv_icmp_ge (tgt := 164) hx hb dX5_read_30 (by decide) (fun c_1 => ?_) (fun c_1 => ?_)
      · skip
        have c_1 : 10 ≤ i := (nI_leI (a := 10) (b := i) (by omega) (by omega)).mp c_1
        obtain ⟨hi10, hp1, hE9⟩ : i = 10 ∧ 1 ≤ p2 ∧ pHl ss ez = (none, p2 - 1) := by rcases hE9 with q | q; exact absurd q.1 (by omega); exact q
        refine lv_aload_n hx hb dX5_read_164 rfl (lv_at hl 0 rfl) ?_
        refine va_get (D := (dC, dI)) (ci := 7) (v := .int (nI p2)) (C := RX5) (T := TX5) (N := 11) hx hb hts kc_xRead_0 hown hK hP 0 rfl rfl 9 (by decide) (hts (.fieldLink RX5 34 "MistHeaps$Hill" "at" "I") kc_xRead_3) (fun _ h9 => h9) rfl dX5_read_165 ?_
        refine lv_iconst (v := 1) hx hb dX5_read_168 (by decide) ?_
        refine lv_isub hx hb dX5_read_169 ?_
        refine qi_as (y := nI (p2 - 1)) (pk_sub (a := p2) (b := 1) (by omega)) ?_
        rw [hQ]
        have hP9 := hP.sub (ws' := [(zo7iirrrririii bl sg2 (nI cl2) eW eA eE eC (nI cd2) aTp (nI ez) (nI p2) (nI m2)), (zaI aTp cTp 100 fTp), (zaI eW ceW 10 feW2), (zaI eA ceA 10 feA2), (zaI eE ceE 10 feE2), (zaI eC ceC 100 feC2)]) [0, 1, 2, 3, 4, 5] rfl
        have hD9 := hD.sub (ws' := [(zo7iirrrririii bl sg2 (nI cl2) eW eA eE eC (nI cd2) aTp (nI ez) (nI p2) (nI m2)), (zaI aTp cTp 100 fTp), (zaI eW ceW 10 feW2), (zaI eA ceA 10 feA2), (zaI eE ceE 10 feE2), (zaI eC ceC 100 feC2)]) [0, 1, 2, 3, 4, 5] (by decide) rfl
        have hK9 := hK.sub (tys' := [(cTp, .int), (ceW, .int), (ceA, .int), (ceE, .int), (ceC, .int)]) [0, 1, 2, 3, 4] rfl
        exact W.iret (v := nI (p2 - 1)) hx hb hr (fun tQ htQ hWQ => ⟨⟨(nI (p2 - 1)), (sg2, cl2, cd2, p2, m2, feW2, feA2, feE2, feC2), rfl, ⟨⟨by omega, by omega, zE2, zC2⟩, Or.inr ⟨p2 - 1, by omega, rfl, hE9⟩⟩, by rw [htQ]; exact hP9, va_K.moved hWQ.alike hK9, hD9⟩, hS.F htQ⟩) hS.2.2 dX5_read_170
      · skip
        have c_1 : ¬ 10 ≤ i := fun q => c_1 ((nI_leI (a := 10) (b := i) (by omega) (by omega)).mpr q)
        have hE9 : pHl ss ez = pBf ss ez (9 - i) C1 p2 := by rcases hE9 with q | q; exact q.2; exact absurd q.1 (by omega)
        refine lv_aload_n hx hb dX5_read_33 rfl (lv_at hl 0 rfl) ?_
        have hPc := hP.sub (ws' := [(zo7iirrrririii bl sg2 (nI cl2) eW eA eE eC (nI cd2) aTp (nI ez) (nI p2) (nI m2)), (zaI aTp cTp 100 fTp)]) [0, 1] rfl
        have hDc := hD.sub (ws' := [(zo7iirrrririii bl sg2 (nI cl2) eW eA eE eC (nI cd2) aTp (nI ez) (nI p2) (nI m2)), (zaI aTp cTp 100 fTp)]) [0, 1] (by decide) rfl
        have hKc := hK.sub (tys' := [(cTp, .int)]) [0] rfl
        have hFc := va_free (wc := [(zo7iirrrririii bl sg2 (nI cl2) eW eA eE eC (nI cd2) aTp (nI ez) (nI p2) (nI m2)), (zaI aTp cTp 100 fTp)]) hD hS hA [0, 1] rfl
        refine va_calli (va_runV (As := []) (rest := []) ⟨hx, hb, hml, hown, hts⟩ (c_readWord l dC dI sK sV bl aTp eW eA eE eC cl2 cd2 sg2 cTp fTp ez p2 m2 ss H.size (hez) (by omega) (gX)) (cwV 0 hts gX5_read_X5_readWord rfl rfl rfl hd_yX5_readWord ⟨Nat.le_of_ble_eq_true rfl, Nat.le_of_ble_eq_true rfl⟩) ⟨fun a U g mk q => by obtain ⟨q0, q1, qP, qK, qD, qhE⟩ := q; exact ⟨q0, mvz g mk a q1, mvP g mk a qP, mvK g mk a qK, qD, qhE.mv g mk a⟩, va_recv hK hP (ci := 7) (q := (RX5, TX5, 11)) (q0 := 0) rfl rfl, fun U hU hW => ⟨rfl, by rw [hU], by rw [hU]; exact hPc, va_K.moved hW.alike hKc, hDc.weaken (fun _ _ _ _ => trivial), hE.call hS hU hW (fun q h => hFc q h)⟩⟩ rfl rfl hl.1 rfl (lv_room (Nat.le_of_ble_eq_true rfl)) dX5_read_34 ⟨Nat.le_of_ble_eq_true rfl, Nat.le_of_ble_eq_true rfl⟩) hS (fun q _ h => hFc q h) hFc (fun r_2 u tC H1 locs htC hvm hw_3 hB hz1 hk1 hS => ?_)
        obtain ⟨ep9_4, rfl⟩ : ∃ z, z = u := ⟨_, rfl⟩
        try dsimp only at hw_3 hB
        obtain ⟨hP1, hK1, hD1⟩ := hB
        rw [htC] at hP1
        have hK1 := va_K.moved hvm.symm hK1
        obtain ⟨hP, hD⟩ := va_join (wr := [(zaI eW ceW 10 feW2), (zaI eA ceA 10 feA2), (zaI eE ceE 10 feE2), (zaI eC ceC 100 feC2)]) (w1 := [(zo7iirrrririii bl sg2 (nI cl2) eW eA eE eC (nI cd2) aTp (nI ez) (nI ep9_4) (nI m2)), (zaI aTp cTp 100 fTp)]) hP hD [0, 1] [2, 3, 4, 5] rfl rfl (by decide) (by decide) hk1 hFc hP1 hD1
        have hK := (hK.sub (tys' := [(ceW, .int), (ceA, .int), (ceE, .int), (ceC, .int)]) [1, 2, 3, 4] rfl).app hK1
        generalize H1 = H at hP hS ⊢
        have hP : va_P (dC, dI) vwCl [(zaI eW ceW 10 feW2), (zaI eA ceA 10 feA2), (zaI eE ceE 10 feE2), (zaI eC ceC 100 feC2), (zo7iirrrririii bl sg2 (nI cl2) eW eA eE eC (nI cd2) aTp (nI ez) (nI ep9_4) (nI m2)), (zaI aTp cTp 100 fTp)] H := hP
        have hD : va_D A [(zaI eW ceW 10 feW2), (zaI eA ceA 10 feA2), (zaI eE ceE 10 feE2), (zaI eC ceC 100 feC2), (zo7iirrrririii bl sg2 (nI cl2) eW eA eE eC (nI cd2) aTp (nI ez) (nI ep9_4) (nI m2)), (zaI aTp cTp 100 fTp)] := hD
        have hK : va_K (dC, dI) vwCl [(ceW, .int), (ceA, .int), (ceE, .int), (ceC, .int), (cTp, .int)] s := hK
        obtain ⟨h_5, h_6, hr9⟩ := hw_3
        rcases hr9 with ⟨rfl, hwd⟩ | ⟨jw, hjw, rfl, hwd⟩
        · skip
          refine lv_istore (lv' := [(4, .int (-1)), (0, .ref bl), (3, .int (nI i))]) hx hb dX5_read_37 hl (by decide) rfl (fun ls hl => ?_)
          refine lv_iload hx hb dX5_read_39 (lv_at hl 0 rfl) ?_
          refine lv_iconst (v := (-1)) hx hb dX5_read_41 (by decide) ?_
          refine lv_icmp_eq (tgt := 52) hx hb dX5_read_42 (by decide) (fun _ => ?_) (fun c_7 => absurd c_7 (by decide))
          refine lv_aload_n hx hb dX5_read_52 rfl (lv_at hl 1 rfl) ?_
          refine va_get (D := (dC, dI)) (ci := 7) (v := .int (nI ep9_4)) (C := RX5) (T := TX5) (N := 11) hx hb hts kc_xRead_0 hown hK hP 4 rfl rfl 9 (by decide) (hts (.fieldLink RX5 34 "MistHeaps$Hill" "at" "I") kc_xRead_3) (fun _ h9 => h9) rfl dX5_read_53 ?_
          rw [hQ]
          have hP9 := hP.sub (ws' := [(zo7iirrrririii bl sg2 (nI cl2) eW eA eE eC (nI cd2) aTp (nI ez) (nI ep9_4) (nI m2)), (zaI aTp cTp 100 fTp), (zaI eW ceW 10 feW2), (zaI eA ceA 10 feA2), (zaI eE ceE 10 feE2), (zaI eC ceC 100 feC2)]) [4, 5, 0, 1, 2, 3] rfl
          have hD9 := hD.sub (ws' := [(zo7iirrrririii bl sg2 (nI cl2) eW eA eE eC (nI cd2) aTp (nI ez) (nI ep9_4) (nI m2)), (zaI aTp cTp 100 fTp), (zaI eW ceW 10 feW2), (zaI eA ceA 10 feA2), (zaI eE ceE 10 feE2), (zaI eC ceC 100 feC2)]) [4, 5, 0, 1, 2, 3] (by decide) rfl
          have hK9 := hK.sub (tys' := [(cTp, .int), (ceW, .int), (ceA, .int), (ceE, .int), (ceC, .int)]) [4, 0, 1, 2, 3] rfl
          exact W.iret (v := nI ep9_4) hx hb hr (fun tQ htQ hWQ => ⟨⟨(nI ep9_4), (sg2, cl2, cd2, ep9_4, m2, feW2, feA2, feE2, feC2), rfl, ⟨⟨by omega, by omega, zE2, zC2⟩, Or.inr ⟨ep9_4, by omega, rfl, hE9.trans (bf_n (wd_n hwd))⟩⟩, by rw [htQ]; exact hP9, va_K.moved hWQ.alike hK9, hD9⟩, hS.F htQ⟩) hS.2.2 dX5_read_56
        · skip
          refine lv_istore (lv' := [(4, .int (nI jw)), (0, .ref bl), (3, .int (nI i))]) hx hb dX5_read_37 hl (by decide) rfl (fun ls hl => ?_)
          refine lv_iload hx hb dX5_read_39 (lv_at hl 0 rfl) ?_
          refine lv_iconst (v := (-1)) hx hb dX5_read_41 (by decide) ?_
          refine lv_icmp_eq (tgt := 52) hx hb dX5_read_42 (by decide) (fun c_8 => absurd c_8 (nI_nm1 (by omega))) (fun c_8 => ?_)
          refine lv_aload_n hx hb dX5_read_45 rfl (lv_at hl 1 rfl) ?_
          have hPc := hP.sub (ws' := [(zo7iirrrririii bl sg2 (nI cl2) eW eA eE eC (nI cd2) aTp (nI ez) (nI ep9_4) (nI m2)), (zaI aTp cTp 100 fTp)]) [4, 5] rfl
          have hDc := hD.sub (ws' := [(zo7iirrrririii bl sg2 (nI cl2) eW eA eE eC (nI cd2) aTp (nI ez) (nI ep9_4) (nI m2)), (zaI aTp cTp 100 fTp)]) [4, 5] (by decide) rfl
          have hKc := hK.sub (tys' := [(cTp, .int)]) [4] rfl
          have hFc := va_free (wc := [(zo7iirrrririii bl sg2 (nI cl2) eW eA eE eC (nI cd2) aTp (nI ez) (nI ep9_4) (nI m2)), (zaI aTp cTp 100 fTp)]) hD hS hA [4, 5] rfl
          refine va_calli (va_runV (As := []) (rest := []) ⟨hx, hb, hml, hown, hts⟩ (c_xReadNumber l dC dI bl aTp eW eA eE eC cl2 cd2 sg2 cTp fTp ez ep9_4 m2 ss H.size (hez) (by omega) (gX)) (cwV 0 hts gX5_read_X5_readNumber rfl rfl rfl hd_yX5_readNumber ⟨Nat.le_of_ble_eq_true rfl, Nat.le_of_ble_eq_true rfl⟩) ⟨fun a U g mk q => by obtain ⟨q0, q1, qP, qK, qD⟩ := q; exact ⟨q0, mvz g mk a q1, mvP g mk a qP, mvK g mk a qK, qD⟩, va_recv hK hP (ci := 7) (q := (RX5, TX5, 11)) (q0 := 4) rfl rfl, fun U hU hW => ⟨rfl, by rw [hU], by rw [hU]; exact hPc, va_K.moved hW.alike hKc, hDc.weaken (fun _ _ _ _ => trivial)⟩⟩ rfl rfl hl.1 rfl (lv_room (Nat.le_of_ble_eq_true rfl)) dX5_read_46 ⟨Nat.le_of_ble_eq_true rfl, Nat.le_of_ble_eq_true rfl⟩) hS (fun q _ h => hFc q h) hFc (fun r_9 u tC H1 locs htC hvm hw_10 hB hz1 hk1 hS => ?_)
          obtain ⟨ep9_11, em9_12⟩ := u
          try dsimp only at hw_10 hB
          obtain ⟨hP1, hK1, hD1⟩ := hB
          rw [htC] at hP1
          have hK1 := va_K.moved hvm.symm hK1
          obtain ⟨hP, hD⟩ := va_join (wr := [(zaI eW ceW 10 feW2), (zaI eA ceA 10 feA2), (zaI eE ceE 10 feE2), (zaI eC ceC 100 feC2)]) (w1 := [(zo7iirrrririii bl sg2 (nI cl2) eW eA eE eC (nI cd2) aTp (nI ez) (nI ep9_11) (nI em9_12)), (zaI aTp cTp 100 fTp)]) hP hD [4, 5] [0, 1, 2, 3] rfl rfl (by decide) (by decide) hk1 hFc hP1 hD1
          have hK := (hK.sub (tys' := [(ceW, .int), (ceA, .int), (ceE, .int), (ceC, .int)]) [0, 1, 2, 3] rfl).app hK1
          generalize H1 = H at hP hS ⊢
          have hP : va_P (dC, dI) vwCl [(zaI eW ceW 10 feW2), (zaI eA ceA 10 feA2), (zaI eE ceE 10 feE2), (zaI eC ceC 100 feC2), (zo7iirrrririii bl sg2 (nI cl2) eW eA eE eC (nI cd2) aTp (nI ez) (nI ep9_11) (nI em9_12)), (zaI aTp cTp 100 fTp)] H := hP
          have hD : va_D A [(zaI eW ceW 10 feW2), (zaI eA ceA 10 feA2), (zaI eE ceE 10 feE2), (zaI eC ceC 100 feC2), (zo7iirrrririii bl sg2 (nI cl2) eW eA eE eC (nI cd2) aTp (nI ez) (nI ep9_11) (nI em9_12)), (zaI aTp cTp 100 fTp)] := hD
          have hK : va_K (dC, dI) vwCl [(ceW, .int), (ceA, .int), (ceE, .int), (ceC, .int), (cTp, .int)] s := hK
          rcases hw_10 with ⟨rfl, hN, h_13, h_14, h_15⟩ | ⟨rfl, hN, h_13, h_14⟩
          · skip
            refine lv_if_ne (tgt := 57) hx hb dX5_read_49 (by decide) (fun _ => ?_) (fun c_16 => absurd c_16 (by decide))
            refine lv_aload_n hx hb dX5_read_57 rfl (lv_at hl 1 rfl) ?_
            refine va_get (D := (dC, dI)) (ci := 7) (v := .ref eW) (C := RX5) (T := TX5) (N := 11) hx hb hts kc_xRead_0 hown hK hP 4 rfl rfl 2 (by decide) (hts (.fieldLink RX5 15 "MistHeaps$Hill" "words" "[I") kc_xRead_6) (fun _ h9 => h9) rfl dX5_read_58 ?_
            refine lv_iload_n hx hb dX5_read_61 rfl (lv_at hl 2 rfl) ?_
            refine lv_iload hx hb dX5_read_62 (lv_at hl 0 rfl) ?_
            refine va_iast hx hb hK hP hD hS 0 0 rfl rfl (vp_in_nI (n := i) (N := 10) (by omega) (by omega)) dX5_read_64 (fun H locs hP hD hS => ?_)
            rw [nI_clamp (n := i) (by omega)] at hP hD
            have hP : va_P (dC, dI) vwCl [(zaI eW ceW 10 (upd feW2 i (nI jw))), (zaI eA ceA 10 feA2), (zaI eE ceE 10 feE2), (zaI eC ceC 100 feC2), (zo7iirrrririii bl sg2 (nI cl2) eW eA eE eC (nI cd2) aTp (nI ez) (nI ep9_11) (nI em9_12)), (zaI aTp cTp 100 fTp)] H := hP
            have hD : va_D A [(zaI eW ceW 10 (upd feW2 i (nI jw))), (zaI eA ceA 10 feA2), (zaI eE ceE 10 feE2), (zaI eC ceC 100 feC2), (zo7iirrrririii bl sg2 (nI cl2) eW eA eE eC (nI cd2) aTp (nI ez) (nI ep9_11) (nI em9_12)), (zaI aTp cTp 100 fTp)] := hD
            refine lv_aload_n hx hb dX5_read_65 rfl (lv_at hl 1 rfl) ?_
            refine va_get (D := (dC, dI)) (ci := 7) (v := .ref eA) (C := RX5) (T := TX5) (N := 11) hx hb hts kc_xRead_0 hown hK hP 4 rfl rfl 3 (by decide) (hts (.fieldLink RX5 19 "MistHeaps$Hill" "amounts" "[I") kc_xRead_7) (fun _ h9 => h9) rfl dX5_read_66 ?_
            refine lv_iload_n hx hb dX5_read_69 rfl (lv_at hl 2 rfl) ?_
            refine lv_aload_n hx hb dX5_read_70 rfl (lv_at hl 1 rfl) ?_
            refine va_get (D := (dC, dI)) (ci := 7) (v := .int (nI em9_12)) (C := RX5) (T := TX5) (N := 11) hx hb hts kc_xRead_0 hown hK hP 4 rfl rfl 10 (by decide) (hts (.fieldLink RX5 48 "MistHeaps$Hill" "number" "I") kc_xRead_8) (fun _ h9 => h9) rfl dX5_read_71 ?_
            refine va_iast hx hb hK hP hD hS 1 1 rfl rfl (vp_in_nI (n := i) (N := 10) (by omega) (by omega)) dX5_read_74 (fun H locs hP hD hS => ?_)
            rw [nI_clamp (n := i) (by omega)] at hP hD
            have hP : va_P (dC, dI) vwCl [(zaI eW ceW 10 (upd feW2 i (nI jw))), (zaI eA ceA 10 (upd feA2 i (nI em9_12))), (zaI eE ceE 10 feE2), (zaI eC ceC 100 feC2), (zo7iirrrririii bl sg2 (nI cl2) eW eA eE eC (nI cd2) aTp (nI ez) (nI ep9_11) (nI em9_12)), (zaI aTp cTp 100 fTp)] H := hP
            have hD : va_D A [(zaI eW ceW 10 (upd feW2 i (nI jw))), (zaI eA ceA 10 (upd feA2 i (nI em9_12))), (zaI eE ceE 10 feE2), (zaI eC ceC 100 feC2), (zo7iirrrririii bl sg2 (nI cl2) eW eA eE eC (nI cd2) aTp (nI ez) (nI ep9_11) (nI em9_12)), (zaI aTp cTp 100 fTp)] := hD
            refine lv_iload hx hb dX5_read_75 (lv_at hl 0 rfl) ?_
            refine lv_iconst (v := 2) hx hb dX5_read_77 (by decide) ?_
            refine lv_icmp_ne (tgt := 92) hx hb dX5_read_78 (by decide) (fun c_17 => ?_) (fun c_17 => ?_)
            · skip
              have c_17 : ¬ jw = 2 := fun q => c_17 ((nI_eq (a := jw) (b := 2) (by omega) (by omega)).mpr q)
              have hj2 : ¬ jw = 2 := c_17
              refine lv_aload_n hx hb dX5_read_92 rfl (lv_at hl 1 rfl) ?_
              refine lv_bipush (v := 32) hx hb dX5_read_93 (by decide) ?_
              have hPc := hP.sub (ws' := [(zo7iirrrririii bl sg2 (nI cl2) eW eA eE eC (nI cd2) aTp (nI ez) (nI ep9_11) (nI em9_12)), (zaI aTp cTp 100 fTp)]) [4, 5] rfl
              have hDc := hD.sub (ws' := [(zo7iirrrririii bl sg2 (nI cl2) eW eA eE eC (nI cd2) aTp (nI ez) (nI ep9_11) (nI em9_12)), (zaI aTp cTp 100 fTp)]) [4, 5] (by decide) rfl
              have hKc := hK.sub (tys' := [(cTp, .int)]) [4] rfl
              have hFc := va_free (wc := [(zo7iirrrririii bl sg2 (nI cl2) eW eA eE eC (nI cd2) aTp (nI ez) (nI ep9_11) (nI em9_12)), (zaI aTp cTp 100 fTp)]) hD hS hA [4, 5] rfl
              refine va_calli (va_runV (As := [.int 32]) (rest := []) ⟨hx, hb, hml, hown, hts⟩ (c_xReadSign l dC dI bl aTp eW eA eE eC 32 cl2 cd2 sg2 cTp fTp ez ep9_11 em9_12 ss H.size (hez) (by omega) (by decide) (by decide) (gX)) (cwV 1 hts gX5_read_X5_readSign rfl rfl rfl hd_yX5_readSign ⟨Nat.le_of_ble_eq_true rfl, Nat.le_of_ble_eq_true rfl⟩) ⟨fun a U g mk q => by obtain ⟨q0, q1, qP, qK, qD⟩ := q; exact ⟨q0, mvz g mk a q1, mvP g mk a qP, mvK g mk a qK, qD⟩, va_recv hK hP (ci := 7) (q := (RX5, TX5, 11)) (q0 := 4) rfl rfl, fun U hU hW => ⟨rfl, by rw [hU], by rw [hU]; exact hPc, va_K.moved hW.alike hKc, hDc.weaken (fun _ _ _ _ => trivial)⟩⟩ rfl rfl hl.1 rfl (lv_room (Nat.le_of_ble_eq_true rfl)) dX5_read_95 ⟨Nat.le_of_ble_eq_true rfl, Nat.le_of_ble_eq_true rfl⟩) hS (fun q _ h => hFc q h) hFc (fun r_18 u tC H1 locs htC hvm hw_19 hB hz1 hk1 hS => ?_)
              obtain ⟨ep9_20, rfl⟩ : ∃ z, z = u := ⟨_, rfl⟩
              try dsimp only at hw_19 hB
              obtain ⟨hP1, hK1, hD1⟩ := hB
              rw [htC] at hP1
              have hK1 := va_K.moved hvm.symm hK1
              obtain ⟨hP, hD⟩ := va_join (wr := [(zaI eW ceW 10 (upd feW2 i (nI jw))), (zaI eA ceA 10 (upd feA2 i (nI em9_12))), (zaI eE ceE 10 feE2), (zaI eC ceC 100 feC2)]) (w1 := [(zo7iirrrririii bl sg2 (nI cl2) eW eA eE eC (nI cd2) aTp (nI ez) (nI ep9_20) (nI em9_12)), (zaI aTp cTp 100 fTp)]) hP hD [4, 5] [0, 1, 2, 3] rfl rfl (by decide) (by decide) hk1 hFc hP1 hD1
              have hK := (hK.sub (tys' := [(ceW, .int), (ceA, .int), (ceE, .int), (ceC, .int)]) [0, 1, 2, 3] rfl).app hK1
              generalize H1 = H at hP hS ⊢
              have hP : va_P (dC, dI) vwCl [(zaI eW ceW 10 (upd feW2 i (nI jw))), (zaI eA ceA 10 (upd feA2 i (nI em9_12))), (zaI eE ceE 10 feE2), (zaI eC ceC 100 feC2), (zo7iirrrririii bl sg2 (nI cl2) eW eA eE eC (nI cd2) aTp (nI ez) (nI ep9_20) (nI em9_12)), (zaI aTp cTp 100 fTp)] H := hP
              have hD : va_D A [(zaI eW ceW 10 (upd feW2 i (nI jw))), (zaI eA ceA 10 (upd feA2 i (nI em9_12))), (zaI eE ceE 10 feE2), (zaI eC ceC 100 feC2), (zo7iirrrririii bl sg2 (nI cl2) eW eA eE eC (nI cd2) aTp (nI ez) (nI ep9_20) (nI em9_12)), (zaI aTp cTp 100 fTp)] := hD
              have hK : va_K (dC, dI) vwCl [(ceW, .int), (ceA, .int), (ceE, .int), (ceC, .int), (cTp, .int)] s := hK
              rcases hw_19 with ⟨rfl, hy32, h_21, e_22⟩ | ⟨rfl, hn32, e_22⟩
              · skip
                obtain rfl := (e_22).symm
                refine lv_if_eq (tgt := 109) hx hb dX5_read_98 (by decide) (fun c_23 => absurd c_23 (by decide)) (fun _ => ?_)
                refine lv_aload_n hx hb dX5_read_101 rfl (lv_at hl 1 rfl) ?_
                refine lv_iconst (v := 0) hx hb dX5_read_102 (by decide) ?_
                have hPc := hP.sub (ws' := [(zo7iirrrririii bl sg2 (nI cl2) eW eA eE eC (nI cd2) aTp (nI ez) (nI (ep9_11 + 1)) (nI em9_12)), (zaI aTp cTp 100 fTp), (zaI eC ceC 100 feC2)]) [4, 5, 3] rfl
                have hDc := hD.sub (ws' := [(zo7iirrrririii bl sg2 (nI cl2) eW eA eE eC (nI cd2) aTp (nI ez) (nI (ep9_11 + 1)) (nI em9_12)), (zaI aTp cTp 100 fTp), (zaI eC ceC 100 feC2)]) [4, 5, 3] (by decide) rfl
                have hKc := hK.sub (tys' := [(cTp, .int), (ceC, .int)]) [4, 3] rfl
                have hFc := va_free (wc := [(zo7iirrrririii bl sg2 (nI cl2) eW eA eE eC (nI cd2) aTp (nI ez) (nI (ep9_11 + 1)) (nI em9_12)), (zaI aTp cTp 100 fTp), (zaI eC ceC 100 feC2)]) hD hS hA [4, 5, 3] rfl
                refine va_calli (va_runV (As := [.int 0]) (rest := []) ⟨hx, hb, hml, hown, hts⟩ (c_xEither0 l dC dI sK sV bl aTp eW eA eE eC cl2 cd2 sg2 cTp ceC fTp feC2 ez (ep9_11 + 1) em9_12 ss (tkC C1) H.size (hez) (by omega) (by omega) ((hXT).mono (by omega)) (zC2) (gX)) (cwV 1 hts gX5_read_X5_readEither rfl rfl rfl hd_yX5_readEither ⟨Nat.le_of_ble_eq_true rfl, Nat.le_of_ble_eq_true rfl⟩) ⟨fun a U g mk q => by obtain ⟨q0, q1, qP, qK, qD, qhE⟩ := q; exact ⟨q0, mvz g mk a q1, mvP g mk a qP, mvK g mk a qK, qD, qhE.mv g mk a⟩, va_recv hK hP (ci := 7) (q := (RX5, TX5, 11)) (q0 := 4) rfl rfl, fun U hU hW => ⟨rfl, by rw [hU], by rw [hU]; exact hPc, va_K.moved hW.alike hKc, hDc.weaken (fun _ _ _ _ => trivial), hE.call hS hU hW (fun q h => hFc q h)⟩⟩ rfl rfl hl.1 rfl (lv_room (Nat.le_of_ble_eq_true rfl)) dX5_read_103 ⟨Nat.le_of_ble_eq_true rfl, Nat.le_of_ble_eq_true rfl⟩) hS (fun q _ h => hFc q h) hFc (fun r_24 u tC H1 locs htC hvm hw_25 hB hz1 hk1 hS => ?_)
                obtain ⟨ecd9_26, ep9_27, em9_28, feC9_29⟩ := u
                try dsimp only at hw_25 hB
                obtain ⟨hP1, hK1, hD1⟩ := hB
                rw [htC] at hP1
                have hK1 := va_K.moved hvm.symm hK1
                obtain ⟨hP, hD⟩ := va_join (wr := [(zaI eW ceW 10 (upd feW2 i (nI jw))), (zaI eA ceA 10 (upd feA2 i (nI em9_12))), (zaI eE ceE 10 feE2)]) (w1 := [(zo7iirrrririii bl sg2 (nI cl2) eW eA eE eC (nI ecd9_26) aTp (nI ez) (nI ep9_27) (nI em9_28)), (zaI aTp cTp 100 fTp), (zaI eC ceC 100 feC9_29)]) hP hD [4, 5, 3] [0, 1, 2] rfl rfl (by decide) (by decide) hk1 hFc hP1 hD1
                have hK := (hK.sub (tys' := [(ceW, .int), (ceA, .int), (ceE, .int)]) [0, 1, 2] rfl).app hK1
                generalize H1 = H at hP hS ⊢
                have hP : va_P (dC, dI) vwCl [(zaI eW ceW 10 (upd feW2 i (nI jw))), (zaI eA ceA 10 (upd feA2 i (nI em9_12))), (zaI eE ceE 10 feE2), (zo7iirrrririii bl sg2 (nI cl2) eW eA eE eC (nI ecd9_26) aTp (nI ez) (nI ep9_27) (nI em9_28)), (zaI aTp cTp 100 fTp), (zaI eC ceC 100 feC9_29)] H := hP
                have hD : va_D A [(zaI eW ceW 10 (upd feW2 i (nI jw))), (zaI eA ceA 10 (upd feA2 i (nI em9_12))), (zaI eE ceE 10 feE2), (zo7iirrrririii bl sg2 (nI cl2) eW eA eE eC (nI ecd9_26) aTp (nI ez) (nI ep9_27) (nI em9_28)), (zaI aTp cTp 100 fTp), (zaI eC ceC 100 feC9_29)] := hD
                have hK : va_K (dC, dI) vwCl [(ceW, .int), (ceA, .int), (ceE, .int), (cTp, .int), (ceC, .int)] s := hK
                rcases hw_25 with ⟨rfl, L_30, eP_31, h_32, h_33, h_34, h_35, hX_37, hC_36⟩ | ⟨rfl, eP_31, h_32, h_33, h_34, hC_36⟩
                · skip
                  refine lv_if_ne (tgt := 114) hx hb dX5_read_106 (by decide) (fun _ => ?_) (fun c_38 => absurd c_38 (by decide))
                  refine lv_aload_n hx hb dX5_read_114 rfl (lv_at hl 1 rfl) ?_
                  refine va_get (D := (dC, dI)) (ci := 7) (v := .ref eE) (C := RX5) (T := TX5) (N := 11) hx hb hts kc_xRead_0 hown hK hP 3 rfl rfl 4 (by decide) (hts (.fieldLink RX5 22 "MistHeaps$Hill" "ends" "[I") kc_xRead_9) (fun _ h9 => h9) rfl dX5_read_115 ?_
                  refine lv_iload_n hx hb dX5_read_118 rfl (lv_at hl 2 rfl) ?_
                  refine lv_aload_n hx hb dX5_read_119 rfl (lv_at hl 1 rfl) ?_
                  refine va_get (D := (dC, dI)) (ci := 7) (v := .int (nI ecd9_26)) (C := RX5) (T := TX5) (N := 11) hx hb hts kc_xRead_0 hown hK hP 3 rfl rfl 6 (by decide) (hts (.fieldLink RX5 37 "MistHeaps$Hill" "coded" "I") kc_xRead_4) (fun _ h9 => h9) rfl dX5_read_120 ?_
                  refine va_iast hx hb hK hP hD hS 2 2 rfl rfl (vp_in_nI (n := i) (N := 10) (by omega) (by omega)) dX5_read_123 (fun H locs hP hD hS => ?_)
                  rw [nI_clamp (n := i) (by omega)] at hP hD
                  have hP : va_P (dC, dI) vwCl [(zaI eW ceW 10 (upd feW2 i (nI jw))), (zaI eA ceA 10 (upd feA2 i (nI em9_12))), (zaI eE ceE 10 (upd feE2 i (nI ecd9_26))), (zo7iirrrririii bl sg2 (nI cl2) eW eA eE eC (nI ecd9_26) aTp (nI ez) (nI ep9_27) (nI em9_28)), (zaI aTp cTp 100 fTp), (zaI eC ceC 100 feC9_29)] H := hP
                  have hD : va_D A [(zaI eW ceW 10 (upd feW2 i (nI jw))), (zaI eA ceA 10 (upd feA2 i (nI em9_12))), (zaI eE ceE 10 (upd feE2 i (nI ecd9_26))), (zo7iirrrririii bl sg2 (nI cl2) eW eA eE eC (nI ecd9_26) aTp (nI ez) (nI ep9_27) (nI em9_28)), (zaI aTp cTp 100 fTp), (zaI eC ceC 100 feC9_29)] := hD
                  have hE_39 : ∀ k0, k0 < 10 → ∃ e0 : Nat, e0 ≤ 100 ∧ (upd feE2 i (nI ecd9_26)) k0 = nI e0 := end_up zE2 (by have := (hX_37).2.1; omega)
                  have hcl : pCl ss p2 = (some (jw, em9_12, L_30), ep9_27) := (wd_s hwd).trans (rs_5 hN hj2 hy32 eP_31)
                  have hE7 : pHl ss ez = pAf ss ez (9 - i) (C1 ++ [(jw, em9_12, L_30)]) (ep9_27) := hE9.trans (bf_s hcl)
                  have hX9 : XT feC9_29 ecd9_26 (tkC (C1 ++ [(jw, em9_12, L_30)])) (ep9_27) := by rw [tkC_add]; exact (hX_37).mono (by omega)
                  rw [show upd feE2 i (nI ecd9_26) = upd feE2 i (nI ecd9_26) from rfl] at hP hD
                  have hP : va_P (dC, dI) vwCl [(zaI eW ceW 10 (upd feW2 i (nI jw))), (zaI eA ceA 10 (upd feA2 i (nI em9_12))), (zaI eE ceE 10 (upd feE2 i (nI ecd9_26))), (zo7iirrrririii bl sg2 (nI cl2) eW eA eE eC (nI ecd9_26) aTp (nI ez) (nI ep9_27) (nI em9_28)), (zaI aTp cTp 100 fTp), (zaI eC ceC 100 feC9_29)] H := hP
                  have hD : va_D A [(zaI eW ceW 10 (upd feW2 i (nI jw))), (zaI eA ceA 10 (upd feA2 i (nI em9_12))), (zaI eE ceE 10 (upd feE2 i (nI ecd9_26))), (zo7iirrrririii bl sg2 (nI cl2) eW eA eE eC (nI ecd9_26) aTp (nI ez) (nI ep9_27) (nI em9_28)), (zaI aTp cTp 100 fTp), (zaI eC ceC 100 feC9_29)] := hD
                  refine lv_aload_n hx hb dX5_read_124 rfl (lv_at hl 1 rfl) ?_
                  refine lv_iload_n hx hb dX5_read_125 rfl (lv_at hl 2 rfl) ?_
                  refine lv_iconst (v := 1) hx hb dX5_read_126 (by decide) ?_
                  refine lv_iadd hx hb dX5_read_127 ?_
                  refine qi_as (y := nI (i + 1)) (nI_add i 1) ?_
                  refine va_put (D := (dC, dI)) (ci := 7) (v := .int (nI (i + 1))) (ty := .int) (C := RX5) (T := TX5) (N := 11) hx hb hts kc_xRead_0 tyX5 tyX5_ok nmX5 hown hK hP hD hS 3 rfl rfl 1 (by decide) (hts (.fieldLink RX5 59 "MistHeaps$Hill" "clauses" "I") kc_xRead_10) (fun _ h9 => h9) rfl (by decide +kernel) rfl rfl (Nat.le_of_ble_eq_true rfl) dX5_read_128 (fun H locs hP hD hS => ?_)
                  have hP : va_P (dC, dI) vwCl [(zaI eW ceW 10 (upd feW2 i (nI jw))), (zaI eA ceA 10 (upd feA2 i (nI em9_12))), (zaI eE ceE 10 (upd feE2 i (nI ecd9_26))), (zo7iirrrririii bl sg2 (nI (i + 1)) eW eA eE eC (nI ecd9_26) aTp (nI ez) (nI ep9_27) (nI em9_28)), (zaI aTp cTp 100 fTp), (zaI eC ceC 100 feC9_29)] H := hP
                  have hD : va_D A [(zaI eW ceW 10 (upd feW2 i (nI jw))), (zaI eA ceA 10 (upd feA2 i (nI em9_12))), (zaI eE ceE 10 (upd feE2 i (nI ecd9_26))), (zo7iirrrririii bl sg2 (nI (i + 1)) eW eA eE eC (nI ecd9_26) aTp (nI ez) (nI ep9_27) (nI em9_28)), (zaI aTp cTp 100 fTp), (zaI eC ceC 100 feC9_29)] := hD
                  refine lv_aload_n hx hb dX5_read_131 rfl (lv_at hl 1 rfl) ?_
                  refine va_get (D := (dC, dI)) (ci := 7) (v := .int (nI ep9_27)) (C := RX5) (T := TX5) (N := 11) hx hb hts kc_xRead_0 hown hK hP 3 rfl rfl 9 (by decide) (hts (.fieldLink RX5 34 "MistHeaps$Hill" "at" "I") kc_xRead_3) (fun _ h9 => h9) rfl dX5_read_132 ?_
                  refine lv_aload_n hx hb dX5_read_135 rfl (lv_at hl 1 rfl) ?_
                  refine va_get (D := (dC, dI)) (ci := 7) (v := .int (nI ez)) (C := RX5) (T := TX5) (N := 11) hx hb hts kc_xRead_0 hown hK hP 3 rfl rfl 8 (by decide) (hts (.fieldLink RX5 31 "MistHeaps$Hill" "size" "I") kc_xRead_2) (fun _ h9 => h9) rfl dX5_read_136 ?_
                  refine lv_icmp_ne (tgt := 144) hx hb dX5_read_139 (by decide) (fun c_40 => ?_) (fun c_40 => ?_)
                  · skip
                    have c_40 : ¬ ep9_27 = ez := fun q => c_40 ((nI_eq (a := ep9_27) (b := ez) (by omega) (by omega)).mpr q)
                    refine lv_aload_n hx hb dX5_read_144 rfl (lv_at hl 1 rfl) ?_
                    refine lv_bipush (v := 59) hx hb dX5_read_145 (by decide) ?_
                    have hPc := hP.sub (ws' := [(zo7iirrrririii bl sg2 (nI (i + 1)) eW eA eE eC (nI ecd9_26) aTp (nI ez) (nI ep9_27) (nI em9_28)), (zaI aTp cTp 100 fTp)]) [3, 4] rfl
                    have hDc := hD.sub (ws' := [(zo7iirrrririii bl sg2 (nI (i + 1)) eW eA eE eC (nI ecd9_26) aTp (nI ez) (nI ep9_27) (nI em9_28)), (zaI aTp cTp 100 fTp)]) [3, 4] (by decide) rfl
                    have hKc := hK.sub (tys' := [(cTp, .int)]) [3] rfl
                    have hFc := va_free (wc := [(zo7iirrrririii bl sg2 (nI (i + 1)) eW eA eE eC (nI ecd9_26) aTp (nI ez) (nI ep9_27) (nI em9_28)), (zaI aTp cTp 100 fTp)]) hD hS hA [3, 4] rfl
                    refine va_calli (va_runV (As := [.int 59]) (rest := []) ⟨hx, hb, hml, hown, hts⟩ (c_xReadSign l dC dI bl aTp eW eA eE eC 59 (i + 1) ecd9_26 sg2 cTp fTp ez ep9_27 em9_28 ss H.size (hez) (by omega) (by decide) (by decide) (gX)) (cwV 1 hts gX5_read_X5_readSign rfl rfl rfl hd_yX5_readSign ⟨Nat.le_of_ble_eq_true rfl, Nat.le_of_ble_eq_true rfl⟩) ⟨fun a U g mk q => by obtain ⟨q0, q1, qP, qK, qD⟩ := q; exact ⟨q0, mvz g mk a q1, mvP g mk a qP, mvK g mk a qK, qD⟩, va_recv hK hP (ci := 7) (q := (RX5, TX5, 11)) (q0 := 3) rfl rfl, fun U hU hW => ⟨rfl, by rw [hU], by rw [hU]; exact hPc, va_K.moved hW.alike hKc, hDc.weaken (fun _ _ _ _ => trivial)⟩⟩ rfl rfl hl.1 rfl (lv_room (Nat.le_of_ble_eq_true rfl)) dX5_read_147 ⟨Nat.le_of_ble_eq_true rfl, Nat.le_of_ble_eq_true rfl⟩) hS (fun q _ h => hFc q h) hFc (fun r_41 u tC H1 locs htC hvm hw_42 hB hz1 hk1 hS => ?_)
                    obtain ⟨ep9_43, rfl⟩ : ∃ z, z = u := ⟨_, rfl⟩
                    try dsimp only at hw_42 hB
                    obtain ⟨hP1, hK1, hD1⟩ := hB
                    rw [htC] at hP1
                    have hK1 := va_K.moved hvm.symm hK1
                    obtain ⟨hP, hD⟩ := va_join (wr := [(zaI eW ceW 10 (upd feW2 i (nI jw))), (zaI eA ceA 10 (upd feA2 i (nI em9_12))), (zaI eE ceE 10 (upd feE2 i (nI ecd9_26))), (zaI eC ceC 100 feC9_29)]) (w1 := [(zo7iirrrririii bl sg2 (nI (i + 1)) eW eA eE eC (nI ecd9_26) aTp (nI ez) (nI ep9_43) (nI em9_28)), (zaI aTp cTp 100 fTp)]) hP hD [3, 4] [0, 1, 2, 5] rfl rfl (by decide) (by decide) hk1 hFc hP1 hD1
                    have hK := (hK.sub (tys' := [(ceW, .int), (ceA, .int), (ceE, .int), (ceC, .int)]) [0, 1, 2, 4] rfl).app hK1
                    generalize H1 = H at hP hS ⊢
                    have hP : va_P (dC, dI) vwCl [(zaI eW ceW 10 (upd feW2 i (nI jw))), (zaI eA ceA 10 (upd feA2 i (nI em9_12))), (zaI eE ceE 10 (upd feE2 i (nI ecd9_26))), (zaI eC ceC 100 feC9_29), (zo7iirrrririii bl sg2 (nI (i + 1)) eW eA eE eC (nI ecd9_26) aTp (nI ez) (nI ep9_43) (nI em9_28)), (zaI aTp cTp 100 fTp)] H := hP
                    have hD : va_D A [(zaI eW ceW 10 (upd feW2 i (nI jw))), (zaI eA ceA 10 (upd feA2 i (nI em9_12))), (zaI eE ceE 10 (upd feE2 i (nI ecd9_26))), (zaI eC ceC 100 feC9_29), (zo7iirrrririii bl sg2 (nI (i + 1)) eW eA eE eC (nI ecd9_26) aTp (nI ez) (nI ep9_43) (nI em9_28)), (zaI aTp cTp 100 fTp)] := hD
                    have hK : va_K (dC, dI) vwCl [(ceW, .int), (ceA, .int), (ceE, .int), (ceC, .int), (cTp, .int)] s := hK
                    rcases hw_42 with ⟨rfl, hy59, h_44, e_45⟩ | ⟨rfl, hn59, e_45⟩
                    · skip
                      obtain rfl := (e_45).symm
                      refine lv_if_ne (tgt := 158) hx hb dX5_read_150 (by decide) (fun _ => ?_) (fun c_46 => absurd c_46 (by decide))
                      refine lv_iinc (v := nI (i + 1)) (lv' := [(3, .int (nI (i + 1))), (4, .int (nI jw)), (0, .ref bl)]) hx hb dX5_read_158 hl (k := 2) rfl (nI_add i 1) (by decide) rfl (fun ls hl => ?_)
                      refine lv_goto (tgt := 27) hx hb dX5_read_161 (by decide) ?_
                      have hR9 : RW (i + 1) (upd feW2 i (nI jw)) (upd feA2 i (nI em9_12)) (upd feE2 i (nI ecd9_26)) (C1 ++ [(jw, em9_12, L_30)]) := RW.add hRW ((congrArg List.length (tkC_add (C := C1) (c := (jw, em9_12, L_30)))).symm.trans (hX9).1)
                      have hE8 : (i + 1 < 10 ∧ pHl ss ez = pBf ss ez (9 - (i + 1)) (C1 ++ [(jw, em9_12, L_30)]) (ep9_27 + 1)) ∨ (i + 1 = 10 ∧ 1 ≤ ep9_27 + 1 ∧ pHl ss ez = (none, (ep9_27 + 1) - 1)) := by
                        rcases Nat.lt_or_ge (i + 1) 10 with z | z
                        · refine Or.inl ⟨z, ?_⟩
                          rw [hE7, show 9 - i = (9 - (i + 1)) + 1 by omega]
                          exact af_go (by omega) hy59
                        · refine Or.inr ⟨by omega, by omega, ?_⟩
                          rw [hE7, show 9 - i = 0 by omega]
                          exact af_0 (by omega)
                      exact ih27 (i + 1) _ _ _ _ _ _ _ _ _ ((C1 ++ [(jw, em9_12, L_30)])) (by omega) (by omega) (by omega) (by have := (hX9).2.1; omega) (hE_39) (hC_36) (hE8) (hR9) ((hX9).mono (by omega)) (hsg.trans (sg_ad hj2)) _ _ (hK.sub [4, 0, 1, 2, 3] rfl) (hP.sub [4, 5, 0, 1, 2, 3] rfl) (hD.sub [4, 5, 0, 1, 2, 3] (by decide) rfl) hS ls (lv_sub hl [2, 0] rfl)
                    · skip
                      obtain rfl := (e_45).symm
                      refine lv_if_ne (tgt := 158) hx hb dX5_read_150 (by decide) (fun c_47 => absurd c_47 (by decide)) (fun _ => ?_)
                      refine lv_aload_n hx hb dX5_read_153 rfl (lv_at hl 1 rfl) ?_
                      refine va_get (D := (dC, dI)) (ci := 7) (v := .int (nI ep9_27)) (C := RX5) (T := TX5) (N := 11) hx hb hts kc_xRead_0 hown hK hP 4 rfl rfl 9 (by decide) (hts (.fieldLink RX5 34 "MistHeaps$Hill" "at" "I") kc_xRead_3) (fun _ h9 => h9) rfl dX5_read_154 ?_
                      rw [hQ]
                      have hP9 := hP.sub (ws' := [(zo7iirrrririii bl sg2 (nI (i + 1)) eW eA eE eC (nI ecd9_26) aTp (nI ez) (nI ep9_27) (nI em9_28)), (zaI aTp cTp 100 fTp), (zaI eW ceW 10 (upd feW2 i (nI jw))), (zaI eA ceA 10 (upd feA2 i (nI em9_12))), (zaI eE ceE 10 (upd feE2 i (nI ecd9_26))), (zaI eC ceC 100 feC9_29)]) [4, 5, 0, 1, 2, 3] rfl
                      have hD9 := hD.sub (ws' := [(zo7iirrrririii bl sg2 (nI (i + 1)) eW eA eE eC (nI ecd9_26) aTp (nI ez) (nI ep9_27) (nI em9_28)), (zaI aTp cTp 100 fTp), (zaI eW ceW 10 (upd feW2 i (nI jw))), (zaI eA ceA 10 (upd feA2 i (nI em9_12))), (zaI eE ceE 10 (upd feE2 i (nI ecd9_26))), (zaI eC ceC 100 feC9_29)]) [4, 5, 0, 1, 2, 3] (by decide) rfl
                      have hK9 := hK.sub (tys' := [(cTp, .int), (ceW, .int), (ceA, .int), (ceE, .int), (ceC, .int)]) [4, 0, 1, 2, 3] rfl
                      exact W.iret (v := nI ep9_27) hx hb hr (fun tQ htQ hWQ => ⟨⟨(nI ep9_27), (sg2, (i + 1), ecd9_26, ep9_27, em9_28, (upd feW2 i (nI jw)), (upd feA2 i (nI em9_12)), (upd feE2 i (nI ecd9_26)), feC9_29), rfl, ⟨⟨by omega, by omega, hE_39, hC_36⟩, Or.inr ⟨ep9_27, by omega, rfl, hE7.trans (af_n (by omega) hn59)⟩⟩, by rw [htQ]; exact hP9, va_K.moved hWQ.alike hK9, hD9⟩, hS.F htQ⟩) hS.2.2 dX5_read_157
                  · skip
                    have c_40 : ep9_27 = ez := (nI_eq (a := ep9_27) (b := ez) (by omega) (by omega)).mp c_40
                    refine lv_iconst (v := (-1)) hx hb dX5_read_142 (by decide) ?_
                    rw [hQ]
                    have hP9 := hP.sub (ws' := [(zo7iirrrririii bl sg2 (nI (i + 1)) eW eA eE eC (nI ecd9_26) aTp (nI ez) (nI ep9_27) (nI em9_28)), (zaI aTp cTp 100 fTp), (zaI eW ceW 10 (upd feW2 i (nI jw))), (zaI eA ceA 10 (upd feA2 i (nI em9_12))), (zaI eE ceE 10 (upd feE2 i (nI ecd9_26))), (zaI eC ceC 100 feC9_29)]) [3, 4, 0, 1, 2, 5] rfl
                    have hD9 := hD.sub (ws' := [(zo7iirrrririii bl sg2 (nI (i + 1)) eW eA eE eC (nI ecd9_26) aTp (nI ez) (nI ep9_27) (nI em9_28)), (zaI aTp cTp 100 fTp), (zaI eW ceW 10 (upd feW2 i (nI jw))), (zaI eA ceA 10 (upd feA2 i (nI em9_12))), (zaI eE ceE 10 (upd feE2 i (nI ecd9_26))), (zaI eC ceC 100 feC9_29)]) [3, 4, 0, 1, 2, 5] (by decide) rfl
                    have hK9 := hK.sub (tys' := [(cTp, .int), (ceW, .int), (ceA, .int), (ceE, .int), (ceC, .int)]) [3, 0, 1, 2, 4] rfl
                    exact W.iret (v := (-1)) hx hb hr (fun tQ htQ hWQ => ⟨⟨(-1), (sg2, (i + 1), ecd9_26, ep9_27, em9_28, (upd feW2 i (nI jw)), (upd feA2 i (nI em9_12)), (upd feE2 i (nI ecd9_26)), feC9_29), rfl, ⟨⟨by omega, by omega, hE_39, hC_36⟩, Or.inl ⟨rfl, C1 ++ [(jw, em9_12, L_30)], by rw [hE7, af_e (by omega)]; exact congrArg (fun z => (some (C1 ++ [(jw, em9_12, L_30)]), z)) (by omega), (RW.add hRW ((congrArg List.length (tkC_add (C := C1) (c := (jw, em9_12, L_30)))).symm.trans (hX9).1)).hc (hX9) (hsg.trans (sg_ad hj2)) (by omega)⟩⟩, by rw [htQ]; exact hP9, va_K.moved hWQ.alike hK9, hD9⟩, hS.F htQ⟩) hS.2.2 dX5_read_143
                · skip
                  refine lv_if_ne (tgt := 114) hx hb dX5_read_106 (by decide) (fun c_48 => absurd c_48 (by decide)) (fun _ => ?_)
                  refine lv_aload_n hx hb dX5_read_109 rfl (lv_at hl 1 rfl) ?_
                  refine va_get (D := (dC, dI)) (ci := 7) (v := .int (nI ep9_27)) (C := RX5) (T := TX5) (N := 11) hx hb hts kc_xRead_0 hown hK hP 3 rfl rfl 9 (by decide) (hts (.fieldLink RX5 34 "MistHeaps$Hill" "at" "I") kc_xRead_3) (fun _ h9 => h9) rfl dX5_read_110 ?_
                  rw [hQ]
                  have hP9 := hP.sub (ws' := [(zo7iirrrririii bl sg2 (nI cl2) eW eA eE eC (nI ecd9_26) aTp (nI ez) (nI ep9_27) (nI em9_28)), (zaI aTp cTp 100 fTp), (zaI eW ceW 10 (upd feW2 i (nI jw))), (zaI eA ceA 10 (upd feA2 i (nI em9_12))), (zaI eE ceE 10 feE2), (zaI eC ceC 100 feC9_29)]) [3, 4, 0, 1, 2, 5] rfl
                  have hD9 := hD.sub (ws' := [(zo7iirrrririii bl sg2 (nI cl2) eW eA eE eC (nI ecd9_26) aTp (nI ez) (nI ep9_27) (nI em9_28)), (zaI aTp cTp 100 fTp), (zaI eW ceW 10 (upd feW2 i (nI jw))), (zaI eA ceA 10 (upd feA2 i (nI em9_12))), (zaI eE ceE 10 feE2), (zaI eC ceC 100 feC9_29)]) [3, 4, 0, 1, 2, 5] (by decide) rfl
                  have hK9 := hK.sub (tys' := [(cTp, .int), (ceW, .int), (ceA, .int), (ceE, .int), (ceC, .int)]) [3, 0, 1, 2, 4] rfl
                  exact W.iret (v := nI ep9_27) hx hb hr (fun tQ htQ hWQ => ⟨⟨(nI ep9_27), (sg2, cl2, ecd9_26, ep9_27, em9_28, (upd feW2 i (nI jw)), (upd feA2 i (nI em9_12)), feE2, feC9_29), rfl, ⟨⟨by omega, by omega, zE2, hC_36⟩, Or.inr ⟨ep9_27, by omega, rfl, hE9.trans (bf_n ((wd_s hwd).trans (rs_4 hN hj2 hy32 eP_31)))⟩⟩, by rw [htQ]; exact hP9, va_K.moved hWQ.alike hK9, hD9⟩, hS.F htQ⟩) hS.2.2 dX5_read_113
              · skip
                obtain rfl := (e_22).symm
                refine lv_if_eq (tgt := 109) hx hb dX5_read_98 (by decide) (fun _ => ?_) (fun c_49 => absurd c_49 (by decide))
                refine lv_aload_n hx hb dX5_read_109 rfl (lv_at hl 1 rfl) ?_
                refine va_get (D := (dC, dI)) (ci := 7) (v := .int (nI ep9_11)) (C := RX5) (T := TX5) (N := 11) hx hb hts kc_xRead_0 hown hK hP 4 rfl rfl 9 (by decide) (hts (.fieldLink RX5 34 "MistHeaps$Hill" "at" "I") kc_xRead_3) (fun _ h9 => h9) rfl dX5_read_110 ?_
                rw [hQ]
                have hP9 := hP.sub (ws' := [(zo7iirrrririii bl sg2 (nI cl2) eW eA eE eC (nI cd2) aTp (nI ez) (nI ep9_11) (nI em9_12)), (zaI aTp cTp 100 fTp), (zaI eW ceW 10 (upd feW2 i (nI jw))), (zaI eA ceA 10 (upd feA2 i (nI em9_12))), (zaI eE ceE 10 feE2), (zaI eC ceC 100 feC2)]) [4, 5, 0, 1, 2, 3] rfl
                have hD9 := hD.sub (ws' := [(zo7iirrrririii bl sg2 (nI cl2) eW eA eE eC (nI cd2) aTp (nI ez) (nI ep9_11) (nI em9_12)), (zaI aTp cTp 100 fTp), (zaI eW ceW 10 (upd feW2 i (nI jw))), (zaI eA ceA 10 (upd feA2 i (nI em9_12))), (zaI eE ceE 10 feE2), (zaI eC ceC 100 feC2)]) [4, 5, 0, 1, 2, 3] (by decide) rfl
                have hK9 := hK.sub (tys' := [(cTp, .int), (ceW, .int), (ceA, .int), (ceE, .int), (ceC, .int)]) [4, 0, 1, 2, 3] rfl
                exact W.iret (v := nI ep9_11) hx hb hr (fun tQ htQ hWQ => ⟨⟨(nI ep9_11), (sg2, cl2, cd2, ep9_11, em9_12, (upd feW2 i (nI jw)), (upd feA2 i (nI em9_12)), feE2, feC2), rfl, ⟨⟨by omega, by omega, zE2, zC2⟩, Or.inr ⟨ep9_11, by omega, rfl, hE9.trans (bf_n ((wd_s hwd).trans (rs_3 hN hj2 hn32)))⟩⟩, by rw [htQ]; exact hP9, va_K.moved hWQ.alike hK9, hD9⟩, hS.F htQ⟩) hS.2.2 dX5_read_113
            · skip
              have c_17 : jw = 2 := (nI_eq (a := jw) (b := 2) (by omega) (by omega)).mp c_17
              have hj2 : jw = 2 := c_17
              refine lv_aload_n hx hb dX5_read_81 rfl (lv_at hl 1 rfl) ?_
              refine lv_aload_n hx hb dX5_read_82 rfl (lv_at hl 1 rfl) ?_
              refine va_get (D := (dC, dI)) (ci := 7) (v := .int (nI em9_12)) (C := RX5) (T := TX5) (N := 11) hx hb hts kc_xRead_0 hown hK hP 4 rfl rfl 10 (by decide) (hts (.fieldLink RX5 48 "MistHeaps$Hill" "number" "I") kc_xRead_8) (fun _ h9 => h9) rfl dX5_read_83 ?_
              refine va_put (D := (dC, dI)) (ci := 7) (v := .int (nI em9_12)) (ty := .int) (C := RX5) (T := TX5) (N := 11) hx hb hts kc_xRead_0 tyX5 tyX5_ok nmX5 hown hK hP hD hS 4 rfl rfl 0 (by decide) (hts (.fieldLink RX5 11 "MistHeaps$Hill" "sight" "I") kc_xRead_5) (fun _ h9 => h9) rfl (by decide +kernel) rfl rfl (Nat.le_of_ble_eq_true rfl) dX5_read_86 (fun H locs hP hD hS => ?_)
              have hP : va_P (dC, dI) vwCl [(zaI eW ceW 10 (upd feW2 i (nI jw))), (zaI eA ceA 10 (upd feA2 i (nI em9_12))), (zaI eE ceE 10 feE2), (zaI eC ceC 100 feC2), (zo7iirrrririii bl (nI em9_12) (nI cl2) eW eA eE eC (nI cd2) aTp (nI ez) (nI ep9_11) (nI em9_12)), (zaI aTp cTp 100 fTp)] H := hP
              have hD : va_D A [(zaI eW ceW 10 (upd feW2 i (nI jw))), (zaI eA ceA 10 (upd feA2 i (nI em9_12))), (zaI eE ceE 10 feE2), (zaI eC ceC 100 feC2), (zo7iirrrririii bl (nI em9_12) (nI cl2) eW eA eE eC (nI cd2) aTp (nI ez) (nI ep9_11) (nI em9_12)), (zaI aTp cTp 100 fTp)] := hD
              refine lv_goto (tgt := 114) hx hb dX5_read_89 (by decide) ?_
              refine lv_aload_n hx hb dX5_read_114 rfl (lv_at hl 1 rfl) ?_
              refine va_get (D := (dC, dI)) (ci := 7) (v := .ref eE) (C := RX5) (T := TX5) (N := 11) hx hb hts kc_xRead_0 hown hK hP 4 rfl rfl 4 (by decide) (hts (.fieldLink RX5 22 "MistHeaps$Hill" "ends" "[I") kc_xRead_9) (fun _ h9 => h9) rfl dX5_read_115 ?_
              refine lv_iload_n hx hb dX5_read_118 rfl (lv_at hl 2 rfl) ?_
              refine lv_aload_n hx hb dX5_read_119 rfl (lv_at hl 1 rfl) ?_
              refine va_get (D := (dC, dI)) (ci := 7) (v := .int (nI cd2)) (C := RX5) (T := TX5) (N := 11) hx hb hts kc_xRead_0 hown hK hP 4 rfl rfl 6 (by decide) (hts (.fieldLink RX5 37 "MistHeaps$Hill" "coded" "I") kc_xRead_4) (fun _ h9 => h9) rfl dX5_read_120 ?_
              refine va_iast hx hb hK hP hD hS 2 2 rfl rfl (vp_in_nI (n := i) (N := 10) (by omega) (by omega)) dX5_read_123 (fun H locs hP hD hS => ?_)
              rw [nI_clamp (n := i) (by omega)] at hP hD
              have hP : va_P (dC, dI) vwCl [(zaI eW ceW 10 (upd feW2 i (nI jw))), (zaI eA ceA 10 (upd feA2 i (nI em9_12))), (zaI eE ceE 10 (upd feE2 i (nI cd2))), (zaI eC ceC 100 feC2), (zo7iirrrririii bl (nI em9_12) (nI cl2) eW eA eE eC (nI cd2) aTp (nI ez) (nI ep9_11) (nI em9_12)), (zaI aTp cTp 100 fTp)] H := hP
              have hD : va_D A [(zaI eW ceW 10 (upd feW2 i (nI jw))), (zaI eA ceA 10 (upd feA2 i (nI em9_12))), (zaI eE ceE 10 (upd feE2 i (nI cd2))), (zaI eC ceC 100 feC2), (zo7iirrrririii bl (nI em9_12) (nI cl2) eW eA eE eC (nI cd2) aTp (nI ez) (nI ep9_11) (nI em9_12)), (zaI aTp cTp 100 fTp)] := hD
              have hE_50 : ∀ k0, k0 < 10 → ∃ e0 : Nat, e0 ≤ 100 ∧ (upd feE2 i (nI cd2)) k0 = nI e0 := end_up zE2 (by have := (hXT).2.1; omega)
              have hcl : pCl ss p2 = (some (jw, em9_12, []), ep9_11) := (wd_s hwd).trans ((rs_2 hN hj2).trans (by rw [hj2]))
              have hE7 : pHl ss ez = pAf ss ez (9 - i) (C1 ++ [(jw, em9_12, [])]) (ep9_11) := hE9.trans (bf_s hcl)
              have hX9 : XT feC2 cd2 (tkC (C1 ++ [(jw, em9_12, [])])) (ep9_11) := by rw [tkC_add]; exact (by rw [show tkC C1 ++ (jw, em9_12, ([] : List Nat)).2.2 = tkC C1 from List.append_nil _]; exact (hXT).mono (by omega))
              rw [show upd feE2 i (nI cd2) = upd feE2 i (nI cd2) from rfl] at hP hD
              have hP : va_P (dC, dI) vwCl [(zaI eW ceW 10 (upd feW2 i (nI jw))), (zaI eA ceA 10 (upd feA2 i (nI em9_12))), (zaI eE ceE 10 (upd feE2 i (nI cd2))), (zaI eC ceC 100 feC2), (zo7iirrrririii bl (nI em9_12) (nI cl2) eW eA eE eC (nI cd2) aTp (nI ez) (nI ep9_11) (nI em9_12)), (zaI aTp cTp 100 fTp)] H := hP
              have hD : va_D A [(zaI eW ceW 10 (upd feW2 i (nI jw))), (zaI eA ceA 10 (upd feA2 i (nI em9_12))), (zaI eE ceE 10 (upd feE2 i (nI cd2))), (zaI eC ceC 100 feC2), (zo7iirrrririii bl (nI em9_12) (nI cl2) eW eA eE eC (nI cd2) aTp (nI ez) (nI ep9_11) (nI em9_12)), (zaI aTp cTp 100 fTp)] := hD
              refine lv_aload_n hx hb dX5_read_124 rfl (lv_at hl 1 rfl) ?_
              refine lv_iload_n hx hb dX5_read_125 rfl (lv_at hl 2 rfl) ?_
              refine lv_iconst (v := 1) hx hb dX5_read_126 (by decide) ?_
              refine lv_iadd hx hb dX5_read_127 ?_
              refine qi_as (y := nI (i + 1)) (nI_add i 1) ?_
              refine va_put (D := (dC, dI)) (ci := 7) (v := .int (nI (i + 1))) (ty := .int) (C := RX5) (T := TX5) (N := 11) hx hb hts kc_xRead_0 tyX5 tyX5_ok nmX5 hown hK hP hD hS 4 rfl rfl 1 (by decide) (hts (.fieldLink RX5 59 "MistHeaps$Hill" "clauses" "I") kc_xRead_10) (fun _ h9 => h9) rfl (by decide +kernel) rfl rfl (Nat.le_of_ble_eq_true rfl) dX5_read_128 (fun H locs hP hD hS => ?_)
              have hP : va_P (dC, dI) vwCl [(zaI eW ceW 10 (upd feW2 i (nI jw))), (zaI eA ceA 10 (upd feA2 i (nI em9_12))), (zaI eE ceE 10 (upd feE2 i (nI cd2))), (zaI eC ceC 100 feC2), (zo7iirrrririii bl (nI em9_12) (nI (i + 1)) eW eA eE eC (nI cd2) aTp (nI ez) (nI ep9_11) (nI em9_12)), (zaI aTp cTp 100 fTp)] H := hP
              have hD : va_D A [(zaI eW ceW 10 (upd feW2 i (nI jw))), (zaI eA ceA 10 (upd feA2 i (nI em9_12))), (zaI eE ceE 10 (upd feE2 i (nI cd2))), (zaI eC ceC 100 feC2), (zo7iirrrririii bl (nI em9_12) (nI (i + 1)) eW eA eE eC (nI cd2) aTp (nI ez) (nI ep9_11) (nI em9_12)), (zaI aTp cTp 100 fTp)] := hD
              refine lv_aload_n hx hb dX5_read_131 rfl (lv_at hl 1 rfl) ?_
              refine va_get (D := (dC, dI)) (ci := 7) (v := .int (nI ep9_11)) (C := RX5) (T := TX5) (N := 11) hx hb hts kc_xRead_0 hown hK hP 4 rfl rfl 9 (by decide) (hts (.fieldLink RX5 34 "MistHeaps$Hill" "at" "I") kc_xRead_3) (fun _ h9 => h9) rfl dX5_read_132 ?_
              refine lv_aload_n hx hb dX5_read_135 rfl (lv_at hl 1 rfl) ?_
              refine va_get (D := (dC, dI)) (ci := 7) (v := .int (nI ez)) (C := RX5) (T := TX5) (N := 11) hx hb hts kc_xRead_0 hown hK hP 4 rfl rfl 8 (by decide) (hts (.fieldLink RX5 31 "MistHeaps$Hill" "size" "I") kc_xRead_2) (fun _ h9 => h9) rfl dX5_read_136 ?_
              refine lv_icmp_ne (tgt := 144) hx hb dX5_read_139 (by decide) (fun c_51 => ?_) (fun c_51 => ?_)
              · skip
                have c_51 : ¬ ep9_11 = ez := fun q => c_51 ((nI_eq (a := ep9_11) (b := ez) (by omega) (by omega)).mpr q)
                refine lv_aload_n hx hb dX5_read_144 rfl (lv_at hl 1 rfl) ?_
                refine lv_bipush (v := 59) hx hb dX5_read_145 (by decide) ?_
                have hPc := hP.sub (ws' := [(zo7iirrrririii bl (nI em9_12) (nI (i + 1)) eW eA eE eC (nI cd2) aTp (nI ez) (nI ep9_11) (nI em9_12)), (zaI aTp cTp 100 fTp)]) [4, 5] rfl
                have hDc := hD.sub (ws' := [(zo7iirrrririii bl (nI em9_12) (nI (i + 1)) eW eA eE eC (nI cd2) aTp (nI ez) (nI ep9_11) (nI em9_12)), (zaI aTp cTp 100 fTp)]) [4, 5] (by decide) rfl
                have hKc := hK.sub (tys' := [(cTp, .int)]) [4] rfl
                have hFc := va_free (wc := [(zo7iirrrririii bl (nI em9_12) (nI (i + 1)) eW eA eE eC (nI cd2) aTp (nI ez) (nI ep9_11) (nI em9_12)), (zaI aTp cTp 100 fTp)]) hD hS hA [4, 5] rfl
                refine va_calli (va_runV (As := [.int 59]) (rest := []) ⟨hx, hb, hml, hown, hts⟩ (c_xReadSign l dC dI bl aTp eW eA eE eC 59 (i + 1) cd2 (nI em9_12) cTp fTp ez ep9_11 em9_12 ss H.size (hez) (by omega) (by decide) (by decide) (gX)) (cwV 1 hts gX5_read_X5_readSign rfl rfl rfl hd_yX5_readSign ⟨Nat.le_of_ble_eq_true rfl, Nat.le_of_ble_eq_true rfl⟩) ⟨fun a U g mk q => by obtain ⟨q0, q1, qP, qK, qD⟩ := q; exact ⟨q0, mvz g mk a q1, mvP g mk a qP, mvK g mk a qK, qD⟩, va_recv hK hP (ci := 7) (q := (RX5, TX5, 11)) (q0 := 4) rfl rfl, fun U hU hW => ⟨rfl, by rw [hU], by rw [hU]; exact hPc, va_K.moved hW.alike hKc, hDc.weaken (fun _ _ _ _ => trivial)⟩⟩ rfl rfl hl.1 rfl (lv_room (Nat.le_of_ble_eq_true rfl)) dX5_read_147 ⟨Nat.le_of_ble_eq_true rfl, Nat.le_of_ble_eq_true rfl⟩) hS (fun q _ h => hFc q h) hFc (fun r_52 u tC H1 locs htC hvm hw_53 hB hz1 hk1 hS => ?_)
                obtain ⟨ep9_54, rfl⟩ : ∃ z, z = u := ⟨_, rfl⟩
                try dsimp only at hw_53 hB
                obtain ⟨hP1, hK1, hD1⟩ := hB
                rw [htC] at hP1
                have hK1 := va_K.moved hvm.symm hK1
                obtain ⟨hP, hD⟩ := va_join (wr := [(zaI eW ceW 10 (upd feW2 i (nI jw))), (zaI eA ceA 10 (upd feA2 i (nI em9_12))), (zaI eE ceE 10 (upd feE2 i (nI cd2))), (zaI eC ceC 100 feC2)]) (w1 := [(zo7iirrrririii bl (nI em9_12) (nI (i + 1)) eW eA eE eC (nI cd2) aTp (nI ez) (nI ep9_54) (nI em9_12)), (zaI aTp cTp 100 fTp)]) hP hD [4, 5] [0, 1, 2, 3] rfl rfl (by decide) (by decide) hk1 hFc hP1 hD1
                have hK := (hK.sub (tys' := [(ceW, .int), (ceA, .int), (ceE, .int), (ceC, .int)]) [0, 1, 2, 3] rfl).app hK1
                generalize H1 = H at hP hS ⊢
                have hP : va_P (dC, dI) vwCl [(zaI eW ceW 10 (upd feW2 i (nI jw))), (zaI eA ceA 10 (upd feA2 i (nI em9_12))), (zaI eE ceE 10 (upd feE2 i (nI cd2))), (zaI eC ceC 100 feC2), (zo7iirrrririii bl (nI em9_12) (nI (i + 1)) eW eA eE eC (nI cd2) aTp (nI ez) (nI ep9_54) (nI em9_12)), (zaI aTp cTp 100 fTp)] H := hP
                have hD : va_D A [(zaI eW ceW 10 (upd feW2 i (nI jw))), (zaI eA ceA 10 (upd feA2 i (nI em9_12))), (zaI eE ceE 10 (upd feE2 i (nI cd2))), (zaI eC ceC 100 feC2), (zo7iirrrririii bl (nI em9_12) (nI (i + 1)) eW eA eE eC (nI cd2) aTp (nI ez) (nI ep9_54) (nI em9_12)), (zaI aTp cTp 100 fTp)] := hD
                have hK : va_K (dC, dI) vwCl [(ceW, .int), (ceA, .int), (ceE, .int), (ceC, .int), (cTp, .int)] s := hK
                rcases hw_53 with ⟨rfl, hy59, h_55, e_56⟩ | ⟨rfl, hn59, e_56⟩
                · skip
                  obtain rfl := (e_56).symm
                  refine lv_if_ne (tgt := 158) hx hb dX5_read_150 (by decide) (fun _ => ?_) (fun c_57 => absurd c_57 (by decide))
                  refine lv_iinc (v := nI (i + 1)) (lv' := [(3, .int (nI (i + 1))), (4, .int (nI jw)), (0, .ref bl)]) hx hb dX5_read_158 hl (k := 2) rfl (nI_add i 1) (by decide) rfl (fun ls hl => ?_)
                  refine lv_goto (tgt := 27) hx hb dX5_read_161 (by decide) ?_
                  have hR9 : RW (i + 1) (upd feW2 i (nI jw)) (upd feA2 i (nI em9_12)) (upd feE2 i (nI cd2)) (C1 ++ [(jw, em9_12, [])]) := RW.add hRW ((congrArg List.length (tkC_add (C := C1) (c := (jw, em9_12, [])))).symm.trans (hX9).1)
                  have hE8 : (i + 1 < 10 ∧ pHl ss ez = pBf ss ez (9 - (i + 1)) (C1 ++ [(jw, em9_12, [])]) (ep9_11 + 1)) ∨ (i + 1 = 10 ∧ 1 ≤ ep9_11 + 1 ∧ pHl ss ez = (none, (ep9_11 + 1) - 1)) := by
                    rcases Nat.lt_or_ge (i + 1) 10 with z | z
                    · refine Or.inl ⟨z, ?_⟩
                      rw [hE7, show 9 - i = (9 - (i + 1)) + 1 by omega]
                      exact af_go (by omega) hy59
                    · refine Or.inr ⟨by omega, by omega, ?_⟩
                      rw [hE7, show 9 - i = 0 by omega]
                      exact af_0 (by omega)
                  exact ih27 (i + 1) _ _ _ _ _ _ _ _ _ ((C1 ++ [(jw, em9_12, [])])) (by omega) (by omega) (by omega) (by have := (hX9).2.1; omega) (hE_50) (zC2) (hE8) (hR9) ((hX9).mono (by omega)) (sg_a2 hj2) _ _ (hK.sub [4, 0, 1, 2, 3] rfl) (hP.sub [4, 5, 0, 1, 2, 3] rfl) (hD.sub [4, 5, 0, 1, 2, 3] (by decide) rfl) hS ls (lv_sub hl [2, 0] rfl)
                · skip
                  obtain rfl := (e_56).symm
                  refine lv_if_ne (tgt := 158) hx hb dX5_read_150 (by decide) (fun c_58 => absurd c_58 (by decide)) (fun _ => ?_)
                  refine lv_aload_n hx hb dX5_read_153 rfl (lv_at hl 1 rfl) ?_
                  refine va_get (D := (dC, dI)) (ci := 7) (v := .int (nI ep9_11)) (C := RX5) (T := TX5) (N := 11) hx hb hts kc_xRead_0 hown hK hP 4 rfl rfl 9 (by decide) (hts (.fieldLink RX5 34 "MistHeaps$Hill" "at" "I") kc_xRead_3) (fun _ h9 => h9) rfl dX5_read_154 ?_
                  rw [hQ]
                  have hP9 := hP.sub (ws' := [(zo7iirrrririii bl (nI em9_12) (nI (i + 1)) eW eA eE eC (nI cd2) aTp (nI ez) (nI ep9_11) (nI em9_12)), (zaI aTp cTp 100 fTp), (zaI eW ceW 10 (upd feW2 i (nI jw))), (zaI eA ceA 10 (upd feA2 i (nI em9_12))), (zaI eE ceE 10 (upd feE2 i (nI cd2))), (zaI eC ceC 100 feC2)]) [4, 5, 0, 1, 2, 3] rfl
                  have hD9 := hD.sub (ws' := [(zo7iirrrririii bl (nI em9_12) (nI (i + 1)) eW eA eE eC (nI cd2) aTp (nI ez) (nI ep9_11) (nI em9_12)), (zaI aTp cTp 100 fTp), (zaI eW ceW 10 (upd feW2 i (nI jw))), (zaI eA ceA 10 (upd feA2 i (nI em9_12))), (zaI eE ceE 10 (upd feE2 i (nI cd2))), (zaI eC ceC 100 feC2)]) [4, 5, 0, 1, 2, 3] (by decide) rfl
                  have hK9 := hK.sub (tys' := [(cTp, .int), (ceW, .int), (ceA, .int), (ceE, .int), (ceC, .int)]) [4, 0, 1, 2, 3] rfl
                  exact W.iret (v := nI ep9_11) hx hb hr (fun tQ htQ hWQ => ⟨⟨(nI ep9_11), ((nI em9_12), (i + 1), cd2, ep9_11, em9_12, (upd feW2 i (nI jw)), (upd feA2 i (nI em9_12)), (upd feE2 i (nI cd2)), feC2), rfl, ⟨⟨by omega, by omega, hE_50, zC2⟩, Or.inr ⟨ep9_11, by omega, rfl, hE7.trans (af_n (by omega) hn59)⟩⟩, by rw [htQ]; exact hP9, va_K.moved hWQ.alike hK9, hD9⟩, hS.F htQ⟩) hS.2.2 dX5_read_157
              · skip
                have c_51 : ep9_11 = ez := (nI_eq (a := ep9_11) (b := ez) (by omega) (by omega)).mp c_51
                refine lv_iconst (v := (-1)) hx hb dX5_read_142 (by decide) ?_
                rw [hQ]
                have hP9 := hP.sub (ws' := [(zo7iirrrririii bl (nI em9_12) (nI (i + 1)) eW eA eE eC (nI cd2) aTp (nI ez) (nI ep9_11) (nI em9_12)), (zaI aTp cTp 100 fTp), (zaI eW ceW 10 (upd feW2 i (nI jw))), (zaI eA ceA 10 (upd feA2 i (nI em9_12))), (zaI eE ceE 10 (upd feE2 i (nI cd2))), (zaI eC ceC 100 feC2)]) [4, 5, 0, 1, 2, 3] rfl
                have hD9 := hD.sub (ws' := [(zo7iirrrririii bl (nI em9_12) (nI (i + 1)) eW eA eE eC (nI cd2) aTp (nI ez) (nI ep9_11) (nI em9_12)), (zaI aTp cTp 100 fTp), (zaI eW ceW 10 (upd feW2 i (nI jw))), (zaI eA ceA 10 (upd feA2 i (nI em9_12))), (zaI eE ceE 10 (upd feE2 i (nI cd2))), (zaI eC ceC 100 feC2)]) [4, 5, 0, 1, 2, 3] (by decide) rfl
                have hK9 := hK.sub (tys' := [(cTp, .int), (ceW, .int), (ceA, .int), (ceE, .int), (ceC, .int)]) [4, 0, 1, 2, 3] rfl
                exact W.iret (v := (-1)) hx hb hr (fun tQ htQ hWQ => ⟨⟨(-1), ((nI em9_12), (i + 1), cd2, ep9_11, em9_12, (upd feW2 i (nI jw)), (upd feA2 i (nI em9_12)), (upd feE2 i (nI cd2)), feC2), rfl, ⟨⟨by omega, by omega, hE_50, zC2⟩, Or.inl ⟨rfl, C1 ++ [(jw, em9_12, [])], by rw [hE7, af_e (by omega)]; exact congrArg (fun z => (some (C1 ++ [(jw, em9_12, [])]), z)) (by omega), (RW.add hRW ((congrArg List.length (tkC_add (C := C1) (c := (jw, em9_12, [])))).symm.trans (hX9).1)).hc (hX9) (sg_a2 hj2) (by omega)⟩⟩, by rw [htQ]; exact hP9, va_K.moved hWQ.alike hK9, hD9⟩, hS.F htQ⟩) hS.2.2 dX5_read_143
          · skip
            obtain rfl := (h_13).symm
            obtain rfl := (h_14).symm
            refine lv_if_ne (tgt := 57) hx hb dX5_read_49 (by decide) (fun c_59 => absurd c_59 (by decide)) (fun _ => ?_)
            refine lv_aload_n hx hb dX5_read_52 rfl (lv_at hl 1 rfl) ?_
            refine va_get (D := (dC, dI)) (ci := 7) (v := .int (nI ep9_4)) (C := RX5) (T := TX5) (N := 11) hx hb hts kc_xRead_0 hown hK hP 4 rfl rfl 9 (by decide) (hts (.fieldLink RX5 34 "MistHeaps$Hill" "at" "I") kc_xRead_3) (fun _ h9 => h9) rfl dX5_read_53 ?_
            rw [hQ]
            have hP9 := hP.sub (ws' := [(zo7iirrrririii bl sg2 (nI cl2) eW eA eE eC (nI cd2) aTp (nI ez) (nI ep9_4) (nI m2)), (zaI aTp cTp 100 fTp), (zaI eW ceW 10 feW2), (zaI eA ceA 10 feA2), (zaI eE ceE 10 feE2), (zaI eC ceC 100 feC2)]) [4, 5, 0, 1, 2, 3] rfl
            have hD9 := hD.sub (ws' := [(zo7iirrrririii bl sg2 (nI cl2) eW eA eE eC (nI cd2) aTp (nI ez) (nI ep9_4) (nI m2)), (zaI aTp cTp 100 fTp), (zaI eW ceW 10 feW2), (zaI eA ceA 10 feA2), (zaI eE ceE 10 feE2), (zaI eC ceC 100 feC2)]) [4, 5, 0, 1, 2, 3] (by decide) rfl
            have hK9 := hK.sub (tys' := [(cTp, .int), (ceW, .int), (ceA, .int), (ceE, .int), (ceC, .int)]) [4, 0, 1, 2, 3] rfl
            exact W.iret (v := nI ep9_4) hx hb hr (fun tQ htQ hWQ => ⟨⟨(nI ep9_4), (sg2, cl2, cd2, ep9_4, m2, feW2, feA2, feE2, feC2), rfl, ⟨⟨by omega, by omega, zE2, zC2⟩, Or.inr ⟨ep9_4, by omega, rfl, hE9.trans (bf_n ((wd_s hwd).trans (rs_1 hN)))⟩⟩, by rw [htQ]; exact hP9, va_K.moved hWQ.alike hK9, hD9⟩, hS.F htQ⟩) hS.2.2 dX5_read_56
  exact L27 _ (0) _ (ecl) (0) (0) (em) _ _ _ _ ([]) (Nat.lt_succ_self _) (by omega) (by omega) (by omega) (zeE) (zeC) (Or.inl ⟨by omega, rfl⟩) (⟨rfl, fun k hk => absurd hk (Nat.not_lt_zero k)⟩) (⟨rfl, by omega, fun i hi => absurd hi (Nat.not_lt_zero i)⟩) (rfl) _ _ (hK.sub [0, 1, 2, 3, 4] rfl) (hP.sub [0, 1, 2, 3, 4, 5] rfl) (hD.sub [0, 1, 2, 3, 4, 5] (by decide) rfl) hS ls (lv_sub hl [1, 0] rfl)
end mg18a
section mg18a
noncomputable def dk18b00pub_cX11_feed_0 : List (Nat × List Nat) := [(0, [27]), (1, [155, 0, 9]), (4, [27]), (5, [16, 127]), (7, [164, 0, 6]), (10, [16, 254]), (12, [172]), (13, [42]), (14, [180, 0, 14]), (17, [180, 0, 53]), (20, [16, 100]), (22, [161, 0, 6]), (25, [16, 252]), (27, [172]), (28, [42]), (29, [180, 0, 14]), (32, [180, 0, 57]), (35, [42]), (36, [180, 0, 14]), (39, [180, 0, 53]), (42, [27]), (43, [79]), (44, [42]), (45, [180, 0, 14]), (48, [89]), (49, [180, 0, 53]), (52, [4]), (53, [96]), (54, [181, 0, 53]), (57, [42]), (58, [180, 0, 14]), (61, [180, 0, 53]), (64, [172])]
set_option maxRecDepth 100000 in
theorem dk18b00pub_cX11_feed_0_a : btA cX11_feed dk18b00pub_cX11_feed_0 = true := by decide +kernel
theorem dX11_feed_0 : decode cX11_feed 0 = .ok (.iload_n 1, 1) := bd27 (btAt dk18b00pub_cX11_feed_0_a 0 rfl)
theorem dX11_feed_1 : decode cX11_feed 1 = .ok (.ifCond .lt 9, 3) := bd155 (a := 0) (b := 9) (btAt dk18b00pub_cX11_feed_0_a 1 rfl)
theorem dX11_feed_4 : decode cX11_feed 4 = .ok (.iload_n 1, 1) := bd27 (btAt dk18b00pub_cX11_feed_0_a 2 rfl)
theorem dX11_feed_5 : decode cX11_feed 5 = .ok (.bipush 127, 2) := bd16 (a := 127) (btAt dk18b00pub_cX11_feed_0_a 3 rfl)
theorem dX11_feed_7 : decode cX11_feed 7 = .ok (.if_icmp .le 6, 3) := bd164 (a := 0) (b := 6) (btAt dk18b00pub_cX11_feed_0_a 4 rfl)
theorem dX11_feed_10 : decode cX11_feed 10 = .ok (.bipush (-2), 2) := bd16 (a := 254) (btAt dk18b00pub_cX11_feed_0_a 5 rfl)
theorem dX11_feed_12 : decode cX11_feed 12 = .ok (.ireturn, 1) := bd172 (btAt dk18b00pub_cX11_feed_0_a 6 rfl)
theorem dX11_feed_13 : decode cX11_feed 13 = .ok (.aload_n 0, 1) := bd42 (btAt dk18b00pub_cX11_feed_0_a 7 rfl)
theorem dX11_feed_14 : decode cX11_feed 14 = .ok (.getfield 14, 3) := bd180 (a := 0) (b := 14) (btAt dk18b00pub_cX11_feed_0_a 8 rfl)
theorem dX11_feed_17 : decode cX11_feed 17 = .ok (.getfield 53, 3) := bd180 (a := 0) (b := 53) (btAt dk18b00pub_cX11_feed_0_a 9 rfl)
theorem dX11_feed_20 : decode cX11_feed 20 = .ok (.bipush 100, 2) := bd16 (a := 100) (btAt dk18b00pub_cX11_feed_0_a 10 rfl)
theorem dX11_feed_22 : decode cX11_feed 22 = .ok (.if_icmp .lt 6, 3) := bd161 (a := 0) (b := 6) (btAt dk18b00pub_cX11_feed_0_a 11 rfl)
theorem dX11_feed_25 : decode cX11_feed 25 = .ok (.bipush (-4), 2) := bd16 (a := 252) (btAt dk18b00pub_cX11_feed_0_a 12 rfl)
theorem dX11_feed_27 : decode cX11_feed 27 = .ok (.ireturn, 1) := bd172 (btAt dk18b00pub_cX11_feed_0_a 13 rfl)
theorem dX11_feed_28 : decode cX11_feed 28 = .ok (.aload_n 0, 1) := bd42 (btAt dk18b00pub_cX11_feed_0_a 14 rfl)
theorem dX11_feed_29 : decode cX11_feed 29 = .ok (.getfield 14, 3) := bd180 (a := 0) (b := 14) (btAt dk18b00pub_cX11_feed_0_a 15 rfl)
theorem dX11_feed_32 : decode cX11_feed 32 = .ok (.getfield 57, 3) := bd180 (a := 0) (b := 57) (btAt dk18b00pub_cX11_feed_0_a 16 rfl)
theorem dX11_feed_35 : decode cX11_feed 35 = .ok (.aload_n 0, 1) := bd42 (btAt dk18b00pub_cX11_feed_0_a 17 rfl)
theorem dX11_feed_36 : decode cX11_feed 36 = .ok (.getfield 14, 3) := bd180 (a := 0) (b := 14) (btAt dk18b00pub_cX11_feed_0_a 18 rfl)
theorem dX11_feed_39 : decode cX11_feed 39 = .ok (.getfield 53, 3) := bd180 (a := 0) (b := 53) (btAt dk18b00pub_cX11_feed_0_a 19 rfl)
theorem dX11_feed_42 : decode cX11_feed 42 = .ok (.iload_n 1, 1) := bd27 (btAt dk18b00pub_cX11_feed_0_a 20 rfl)
theorem dX11_feed_43 : decode cX11_feed 43 = .ok (.iastore, 1) := bd79 (btAt dk18b00pub_cX11_feed_0_a 21 rfl)
theorem dX11_feed_44 : decode cX11_feed 44 = .ok (.aload_n 0, 1) := bd42 (btAt dk18b00pub_cX11_feed_0_a 22 rfl)
theorem dX11_feed_45 : decode cX11_feed 45 = .ok (.getfield 14, 3) := bd180 (a := 0) (b := 14) (btAt dk18b00pub_cX11_feed_0_a 23 rfl)
theorem dX11_feed_48 : decode cX11_feed 48 = .ok (.dup, 1) := bd89 (btAt dk18b00pub_cX11_feed_0_a 24 rfl)
theorem dX11_feed_49 : decode cX11_feed 49 = .ok (.getfield 53, 3) := bd180 (a := 0) (b := 53) (btAt dk18b00pub_cX11_feed_0_a 25 rfl)
theorem dX11_feed_52 : decode cX11_feed 52 = .ok (.iconst 1, 1) := bd4 (btAt dk18b00pub_cX11_feed_0_a 26 rfl)
theorem dX11_feed_53 : decode cX11_feed 53 = .ok (.iadd, 1) := bd96 (btAt dk18b00pub_cX11_feed_0_a 27 rfl)
theorem dX11_feed_54 : decode cX11_feed 54 = .ok (.putfield 53, 3) := bd181 (a := 0) (b := 53) (btAt dk18b00pub_cX11_feed_0_a 28 rfl)
theorem dX11_feed_57 : decode cX11_feed 57 = .ok (.aload_n 0, 1) := bd42 (btAt dk18b00pub_cX11_feed_0_a 29 rfl)
theorem dX11_feed_58 : decode cX11_feed 58 = .ok (.getfield 14, 3) := bd180 (a := 0) (b := 14) (btAt dk18b00pub_cX11_feed_0_a 30 rfl)
theorem dX11_feed_61 : decode cX11_feed 61 = .ok (.getfield 53, 3) := bd180 (a := 0) (b := 53) (btAt dk18b00pub_cX11_feed_0_a 31 rfl)
theorem dX11_feed_64 : decode cX11_feed 64 = .ok (.ireturn, 1) := bd172 (btAt dk18b00pub_cX11_feed_0_a 32 rfl)
theorem kS0 {k m v x : Int32} (h : k = 0) : x + m = acS k m v x ∧ btS k = [1] := by
  subst h
  exact ⟨acS_0 (by decide) (by decide), btS_0 (by decide) (by decide)⟩
theorem kG0 {k m v x : Int32} (h : k = 0) : (x + m) - v = acG k m v x ∧ btG k = [2, 1] := by
  have q := kS0 (k := k) (m := m) (v := v) (x := x) h
  rw [q.1]
  subst h
  exact ⟨acG_0 (by decide) (by decide), by rw [btG_0 (by decide) (by decide), q.2]⟩
theorem kL0 {k m v x : Int32} (h : k = 0) : ((x + m) - v) * 2 = acL k m v x ∧ btL k = [3, 2, 1] := by
  have q := kG0 (k := k) (m := m) (v := v) (x := x) h
  rw [q.1]
  subst h
  exact ⟨acL_0 (by decide) (by decide), by rw [btL_0 (by decide) (by decide), q.2]⟩
theorem kS1 {k m v x : Int32} (h : k = 1) : x * 3 + m = acS k m v x ∧ btS k = [11, 1] := by
  subst h
  exact ⟨acS_1 (by decide), btS_1 (by decide)⟩
theorem kG1 {k m v x : Int32} (h : k = 1) : (x * 3 + m) - v = acG k m v x ∧ btG k = [2, 11, 1] := by
  have q := kS1 (k := k) (m := m) (v := v) (x := x) h
  rw [q.1]
  subst h
  exact ⟨acG_0 (by decide) (by decide), by rw [btG_0 (by decide) (by decide), q.2]⟩
theorem kL1 {k m v x : Int32} (h : k = 1) : ((x * 3 + m) - v) * 2 = acL k m v x ∧ btL k = [3, 2, 11, 1] := by
  have q := kG1 (k := k) (m := m) (v := v) (x := x) h
  rw [q.1]
  subst h
  exact ⟨acL_0 (by decide) (by decide), by rw [btL_0 (by decide) (by decide), q.2]⟩
theorem kS2 {k m v x : Int32} (h : k = 2) : x + m = acS k m v x ∧ btS k = [1] := by
  subst h
  exact ⟨acS_0 (by decide) (by decide), btS_0 (by decide) (by decide)⟩
theorem kG2 {k m v x : Int32} (h : k = 2) : -((x + m) - v) = acG k m v x ∧ btG k = [21, 2, 1] := by
  have q := kS2 (k := k) (m := m) (v := v) (x := x) h
  rw [q.1]
  subst h
  exact ⟨acG_2 (by decide), by rw [btG_2 (by decide), q.2]⟩
theorem kL2 {k m v x : Int32} (h : k = 2) : (-((x + m) - v)) * 2 = acL k m v x ∧ btL k = [3, 21, 2, 1] := by
  have q := kG2 (k := k) (m := m) (v := v) (x := x) h
  rw [q.1]
  subst h
  exact ⟨acL_0 (by decide) (by decide), by rw [btL_0 (by decide) (by decide), q.2]⟩
theorem kS3 {k m v x : Int32} (h : k = 3) : x + m = acS k m v x ∧ btS k = [1] := by
  subst h
  exact ⟨acS_0 (by decide) (by decide), btS_0 (by decide) (by decide)⟩
theorem kG3 {k m v x : Int32} (h : k = 3) : (x + m) - v = acG k m v x ∧ btG k = [2, 1] := by
  have q := kS3 (k := k) (m := m) (v := v) (x := x) h
  rw [q.1]
  subst h
  exact ⟨acG_0 (by decide) (by decide), by rw [btG_0 (by decide) (by decide), q.2]⟩
theorem kL3 {k m v x : Int32} (h : k = 3) : (((x + m) - v) * 2) ^^^ 7 = acL k m v x ∧ btL k = [31, 3, 2, 1] := by
  have q := kG3 (k := k) (m := m) (v := v) (x := x) h
  rw [q.1]
  subst h
  exact ⟨acL_3 (by decide), by rw [btL_3 (by decide), q.2]⟩
theorem kS4 {k m v x : Int32} (h : k = 4) : x * 3 + m = acS k m v x ∧ btS k = [11, 1] := by
  subst h
  exact ⟨acS_1 (by decide), btS_1 (by decide)⟩
theorem kG4 {k m v x : Int32} (h : k = 4) : (x * 3 + m) - v = acG k m v x ∧ btG k = [2, 11, 1] := by
  have q := kS4 (k := k) (m := m) (v := v) (x := x) h
  rw [q.1]
  subst h
  exact ⟨acG_0 (by decide) (by decide), by rw [btG_0 (by decide) (by decide), q.2]⟩
theorem kL4 {k m v x : Int32} (h : k = 4) : ((((x - 1) * 3 + m) - v) * 2) + (2 * 3 + m) = acL k m v x ∧ btL k = [41, 3, 2, 11, 1, 11, 1] := by
  have q := kG4 (k := k) (m := m) (v := v) (x := x - 1) h
  have q2 := kS4 (k := k) (m := m) (v := v) (x := 2) h
  rw [q.1, q2.1]
  subst h
  exact ⟨acL_4 (by decide) (by decide), by rw [btL_4 (by decide) (by decide), q.2, q2.2]; rfl⟩
theorem kS5 {k m v x : Int32} (h : k = 5) : (x + m) ^^^ m = acS k m v x ∧ btS k = [51, 1] := by
  subst h
  exact ⟨acS_5 (by decide) (by decide), btS_5 (by decide) (by decide)⟩
theorem kG5 {k m v x : Int32} (h : k = 5) : -(((x + m) ^^^ m) - v) = acG k m v x ∧ btG k = [21, 2, 51, 1] := by
  have q := kS5 (k := k) (m := m) (v := v) (x := x) h
  rw [q.1]
  subst h
  exact ⟨acG_2 (by decide), by rw [btG_2 (by decide), q.2]⟩
theorem kL5 {k m v x : Int32} (h : k = 5) : (-(((x + m) ^^^ m) - v)) * 2 = acL k m v x ∧ btL k = [3, 21, 2, 51, 1] := by
  have q := kG5 (k := k) (m := m) (v := v) (x := x) h
  rw [q.1]
  subst h
  exact ⟨acL_0 (by decide) (by decide), by rw [btL_0 (by decide) (by decide), q.2]⟩
theorem kS6 {k m v x : Int32} (h : k = 6) : x + m = acS k m v x ∧ btS k = [1] := by
  subst h
  exact ⟨acS_0 (by decide) (by decide), btS_0 (by decide) (by decide)⟩
theorem kG6 {k m v x : Int32} (h : k = 6) : ((x + m) - v) + v = acG k m v x ∧ btG k = [61, 2, 1] := by
  have q := kS6 (k := k) (m := m) (v := v) (x := x) h
  rw [q.1]
  subst h
  exact ⟨acG_6 (by decide) (by decide), by rw [btG_6 (by decide) (by decide), q.2]⟩
theorem kL6 {k m v x : Int32} (h : k = 6) : ((((x + m) - v) + v) * 2) ^^^ 7 = acL k m v x ∧ btL k = [31, 3, 61, 2, 1] := by
  have q := kG6 (k := k) (m := m) (v := v) (x := x) h
  rw [q.1]
  subst h
  exact ⟨acL_3 (by decide), by rw [btL_3 (by decide), q.2]⟩

theorem kc_xFeed_0 : ∀ w ∈ wsX110, w ∈ wsX11_feed := fun w h => List.mem_cons_of_mem _ (gin_wsX110 w h)
theorem kc_xFeed_1 : (.fieldLink RX11 14 "MistHeaps" "scene" "LMistHeaps$Scene;" : Cond) ∈ wsX11_feed := kc_of 328 rfl rfl rfl
theorem kc_xFeed_2 : ∀ w ∈ wsX80, w ∈ wsX11_feed := fun w h => List.mem_cons_of_mem _ (gin_wsX80 w h)
theorem kc_xFeed_3 : (.fieldLink RX11 53 "MistHeaps$Scene" "tapeSize" "I" : Cond) ∈ wsX11_feed := kc_of 154 rfl rfl rfl
theorem kc_xFeed_4 : (.fieldLink RX11 57 "MistHeaps$Scene" "tape" "[I" : Cond) ∈ wsX11_feed := kc_of 153 rfl rfl rfl
set_option maxHeartbeats 4000000 in
set_option maxRecDepth 100000 in
theorem c_xFeed (l : Launch) (dC : Nat → ClassId) (dI : Nat → Nat → Nat) (h0 : Nat) (sc : Nat) (kp : Nat) (bl : Nat) (go : Nat) (ch : Nat) (bo : Nat) (aTp : Nat) (aHl : Nat) (aHs : Nat) (aWk : Nat) (aBk : Nat) (aFc : Nat) (ts : Nat) (nh : Nat) (n : Nat) (wz : Nat) (bz : Nat) (mi : Int32) (sn : Int32) (ik : Int32) (x : Int32) (ed : Int64) (cTp : ClassId) (fTp : Nat → Int32) (sz : Nat) (hts0 : ts ≤ 100) : Met l yX11_feed wsX11_feed ({ frames := 0, cells := 0, slots := 0, locals := 0 } : Room) (va_Pc [.ref h0, .int x] (fun U => U.heap.size = sz ∧ va_P (dC, dI) vwCl [(zo13rrirrrr h0 sc kp ik bl go ch bo), (zo10ririliiriririr sc aTp (nI ts) aHl (nI nh) ed mi sn aHs (nI n) aWk (nI wz) aBk (nI bz) aFc), (zaI aTp cTp 100 fTp)] U.heap ∧ va_K (dC, dI) vwCl [(cTp, .int)] U ∧ va_D (fun _ => True) [(zo13rrirrrr h0 sc kp ik bl go ch bo), (zo10ririliiriririr sc aTp (nI ts) aHl (nI nh) ed mi sn aHs (nI n) aWk (nI wz) aBk (nI bz) aFc), (zaI aTp cTp 100 fTp)])) (va_Qi (fun (r : Int32) (u : (Nat) × (Nat → Int32)) => match u with | (ts9, fTp9) => r = fdR ts x ∧ ((r < 0 ∧ ts9 = ts ∧ fTp9 = fTp) ∨ (¬ r < 0 ∧ ts < 100 ∧ ¬ x < 0 ∧ ¬ 127 < x ∧ ts9 = ts + 1 ∧ fTp9 = upd fTp ts x))) (fun (u : (Nat) × (Nat → Int32)) (t : State) => match u with | (ts9, fTp9) => va_P (dC, dI) vwCl [(zo13rrirrrr h0 sc kp ik bl go ch bo), (zo10ririliiriririr sc aTp (nI ts9) aHl (nI nh) ed mi sn aHs (nI n) aWk (nI wz) aBk (nI bz) aFc), (zaI aTp cTp 100 fTp9)] t.heap ∧ va_K (dC, dI) vwCl [(cTp, .int)] t ∧ va_D (va_A [(zo13rrirrrr h0 sc kp ik bl go ch bo), (zo10ririliiriririr sc aTp (nI ts) aHl (nI nh) ed mi sn aHs (nI n) aWk (nI wz) aBk (nI bz) aFc), (zaI aTp cTp 100 fTp)] sz) [(zo13rrirrrr h0 sc kp ik bl go ch bo), (zo10ririliiriririr sc aTp (nI ts9) aHl (nI nh) ed mi sn aHs (nI n) aWk (nI wz) aBk (nI bz) aFc), (zaI aTp cTp 100 fTp9)]) (va_A [(zo13rrirrrr h0 sc kp ik bl go ch bo), (zo10ririliiriririr sc aTp (nI ts) aHl (nI nh) ed mi sn aHs (nI n) aWk (nI wz) aBk (nI bz) aFc), (zaI aTp cTp 100 fTp)] sz)) 0 0 (va_A [(zo13rrirrrr h0 sc kp ik bl go ch bo), (zo10ririliiriririr sc aTp (nI ts) aHl (nI nh) ed mi sn aHs (nI n) aWk (nI wz) aBk (nI bz) aFc), (zaI aTp cTp 100 fTp)] sz) := by
  refine met_ofQ (cc := cX11_feed) (maxL := 2) (ret := (some .int)) (by decide) rfl ?_
  intro p e s m args below meth c s₁ Q B hml hv hQ
  obtain ⟨rfl, hsz, hP, hK, hD0⟩ := hv
  have hx := B.exec
  have hb := B.bytes
  have hr := B.returns
  have hts := atoms_spec (ws := wsX11_feed) B.pre
  have hown : s.vm.findClass RX11 = some m.cls := findClass_of_methodNamed B.named
  have hlocks := B.notSynchronized
  subst hsz
  have hD := hD0.self (sz := s.heap.size)
  generalize hAe : va_A [(zo13rrirrrr h0 sc kp ik bl go ch bo), (zo10ririliiriririr sc aTp (nI ts) aHl (nI nh) ed mi sn aHs (nI n) aWk (nI wz) aBk (nI bz) aFc), (zaI aTp cTp 100 fTp)] s.heap.size = A at hD hQ ⊢
  have hA : ∀ q : Nat, s.heap.size ≤ q → A q := fun q h => by rw [← hAe]; exact Or.inr h
  have hS : va_S A s.heap s.heap [] := va_S.rf
  have hl := lv_entry [.ref h0, .int x] (n := 2) (Nat.le_of_ble_eq_true rfl)
  rw [lg_entry_eq]
  generalize (lg_sl [.ref h0, .int x] ++ List.replicate (2 - (lg_sl [.ref h0, .int x]).length) Slot.unset).toArray = ls at hl ⊢
  generalize hag : ([.ref h0, .int x] : List Value).toArray = args at hts hQ ⊢
  have hl : lv_has ls 2 [(0, .ref h0), (1, .int x)] := hl
  obtain ⟨H, hH⟩ : ∃ H : Heap, H = s.heap := ⟨_, rfl⟩
  rw [← hH] at hP
  rw [← hH]
  have hS : va_S A s.heap H [] := by rw [hH]; exact hS
  obtain ⟨locs, hlo⟩ : ∃ L : List Loc, L = [] := ⟨_, rfl⟩
  rw [← hlo] at hS
  rw [← hlo]
  clear hH hlo
  refine lv_iload_n hx hb dX11_feed_0 rfl (lv_at hl 1 rfl) ?_
  refine lv_if_lt (tgt := 10) hx hb dX11_feed_1 (by decide) (fun c_1 => ?_) (fun c_1 => ?_)
  · skip
    refine lv_bipush (v := (-2)) hx hb dX11_feed_10 (by decide) ?_
    rw [hQ]
    have hP9 := hP.sub (ws' := [(zo13rrirrrr h0 sc kp ik bl go ch bo), (zo10ririliiriririr sc aTp (nI ts) aHl (nI nh) ed mi sn aHs (nI n) aWk (nI wz) aBk (nI bz) aFc), (zaI aTp cTp 100 fTp)]) [0, 1, 2] rfl
    have hD9 := hD.sub (ws' := [(zo13rrirrrr h0 sc kp ik bl go ch bo), (zo10ririliiriririr sc aTp (nI ts) aHl (nI nh) ed mi sn aHs (nI n) aWk (nI wz) aBk (nI bz) aFc), (zaI aTp cTp 100 fTp)]) [0, 1, 2] (by decide) rfl
    have hK9 := hK.sub (tys' := [(cTp, .int)]) [0] rfl
    exact W.iret (v := (-2)) hx hb hr (fun tQ htQ hWQ => ⟨⟨(-2), (ts, fTp), rfl, ⟨fd_bad (by first | exact Or.inl (by assumption) | exact Or.inr (Int32.not_le.mp (by assumption))), Or.inl ⟨by decide, rfl, rfl⟩⟩, by rw [htQ]; exact hP9, va_K.moved hWQ.alike hK9, hD9⟩, hS.F htQ⟩) hS.2.2 dX11_feed_12
  · skip
    refine lv_iload_n hx hb dX11_feed_4 rfl (lv_at hl 1 rfl) ?_
    refine lv_bipush (v := 127) hx hb dX11_feed_5 (by decide) ?_
    refine lv_icmp_le (tgt := 13) hx hb dX11_feed_7 (by decide) (fun c_2 => ?_) (fun c_2 => ?_)
    · skip
      refine lv_aload_n hx hb dX11_feed_13 rfl (lv_at hl 0 rfl) ?_
      refine va_get (D := (dC, dI)) (ci := 13) (v := .ref sc) (C := RX11) (T := TX11) (N := 7) hx hb hts kc_xFeed_0 hown hK hP 0 rfl rfl 0 (by decide) (hts (.fieldLink RX11 14 "MistHeaps" "scene" "LMistHeaps$Scene;") kc_xFeed_1) (fun _ h9 => h9) rfl dX11_feed_14 ?_
      refine va_get (D := (dC, dI)) (ci := 10) (v := .int (nI ts)) (C := RX8) (T := TX8) (N := 14) hx hb hts kc_xFeed_2 hown hK hP 1 rfl rfl 1 (by decide) (hts (.fieldLink RX11 53 "MistHeaps$Scene" "tapeSize" "I") kc_xFeed_3) (fun _ h9 => h9) rfl dX11_feed_17 ?_
      refine lv_bipush (v := 100) hx hb dX11_feed_20 (by decide) ?_
      refine lv_icmp_lt (tgt := 28) hx hb dX11_feed_22 (by decide) (fun c_3 => ?_) (fun c_3 => ?_)
      · skip
        have c_3 : ts < 100 := (nI_ltI (a := ts) (b := 100) (by omega) (by omega)).mp c_3
        refine lv_aload_n hx hb dX11_feed_28 rfl (lv_at hl 0 rfl) ?_
        refine va_get (D := (dC, dI)) (ci := 13) (v := .ref sc) (C := RX11) (T := TX11) (N := 7) hx hb hts kc_xFeed_0 hown hK hP 0 rfl rfl 0 (by decide) (hts (.fieldLink RX11 14 "MistHeaps" "scene" "LMistHeaps$Scene;") kc_xFeed_1) (fun _ h9 => h9) rfl dX11_feed_29 ?_
        refine va_get (D := (dC, dI)) (ci := 10) (v := .ref aTp) (C := RX8) (T := TX8) (N := 14) hx hb hts kc_xFeed_2 hown hK hP 1 rfl rfl 0 (by decide) (hts (.fieldLink RX11 57 "MistHeaps$Scene" "tape" "[I") kc_xFeed_4) (fun _ h9 => h9) rfl dX11_feed_32 ?_
        refine lv_aload_n hx hb dX11_feed_35 rfl (lv_at hl 0 rfl) ?_
        refine va_get (D := (dC, dI)) (ci := 13) (v := .ref sc) (C := RX11) (T := TX11) (N := 7) hx hb hts kc_xFeed_0 hown hK hP 0 rfl rfl 0 (by decide) (hts (.fieldLink RX11 14 "MistHeaps" "scene" "LMistHeaps$Scene;") kc_xFeed_1) (fun _ h9 => h9) rfl dX11_feed_36 ?_
        refine va_get (D := (dC, dI)) (ci := 10) (v := .int (nI ts)) (C := RX8) (T := TX8) (N := 14) hx hb hts kc_xFeed_2 hown hK hP 1 rfl rfl 1 (by decide) (hts (.fieldLink RX11 53 "MistHeaps$Scene" "tapeSize" "I") kc_xFeed_3) (fun _ h9 => h9) rfl dX11_feed_39 ?_
        refine lv_iload_n hx hb dX11_feed_42 rfl (lv_at hl 1 rfl) ?_
        refine va_iast hx hb hK hP hD hS 2 0 rfl rfl (vp_in_nI (n := ts) (N := 100) (by omega) (by omega)) dX11_feed_43 (fun H locs hP hD hS => ?_)
        rw [nI_clamp (n := ts) (by omega)] at hP hD
        have hP : va_P (dC, dI) vwCl [(zo13rrirrrr h0 sc kp ik bl go ch bo), (zo10ririliiriririr sc aTp (nI ts) aHl (nI nh) ed mi sn aHs (nI n) aWk (nI wz) aBk (nI bz) aFc), (zaI aTp cTp 100 (upd fTp ts x))] H := hP
        have hD : va_D A [(zo13rrirrrr h0 sc kp ik bl go ch bo), (zo10ririliiriririr sc aTp (nI ts) aHl (nI nh) ed mi sn aHs (nI n) aWk (nI wz) aBk (nI bz) aFc), (zaI aTp cTp 100 (upd fTp ts x))] := hD
        refine lv_aload_n hx hb dX11_feed_44 rfl (lv_at hl 0 rfl) ?_
        refine va_get (D := (dC, dI)) (ci := 13) (v := .ref sc) (C := RX11) (T := TX11) (N := 7) hx hb hts kc_xFeed_0 hown hK hP 0 rfl rfl 0 (by decide) (hts (.fieldLink RX11 14 "MistHeaps" "scene" "LMistHeaps$Scene;") kc_xFeed_1) (fun _ h9 => h9) rfl dX11_feed_45 ?_
        refine lv_dup hx hb dX11_feed_48 rfl ?_
        refine va_get (D := (dC, dI)) (ci := 10) (v := .int (nI ts)) (C := RX8) (T := TX8) (N := 14) hx hb hts kc_xFeed_2 hown hK hP 1 rfl rfl 1 (by decide) (hts (.fieldLink RX11 53 "MistHeaps$Scene" "tapeSize" "I") kc_xFeed_3) (fun _ h9 => h9) rfl dX11_feed_49 ?_
        refine lv_iconst (v := 1) hx hb dX11_feed_52 (by decide) ?_
        refine lv_iadd hx hb dX11_feed_53 ?_
        refine qi_as (y := nI (ts + 1)) (nI_add ts 1) ?_
        refine va_put (D := (dC, dI)) (ci := 10) (v := .int (nI (ts + 1))) (ty := .int) (C := RX8) (T := TX8) (N := 14) hx hb hts kc_xFeed_2 tyX8 tyX8_ok nmX8 hown hK hP hD hS 1 rfl rfl 1 (by decide) (hts (.fieldLink RX11 53 "MistHeaps$Scene" "tapeSize" "I") kc_xFeed_3) (fun _ h9 => h9) rfl (by decide +kernel) rfl rfl (Nat.le_of_ble_eq_true rfl) dX11_feed_54 (fun H locs hP hD hS => ?_)
        have hP : va_P (dC, dI) vwCl [(zo13rrirrrr h0 sc kp ik bl go ch bo), (zo10ririliiriririr sc aTp (nI (ts + 1)) aHl (nI nh) ed mi sn aHs (nI n) aWk (nI wz) aBk (nI bz) aFc), (zaI aTp cTp 100 (upd fTp ts x))] H := hP
        have hD : va_D A [(zo13rrirrrr h0 sc kp ik bl go ch bo), (zo10ririliiriririr sc aTp (nI (ts + 1)) aHl (nI nh) ed mi sn aHs (nI n) aWk (nI wz) aBk (nI bz) aFc), (zaI aTp cTp 100 (upd fTp ts x))] := hD
        refine lv_aload_n hx hb dX11_feed_57 rfl (lv_at hl 0 rfl) ?_
        refine va_get (D := (dC, dI)) (ci := 13) (v := .ref sc) (C := RX11) (T := TX11) (N := 7) hx hb hts kc_xFeed_0 hown hK hP 0 rfl rfl 0 (by decide) (hts (.fieldLink RX11 14 "MistHeaps" "scene" "LMistHeaps$Scene;") kc_xFeed_1) (fun _ h9 => h9) rfl dX11_feed_58 ?_
        refine va_get (D := (dC, dI)) (ci := 10) (v := .int (nI (ts + 1))) (C := RX8) (T := TX8) (N := 14) hx hb hts kc_xFeed_2 hown hK hP 1 rfl rfl 1 (by decide) (hts (.fieldLink RX11 53 "MistHeaps$Scene" "tapeSize" "I") kc_xFeed_3) (fun _ h9 => h9) rfl dX11_feed_61 ?_
        rw [hQ]
        have hP9 := hP.sub (ws' := [(zo13rrirrrr h0 sc kp ik bl go ch bo), (zo10ririliiriririr sc aTp (nI (ts + 1)) aHl (nI nh) ed mi sn aHs (nI n) aWk (nI wz) aBk (nI bz) aFc), (zaI aTp cTp 100 (upd fTp ts x))]) [0, 1, 2] rfl
        have hD9 := hD.sub (ws' := [(zo13rrirrrr h0 sc kp ik bl go ch bo), (zo10ririliiriririr sc aTp (nI (ts + 1)) aHl (nI nh) ed mi sn aHs (nI n) aWk (nI wz) aBk (nI bz) aFc), (zaI aTp cTp 100 (upd fTp ts x))]) [0, 1, 2] (by decide) rfl
        have hK9 := hK.sub (tys' := [(cTp, .int)]) [0] rfl
        exact W.iret (v := nI (ts + 1)) hx hb hr (fun tQ htQ hWQ => ⟨⟨(nI (ts + 1)), ((ts + 1), (upd fTp ts x)), rfl, ⟨fd_ok (by assumption) (Int32.not_lt.mpr (by assumption)) (by omega), Or.inr ⟨nI_pos (by omega), by omega, by assumption, (Int32.not_lt.mpr (by assumption)), rfl, rfl⟩⟩, by rw [htQ]; exact hP9, va_K.moved hWQ.alike hK9, hD9⟩, hS.F htQ⟩) hS.2.2 dX11_feed_64
      · skip
        have c_3 : ¬ ts < 100 := fun q => c_3 ((nI_ltI (a := ts) (b := 100) (by omega) (by omega)).mpr q)
        refine lv_bipush (v := (-4)) hx hb dX11_feed_25 (by decide) ?_
        rw [hQ]
        have hP9 := hP.sub (ws' := [(zo13rrirrrr h0 sc kp ik bl go ch bo), (zo10ririliiriririr sc aTp (nI ts) aHl (nI nh) ed mi sn aHs (nI n) aWk (nI wz) aBk (nI bz) aFc), (zaI aTp cTp 100 fTp)]) [0, 1, 2] rfl
        have hD9 := hD.sub (ws' := [(zo13rrirrrr h0 sc kp ik bl go ch bo), (zo10ririliiriririr sc aTp (nI ts) aHl (nI nh) ed mi sn aHs (nI n) aWk (nI wz) aBk (nI bz) aFc), (zaI aTp cTp 100 fTp)]) [0, 1, 2] (by decide) rfl
        have hK9 := hK.sub (tys' := [(cTp, .int)]) [0] rfl
        exact W.iret (v := (-4)) hx hb hr (fun tQ htQ hWQ => ⟨⟨(-4), (ts, fTp), rfl, ⟨fd_full (by assumption) (Int32.not_lt.mpr (by assumption)) (by omega), Or.inl ⟨by decide, rfl, rfl⟩⟩, by rw [htQ]; exact hP9, va_K.moved hWQ.alike hK9, hD9⟩, hS.F htQ⟩) hS.2.2 dX11_feed_27
    · skip
      refine lv_bipush (v := (-2)) hx hb dX11_feed_10 (by decide) ?_
      rw [hQ]
      have hP9 := hP.sub (ws' := [(zo13rrirrrr h0 sc kp ik bl go ch bo), (zo10ririliiriririr sc aTp (nI ts) aHl (nI nh) ed mi sn aHs (nI n) aWk (nI wz) aBk (nI bz) aFc), (zaI aTp cTp 100 fTp)]) [0, 1, 2] rfl
      have hD9 := hD.sub (ws' := [(zo13rrirrrr h0 sc kp ik bl go ch bo), (zo10ririliiriririr sc aTp (nI ts) aHl (nI nh) ed mi sn aHs (nI n) aWk (nI wz) aBk (nI bz) aFc), (zaI aTp cTp 100 fTp)]) [0, 1, 2] (by decide) rfl
      have hK9 := hK.sub (tys' := [(cTp, .int)]) [0] rfl
      exact W.iret (v := (-2)) hx hb hr (fun tQ htQ hWQ => ⟨⟨(-2), (ts, fTp), rfl, ⟨fd_bad (by first | exact Or.inl (by assumption) | exact Or.inr (Int32.not_le.mp (by assumption))), Or.inl ⟨by decide, rfl, rfl⟩⟩, by rw [htQ]; exact hP9, va_K.moved hWQ.alike hK9, hD9⟩, hS.F htQ⟩) hS.2.2 dX11_feed_12
end mg18a
section mg18a
noncomputable def dk18b01pub_cJ13_bitCount_95d88_0 : List (Nat × List Nat) := [(0, [30]), (1, [30]), (2, [4]), (3, [125]), (4, [20, 1, 58]), (7, [127]), (8, [101]), (9, [63]), (10, [30]), (11, [20, 1, 60]), (14, [127]), (15, [30]), (16, [5]), (17, [125]), (18, [20, 1, 60]), (21, [127]), (22, [97]), (23, [63]), (24, [30]), (25, [30]), (26, [7]), (27, [125]), (28, [97]), (29, [20, 1, 62]), (32, [127]), (33, [63]), (34, [30]), (35, [30]), (36, [16, 8]), (38, [125]), (39, [97]), (40, [63]), (41, [30]), (42, [30]), (43, [16, 16]), (45, [125]), (46, [97]), (47, [63]), (48, [30]), (49, [30])]
set_option maxRecDepth 100000 in
theorem dk18b01pub_cJ13_bitCount_95d88_0_a : btA cJ13_bitCount_95d88 dk18b01pub_cJ13_bitCount_95d88_0 = true := by decide +kernel
theorem dJ13_bitCount_95d88_0 : decode cJ13_bitCount_95d88 0 = .ok (.lload_n 0, 1) := bd30 (btAt dk18b01pub_cJ13_bitCount_95d88_0_a 0 rfl)
theorem dJ13_bitCount_95d88_1 : decode cJ13_bitCount_95d88 1 = .ok (.lload_n 0, 1) := bd30 (btAt dk18b01pub_cJ13_bitCount_95d88_0_a 1 rfl)
theorem dJ13_bitCount_95d88_2 : decode cJ13_bitCount_95d88 2 = .ok (.iconst 1, 1) := bd4 (btAt dk18b01pub_cJ13_bitCount_95d88_0_a 2 rfl)
theorem dJ13_bitCount_95d88_3 : decode cJ13_bitCount_95d88 3 = .ok (.lushr, 1) := bd125 (btAt dk18b01pub_cJ13_bitCount_95d88_0_a 3 rfl)
theorem dJ13_bitCount_95d88_4 : decode cJ13_bitCount_95d88 4 = .ok (.ldc2_w 314, 3) := bd20 (a := 1) (b := 58) (btAt dk18b01pub_cJ13_bitCount_95d88_0_a 4 rfl)
theorem dJ13_bitCount_95d88_7 : decode cJ13_bitCount_95d88 7 = .ok (.land, 1) := bd127 (btAt dk18b01pub_cJ13_bitCount_95d88_0_a 5 rfl)
theorem dJ13_bitCount_95d88_8 : decode cJ13_bitCount_95d88 8 = .ok (.lsub, 1) := bd101 (btAt dk18b01pub_cJ13_bitCount_95d88_0_a 6 rfl)
theorem dJ13_bitCount_95d88_9 : decode cJ13_bitCount_95d88 9 = .ok (.lstore_n 0, 1) := bd63 (btAt dk18b01pub_cJ13_bitCount_95d88_0_a 7 rfl)
theorem dJ13_bitCount_95d88_10 : decode cJ13_bitCount_95d88 10 = .ok (.lload_n 0, 1) := bd30 (btAt dk18b01pub_cJ13_bitCount_95d88_0_a 8 rfl)
theorem dJ13_bitCount_95d88_11 : decode cJ13_bitCount_95d88 11 = .ok (.ldc2_w 316, 3) := bd20 (a := 1) (b := 60) (btAt dk18b01pub_cJ13_bitCount_95d88_0_a 9 rfl)
theorem dJ13_bitCount_95d88_14 : decode cJ13_bitCount_95d88 14 = .ok (.land, 1) := bd127 (btAt dk18b01pub_cJ13_bitCount_95d88_0_a 10 rfl)
theorem dJ13_bitCount_95d88_15 : decode cJ13_bitCount_95d88 15 = .ok (.lload_n 0, 1) := bd30 (btAt dk18b01pub_cJ13_bitCount_95d88_0_a 11 rfl)
theorem dJ13_bitCount_95d88_16 : decode cJ13_bitCount_95d88 16 = .ok (.iconst 2, 1) := bd5 (btAt dk18b01pub_cJ13_bitCount_95d88_0_a 12 rfl)
theorem dJ13_bitCount_95d88_17 : decode cJ13_bitCount_95d88 17 = .ok (.lushr, 1) := bd125 (btAt dk18b01pub_cJ13_bitCount_95d88_0_a 13 rfl)
theorem dJ13_bitCount_95d88_18 : decode cJ13_bitCount_95d88 18 = .ok (.ldc2_w 316, 3) := bd20 (a := 1) (b := 60) (btAt dk18b01pub_cJ13_bitCount_95d88_0_a 14 rfl)
theorem dJ13_bitCount_95d88_21 : decode cJ13_bitCount_95d88 21 = .ok (.land, 1) := bd127 (btAt dk18b01pub_cJ13_bitCount_95d88_0_a 15 rfl)
theorem dJ13_bitCount_95d88_22 : decode cJ13_bitCount_95d88 22 = .ok (.ladd, 1) := bd97 (btAt dk18b01pub_cJ13_bitCount_95d88_0_a 16 rfl)
theorem dJ13_bitCount_95d88_23 : decode cJ13_bitCount_95d88 23 = .ok (.lstore_n 0, 1) := bd63 (btAt dk18b01pub_cJ13_bitCount_95d88_0_a 17 rfl)
theorem dJ13_bitCount_95d88_24 : decode cJ13_bitCount_95d88 24 = .ok (.lload_n 0, 1) := bd30 (btAt dk18b01pub_cJ13_bitCount_95d88_0_a 18 rfl)
theorem dJ13_bitCount_95d88_25 : decode cJ13_bitCount_95d88 25 = .ok (.lload_n 0, 1) := bd30 (btAt dk18b01pub_cJ13_bitCount_95d88_0_a 19 rfl)
theorem dJ13_bitCount_95d88_26 : decode cJ13_bitCount_95d88 26 = .ok (.iconst 4, 1) := bd7 (btAt dk18b01pub_cJ13_bitCount_95d88_0_a 20 rfl)
theorem dJ13_bitCount_95d88_27 : decode cJ13_bitCount_95d88 27 = .ok (.lushr, 1) := bd125 (btAt dk18b01pub_cJ13_bitCount_95d88_0_a 21 rfl)
theorem dJ13_bitCount_95d88_28 : decode cJ13_bitCount_95d88 28 = .ok (.ladd, 1) := bd97 (btAt dk18b01pub_cJ13_bitCount_95d88_0_a 22 rfl)
theorem dJ13_bitCount_95d88_29 : decode cJ13_bitCount_95d88 29 = .ok (.ldc2_w 318, 3) := bd20 (a := 1) (b := 62) (btAt dk18b01pub_cJ13_bitCount_95d88_0_a 23 rfl)
theorem dJ13_bitCount_95d88_32 : decode cJ13_bitCount_95d88 32 = .ok (.land, 1) := bd127 (btAt dk18b01pub_cJ13_bitCount_95d88_0_a 24 rfl)
theorem dJ13_bitCount_95d88_33 : decode cJ13_bitCount_95d88 33 = .ok (.lstore_n 0, 1) := bd63 (btAt dk18b01pub_cJ13_bitCount_95d88_0_a 25 rfl)
theorem dJ13_bitCount_95d88_34 : decode cJ13_bitCount_95d88 34 = .ok (.lload_n 0, 1) := bd30 (btAt dk18b01pub_cJ13_bitCount_95d88_0_a 26 rfl)
theorem dJ13_bitCount_95d88_35 : decode cJ13_bitCount_95d88 35 = .ok (.lload_n 0, 1) := bd30 (btAt dk18b01pub_cJ13_bitCount_95d88_0_a 27 rfl)
theorem dJ13_bitCount_95d88_36 : decode cJ13_bitCount_95d88 36 = .ok (.bipush 8, 2) := bd16 (a := 8) (btAt dk18b01pub_cJ13_bitCount_95d88_0_a 28 rfl)
theorem dJ13_bitCount_95d88_38 : decode cJ13_bitCount_95d88 38 = .ok (.lushr, 1) := bd125 (btAt dk18b01pub_cJ13_bitCount_95d88_0_a 29 rfl)
theorem dJ13_bitCount_95d88_39 : decode cJ13_bitCount_95d88 39 = .ok (.ladd, 1) := bd97 (btAt dk18b01pub_cJ13_bitCount_95d88_0_a 30 rfl)
theorem dJ13_bitCount_95d88_40 : decode cJ13_bitCount_95d88 40 = .ok (.lstore_n 0, 1) := bd63 (btAt dk18b01pub_cJ13_bitCount_95d88_0_a 31 rfl)
theorem dJ13_bitCount_95d88_41 : decode cJ13_bitCount_95d88 41 = .ok (.lload_n 0, 1) := bd30 (btAt dk18b01pub_cJ13_bitCount_95d88_0_a 32 rfl)
theorem dJ13_bitCount_95d88_42 : decode cJ13_bitCount_95d88 42 = .ok (.lload_n 0, 1) := bd30 (btAt dk18b01pub_cJ13_bitCount_95d88_0_a 33 rfl)
theorem dJ13_bitCount_95d88_43 : decode cJ13_bitCount_95d88 43 = .ok (.bipush 16, 2) := bd16 (a := 16) (btAt dk18b01pub_cJ13_bitCount_95d88_0_a 34 rfl)
theorem dJ13_bitCount_95d88_45 : decode cJ13_bitCount_95d88 45 = .ok (.lushr, 1) := bd125 (btAt dk18b01pub_cJ13_bitCount_95d88_0_a 35 rfl)
theorem dJ13_bitCount_95d88_46 : decode cJ13_bitCount_95d88 46 = .ok (.ladd, 1) := bd97 (btAt dk18b01pub_cJ13_bitCount_95d88_0_a 36 rfl)
theorem dJ13_bitCount_95d88_47 : decode cJ13_bitCount_95d88 47 = .ok (.lstore_n 0, 1) := bd63 (btAt dk18b01pub_cJ13_bitCount_95d88_0_a 37 rfl)
theorem dJ13_bitCount_95d88_48 : decode cJ13_bitCount_95d88 48 = .ok (.lload_n 0, 1) := bd30 (btAt dk18b01pub_cJ13_bitCount_95d88_0_a 38 rfl)
theorem dJ13_bitCount_95d88_49 : decode cJ13_bitCount_95d88 49 = .ok (.lload_n 0, 1) := bd30 (btAt dk18b01pub_cJ13_bitCount_95d88_0_a 39 rfl)
noncomputable def dk18b01pub_cJ13_bitCount_95d88_40 : List (Nat × List Nat) := [(50, [16, 32]), (52, [125]), (53, [97]), (54, [63]), (55, [30]), (56, [136]), (57, [16, 127]), (59, [126]), (60, [172])]
set_option maxRecDepth 100000 in
theorem dk18b01pub_cJ13_bitCount_95d88_40_a : btA cJ13_bitCount_95d88 dk18b01pub_cJ13_bitCount_95d88_40 = true := by decide +kernel
theorem dJ13_bitCount_95d88_50 : decode cJ13_bitCount_95d88 50 = .ok (.bipush 32, 2) := bd16 (a := 32) (btAt dk18b01pub_cJ13_bitCount_95d88_40_a 0 rfl)
theorem dJ13_bitCount_95d88_52 : decode cJ13_bitCount_95d88 52 = .ok (.lushr, 1) := bd125 (btAt dk18b01pub_cJ13_bitCount_95d88_40_a 1 rfl)
theorem dJ13_bitCount_95d88_53 : decode cJ13_bitCount_95d88 53 = .ok (.ladd, 1) := bd97 (btAt dk18b01pub_cJ13_bitCount_95d88_40_a 2 rfl)
theorem dJ13_bitCount_95d88_54 : decode cJ13_bitCount_95d88 54 = .ok (.lstore_n 0, 1) := bd63 (btAt dk18b01pub_cJ13_bitCount_95d88_40_a 3 rfl)
theorem dJ13_bitCount_95d88_55 : decode cJ13_bitCount_95d88 55 = .ok (.lload_n 0, 1) := bd30 (btAt dk18b01pub_cJ13_bitCount_95d88_40_a 4 rfl)
theorem dJ13_bitCount_95d88_56 : decode cJ13_bitCount_95d88 56 = .ok (.l2i, 1) := bd136 (btAt dk18b01pub_cJ13_bitCount_95d88_40_a 5 rfl)
theorem dJ13_bitCount_95d88_57 : decode cJ13_bitCount_95d88 57 = .ok (.bipush 127, 2) := bd16 (a := 127) (btAt dk18b01pub_cJ13_bitCount_95d88_40_a 6 rfl)
theorem dJ13_bitCount_95d88_59 : decode cJ13_bitCount_95d88 59 = .ok (.iand, 1) := bd126 (btAt dk18b01pub_cJ13_bitCount_95d88_40_a 7 rfl)
theorem dJ13_bitCount_95d88_60 : decode cJ13_bitCount_95d88 60 = .ok (.ireturn, 1) := bd172 (btAt dk18b01pub_cJ13_bitCount_95d88_40_a 8 rfl)
theorem kc_bits_0 : (.constantLong RJ13 314 (6148914691236517205) : Cond) ∈ wsJ13_bitCount_95d88 := kc_of 531 rfl rfl rfl
theorem kc_bits_1 : (.constantLong RJ13 316 (3689348814741910323) : Cond) ∈ wsJ13_bitCount_95d88 := kc_of 532 rfl rfl rfl
theorem kc_bits_2 : (.constantLong RJ13 318 (1085102592571150095) : Cond) ∈ wsJ13_bitCount_95d88 := kc_of 533 rfl rfl rfl
set_option maxHeartbeats 4000000 in
set_option maxRecDepth 100000 in
theorem c_bits (l : Launch) (dC : Nat → ClassId) (dI : Nat → Nat → Nat) (eg : Nat) (heg : eg < 2 ^ 36) : Met l yJ13_bitCount_95d88 wsJ13_bitCount_95d88 ({ frames := 0, cells := 0, slots := 0, locals := 0 } : Room) (va_Pc [.long (lN eg)] (fun U => True)) (vp_Si (fun r => r = nI (bsum 36 eg))) 0 0 (fun _ => False) := by
  refine met_ofQ (cc := cJ13_bitCount_95d88) (maxL := 2) (ret := (some .int)) (by decide) rfl ?_
  intro p e s m args below meth c s₁ Q B hml hv hQ
  obtain ⟨rfl, -⟩ := hv
  have hx := B.exec
  have hb := B.bytes
  have hr := B.returns
  have hts := atoms_spec (ws := wsJ13_bitCount_95d88) B.pre
  have hown : s.vm.findClass RJ13 = some m.cls := findClass_of_methodNamed B.named
  have hlocks := B.notSynchronized
  obtain ⟨A, hAe⟩ : ∃ A : Nat → Prop, A = fun _ => False := ⟨_, rfl⟩
  rw [← hAe] at hQ
  have hS : va_S A s.heap s.heap [] := va_S.rf
  have hl := lv_entry [.long (lN eg)] (n := 2) (Nat.le_of_ble_eq_true rfl)
  rw [lg_entry_eq]
  generalize (lg_sl [.long (lN eg)] ++ List.replicate (2 - (lg_sl [.long (lN eg)]).length) Slot.unset).toArray = ls at hl ⊢
  generalize hag : ([.long (lN eg)] : List Value).toArray = args at hts hQ ⊢
  have hl : lv_has ls 2 [(0, .long (lN eg))] := hl
  refine lv_lload_n hx hb dJ13_bitCount_95d88_0 rfl (lv_at hl 0 rfl) ?_
  refine lv_lload_n hx hb dJ13_bitCount_95d88_1 rfl (lv_at hl 0 rfl) ?_
  refine lv_iconst (v := 1) hx hb dJ13_bitCount_95d88_2 (by decide) ?_
  refine lv_lushr (v := lN ((eg) / 2)) hx hb dJ13_bitCount_95d88_3 (wb_shr (n := eg) (k := 1) (by have h1 := sw1_le eg; have h2 := sw2_le (sw1 eg); have h3 := sw3_le (sw2 (sw1 eg)); omega) (by decide)) ?_
  refine lv_ldc2 (v := 6148914691236517205) hx hb hown (hts (.constantLong RJ13 314 (6148914691236517205)) kc_bits_0) dJ13_bitCount_95d88_4 ?_
  refine lv_land hx hb dJ13_bitCount_95d88_7 ?_
  refine ql_as (y := lN ((eg / 2) &&& 6148914691236517205)) (wb_and (by omega) (by decide)) ?_
  refine lv_lsub hx hb dJ13_bitCount_95d88_8 ?_
  refine ql_as (y := lN (sw1 eg)) (lN_sub (Nat.le_trans Nat.and_le_left (by omega))) ?_
  refine lv_lstore_n (lv' := [(0, .long (lN (sw1 eg)))]) hx hb dJ13_bitCount_95d88_9 rfl hl (by decide) rfl (fun ls hl => ?_)
  refine lv_lload_n hx hb dJ13_bitCount_95d88_10 rfl (lv_at hl 0 rfl) ?_
  refine lv_ldc2 (v := 3689348814741910323) hx hb hown (hts (.constantLong RJ13 316 (3689348814741910323)) kc_bits_1) dJ13_bitCount_95d88_11 ?_
  refine lv_land hx hb dJ13_bitCount_95d88_14 ?_
  refine ql_as (y := lN (sw1 eg &&& 3689348814741910323)) (wb_and (by have h1 := sw1_le eg; have h2 := sw2_le (sw1 eg); have h3 := sw3_le (sw2 (sw1 eg)); omega) (by decide)) ?_
  refine lv_lload_n hx hb dJ13_bitCount_95d88_15 rfl (lv_at hl 0 rfl) ?_
  refine lv_iconst (v := 2) hx hb dJ13_bitCount_95d88_16 (by decide) ?_
  refine lv_lushr (v := lN ((sw1 eg) / 4)) hx hb dJ13_bitCount_95d88_17 (wb_shr (n := sw1 eg) (k := 2) (by have h1 := sw1_le eg; have h2 := sw2_le (sw1 eg); have h3 := sw3_le (sw2 (sw1 eg)); omega) (by decide)) ?_
  refine lv_ldc2 (v := 3689348814741910323) hx hb hown (hts (.constantLong RJ13 316 (3689348814741910323)) kc_bits_1) dJ13_bitCount_95d88_18 ?_
  refine lv_land hx hb dJ13_bitCount_95d88_21 ?_
  refine ql_as (y := lN ((sw1 eg) / 4 &&& 3689348814741910323)) (wb_and (by have h1 := sw1_le eg; have h2 := sw2_le (sw1 eg); have h3 := sw3_le (sw2 (sw1 eg)); omega) (by decide)) ?_
  refine lv_ladd hx hb dJ13_bitCount_95d88_22 ?_
  refine ql_as (y := lN (sw2 (sw1 eg))) (lN_add _ _) ?_
  refine lv_lstore_n (lv' := [(0, .long (lN (sw2 (sw1 eg))))]) hx hb dJ13_bitCount_95d88_23 rfl hl (by decide) rfl (fun ls hl => ?_)
  refine lv_lload_n hx hb dJ13_bitCount_95d88_24 rfl (lv_at hl 0 rfl) ?_
  refine lv_lload_n hx hb dJ13_bitCount_95d88_25 rfl (lv_at hl 0 rfl) ?_
  refine lv_iconst (v := 4) hx hb dJ13_bitCount_95d88_26 (by decide) ?_
  refine lv_lushr (v := lN ((sw2 (sw1 eg)) / 16)) hx hb dJ13_bitCount_95d88_27 (wb_shr (n := sw2 (sw1 eg)) (k := 4) (by have h1 := sw1_le eg; have h2 := sw2_le (sw1 eg); have h3 := sw3_le (sw2 (sw1 eg)); omega) (by decide)) ?_
  refine lv_ladd hx hb dJ13_bitCount_95d88_28 ?_
  refine ql_as (y := lN (sw2 (sw1 eg) + (sw2 (sw1 eg)) / 16)) (lN_add _ _) ?_
  refine lv_ldc2 (v := 1085102592571150095) hx hb hown (hts (.constantLong RJ13 318 (1085102592571150095)) kc_bits_2) dJ13_bitCount_95d88_29 ?_
  refine lv_land hx hb dJ13_bitCount_95d88_32 ?_
  refine ql_as (y := lN (sw3 (sw2 (sw1 eg)))) (wb_and (by have h1 := sw1_le eg; have h2 := sw2_le (sw1 eg); have h3 := sw3_le (sw2 (sw1 eg)); omega) (by decide)) ?_
  refine lv_lstore_n (lv' := [(0, .long (lN (sw3 (sw2 (sw1 eg)))))]) hx hb dJ13_bitCount_95d88_33 rfl hl (by decide) rfl (fun ls hl => ?_)
  refine lv_lload_n hx hb dJ13_bitCount_95d88_34 rfl (lv_at hl 0 rfl) ?_
  refine lv_lload_n hx hb dJ13_bitCount_95d88_35 rfl (lv_at hl 0 rfl) ?_
  refine lv_bipush (v := 8) hx hb dJ13_bitCount_95d88_36 (by decide) ?_
  refine lv_lushr (v := lN ((sw3 (sw2 (sw1 eg))) / 256)) hx hb dJ13_bitCount_95d88_38 (wb_shr (n := sw3 (sw2 (sw1 eg))) (k := 8) (by have h1 := sw1_le eg; have h2 := sw2_le (sw1 eg); have h3 := sw3_le (sw2 (sw1 eg)); omega) (by decide)) ?_
  refine lv_ladd hx hb dJ13_bitCount_95d88_39 ?_
  refine ql_as (y := lN (sw3 (sw2 (sw1 eg)) + sw3 (sw2 (sw1 eg)) / 256)) (lN_add _ _) ?_
  refine lv_lstore_n (lv' := [(0, .long (lN (sw3 (sw2 (sw1 eg)) + sw3 (sw2 (sw1 eg)) / 256)))]) hx hb dJ13_bitCount_95d88_40 rfl hl (by decide) rfl (fun ls hl => ?_)
  refine lv_lload_n hx hb dJ13_bitCount_95d88_41 rfl (lv_at hl 0 rfl) ?_
  refine lv_lload_n hx hb dJ13_bitCount_95d88_42 rfl (lv_at hl 0 rfl) ?_
  refine lv_bipush (v := 16) hx hb dJ13_bitCount_95d88_43 (by decide) ?_
  refine lv_lushr (v := lN ((sw3 (sw2 (sw1 eg)) + sw3 (sw2 (sw1 eg)) / 256) / 65536)) hx hb dJ13_bitCount_95d88_45 (wb_shr (n := sw3 (sw2 (sw1 eg)) + sw3 (sw2 (sw1 eg)) / 256) (k := 16) (by have h1 := sw1_le eg; have h2 := sw2_le (sw1 eg); have h3 := sw3_le (sw2 (sw1 eg)); omega) (by decide)) ?_
  refine lv_ladd hx hb dJ13_bitCount_95d88_46 ?_
  refine ql_as (y := lN ((sw3 (sw2 (sw1 eg)) + sw3 (sw2 (sw1 eg)) / 256) + (sw3 (sw2 (sw1 eg)) + sw3 (sw2 (sw1 eg)) / 256) / 65536)) (lN_add _ _) ?_
  refine lv_lstore_n (lv' := [(0, .long (lN ((sw3 (sw2 (sw1 eg)) + sw3 (sw2 (sw1 eg)) / 256) + (sw3 (sw2 (sw1 eg)) + sw3 (sw2 (sw1 eg)) / 256) / 65536)))]) hx hb dJ13_bitCount_95d88_47 rfl hl (by decide) rfl (fun ls hl => ?_)
  refine lv_lload_n hx hb dJ13_bitCount_95d88_48 rfl (lv_at hl 0 rfl) ?_
  refine lv_lload_n hx hb dJ13_bitCount_95d88_49 rfl (lv_at hl 0 rfl) ?_
  refine lv_bipush (v := 32) hx hb dJ13_bitCount_95d88_50 (by decide) ?_
  refine lv_lushr (v := lN (((sw3 (sw2 (sw1 eg)) + sw3 (sw2 (sw1 eg)) / 256) + (sw3 (sw2 (sw1 eg)) + sw3 (sw2 (sw1 eg)) / 256) / 65536) / 4294967296)) hx hb dJ13_bitCount_95d88_52 (wb_shr (n := (sw3 (sw2 (sw1 eg)) + sw3 (sw2 (sw1 eg)) / 256) + (sw3 (sw2 (sw1 eg)) + sw3 (sw2 (sw1 eg)) / 256) / 65536) (k := 32) (by have h1 := sw1_le eg; have h2 := sw2_le (sw1 eg); have h3 := sw3_le (sw2 (sw1 eg)); omega) (by decide)) ?_
  refine lv_ladd hx hb dJ13_bitCount_95d88_53 ?_
  refine ql_as (y := lN (((sw3 (sw2 (sw1 eg)) + sw3 (sw2 (sw1 eg)) / 256) + (sw3 (sw2 (sw1 eg)) + sw3 (sw2 (sw1 eg)) / 256) / 65536) + ((sw3 (sw2 (sw1 eg)) + sw3 (sw2 (sw1 eg)) / 256) + (sw3 (sw2 (sw1 eg)) + sw3 (sw2 (sw1 eg)) / 256) / 65536) / 4294967296)) (lN_add _ _) ?_
  refine lv_lstore_n (lv' := [(0, .long (lN (((sw3 (sw2 (sw1 eg)) + sw3 (sw2 (sw1 eg)) / 256) + (sw3 (sw2 (sw1 eg)) + sw3 (sw2 (sw1 eg)) / 256) / 65536) + ((sw3 (sw2 (sw1 eg)) + sw3 (sw2 (sw1 eg)) / 256) + (sw3 (sw2 (sw1 eg)) + sw3 (sw2 (sw1 eg)) / 256) / 65536) / 4294967296)))]) hx hb dJ13_bitCount_95d88_54 rfl hl (by decide) rfl (fun ls hl => ?_)
  refine lv_lload_n hx hb dJ13_bitCount_95d88_55 rfl (lv_at hl 0 rfl) ?_
  refine lv_l2i (v := nI (((sw3 (sw2 (sw1 eg)) + sw3 (sw2 (sw1 eg)) / 256) + (sw3 (sw2 (sw1 eg)) + sw3 (sw2 (sw1 eg)) / 256) / 65536) + ((sw3 (sw2 (sw1 eg)) + sw3 (sw2 (sw1 eg)) / 256) + (sw3 (sw2 (sw1 eg)) + sw3 (sw2 (sw1 eg)) / 256) / 65536) / 4294967296)) hx hb dJ13_bitCount_95d88_56 (lN_i _) ?_
  refine lv_bipush (v := 127) hx hb dJ13_bitCount_95d88_57 (by decide) ?_
  refine lv_iand hx hb dJ13_bitCount_95d88_59 ?_
  refine qi_as (y := nI ((((sw3 (sw2 (sw1 eg)) + sw3 (sw2 (sw1 eg)) / 256) + (sw3 (sw2 (sw1 eg)) + sw3 (sw2 (sw1 eg)) / 256) / 65536) + ((sw3 (sw2 (sw1 eg)) + sw3 (sw2 (sw1 eg)) / 256) + (sw3 (sw2 (sw1 eg)) + sw3 (sw2 (sw1 eg)) / 256) / 65536) / 4294967296) % 128)) (and127 _) ?_
  rw [hQ]
  exact W.iret (v := nI ((((sw3 (sw2 (sw1 eg)) + sw3 (sw2 (sw1 eg)) / 256) + (sw3 (sw2 (sw1 eg)) + sw3 (sw2 (sw1 eg)) / 256) / 65536) + ((sw3 (sw2 (sw1 eg)) + sw3 (sw2 (sw1 eg)) / 256) + (sw3 (sw2 (sw1 eg)) + sw3 (sw2 (sw1 eg)) / 256) / 65536) / 4294967296) % 128)) hx hb hr (fun tQ htQ hWQ => ⟨nI ((((sw3 (sw2 (sw1 eg)) + sw3 (sw2 (sw1 eg)) / 256) + (sw3 (sw2 (sw1 eg)) + sw3 (sw2 (sw1 eg)) / 256) / 65536) + ((sw3 (sw2 (sw1 eg)) + sw3 (sw2 (sw1 eg)) / 256) + (sw3 (sw2 (sw1 eg)) + sw3 (sw2 (sw1 eg)) / 256) / 65536) / 4294967296) % 128), rfl, congrArg nI (sw_all heg), by rw [htQ]⟩) (fun q hq => absurd hq List.not_mem_nil) dJ13_bitCount_95d88_60
end mg18a
section mg18a
theorem ggX11_edges_J13_bitCount_95d88 : GoodIn wsX11_edges wsJ13_bitCount_95d88 := gga_of 530 rfl rfl rfl
theorem gX11_edges_J13_bitCount_95d88 : GoodIn wsX11_edges (va_wsS RX11 77 yJ13_bitCount_95d88 wsJ13_bitCount_95d88) := goodIn_app (ggh_of [528, 529, 80] rfl rfl rfl) ggX11_edges_J13_bitCount_95d88
noncomputable def dk18b02pub_cX11_edges_0 : List (Nat × List Nat) := [(0, [31]), (1, [20, 0, 71]), (4, [127]), (5, [9]), (6, [148]), (7, [153, 0, 6]), (10, [16, 254]), (12, [172]), (13, [42]), (14, [180, 0, 14]), (17, [180, 0, 73]), (20, [184, 0, 77]), (23, [62]), (24, [42]), (25, [180, 0, 14]), (28, [31]), (29, [181, 0, 73]), (32, [29]), (33, [172])]
set_option maxRecDepth 100000 in
theorem dk18b02pub_cX11_edges_0_a : btA cX11_edges dk18b02pub_cX11_edges_0 = true := by decide +kernel
theorem dX11_edges_0 : decode cX11_edges 0 = .ok (.lload_n 1, 1) := bd31 (btAt dk18b02pub_cX11_edges_0_a 0 rfl)
theorem dX11_edges_1 : decode cX11_edges 1 = .ok (.ldc2_w 71, 3) := bd20 (a := 0) (b := 71) (btAt dk18b02pub_cX11_edges_0_a 1 rfl)
theorem dX11_edges_4 : decode cX11_edges 4 = .ok (.land, 1) := bd127 (btAt dk18b02pub_cX11_edges_0_a 2 rfl)
theorem dX11_edges_5 : decode cX11_edges 5 = .ok (.lconst 0, 1) := bd9 (btAt dk18b02pub_cX11_edges_0_a 3 rfl)
theorem dX11_edges_6 : decode cX11_edges 6 = .ok (.lcmp, 1) := bd148 (btAt dk18b02pub_cX11_edges_0_a 4 rfl)
theorem dX11_edges_7 : decode cX11_edges 7 = .ok (.ifCond .eq 6, 3) := bd153 (a := 0) (b := 6) (btAt dk18b02pub_cX11_edges_0_a 5 rfl)
theorem dX11_edges_10 : decode cX11_edges 10 = .ok (.bipush (-2), 2) := bd16 (a := 254) (btAt dk18b02pub_cX11_edges_0_a 6 rfl)
theorem dX11_edges_12 : decode cX11_edges 12 = .ok (.ireturn, 1) := bd172 (btAt dk18b02pub_cX11_edges_0_a 7 rfl)
theorem dX11_edges_13 : decode cX11_edges 13 = .ok (.aload_n 0, 1) := bd42 (btAt dk18b02pub_cX11_edges_0_a 8 rfl)
theorem dX11_edges_14 : decode cX11_edges 14 = .ok (.getfield 14, 3) := bd180 (a := 0) (b := 14) (btAt dk18b02pub_cX11_edges_0_a 9 rfl)
theorem dX11_edges_17 : decode cX11_edges 17 = .ok (.getfield 73, 3) := bd180 (a := 0) (b := 73) (btAt dk18b02pub_cX11_edges_0_a 10 rfl)
theorem dX11_edges_20 : decode cX11_edges 20 = .ok (.invokestatic 77, 3) := bd184 (a := 0) (b := 77) (btAt dk18b02pub_cX11_edges_0_a 11 rfl)
theorem dX11_edges_23 : decode cX11_edges 23 = .ok (.istore_n 3, 1) := bd62 (btAt dk18b02pub_cX11_edges_0_a 12 rfl)
theorem dX11_edges_24 : decode cX11_edges 24 = .ok (.aload_n 0, 1) := bd42 (btAt dk18b02pub_cX11_edges_0_a 13 rfl)
theorem dX11_edges_25 : decode cX11_edges 25 = .ok (.getfield 14, 3) := bd180 (a := 0) (b := 14) (btAt dk18b02pub_cX11_edges_0_a 14 rfl)
theorem dX11_edges_28 : decode cX11_edges 28 = .ok (.lload_n 1, 1) := bd31 (btAt dk18b02pub_cX11_edges_0_a 15 rfl)
theorem dX11_edges_29 : decode cX11_edges 29 = .ok (.putfield 73, 3) := bd181 (a := 0) (b := 73) (btAt dk18b02pub_cX11_edges_0_a 16 rfl)
theorem dX11_edges_32 : decode cX11_edges 32 = .ok (.iload_n 3, 1) := bd29 (btAt dk18b02pub_cX11_edges_0_a 17 rfl)
theorem dX11_edges_33 : decode cX11_edges 33 = .ok (.ireturn, 1) := bd172 (btAt dk18b02pub_cX11_edges_0_a 18 rfl)
theorem kc_xEdges_0 : (.constantLong RX11 71 (-68719476736) : Cond) ∈ wsX11_edges := kc_of 527 rfl rfl rfl
theorem kc_xEdges_1 : ∀ w ∈ wsX110, w ∈ wsX11_edges := fun w h => List.mem_cons_of_mem _ (gin_wsX110 w h)
theorem kc_xEdges_2 : (.fieldLink RX11 14 "MistHeaps" "scene" "LMistHeaps$Scene;" : Cond) ∈ wsX11_edges := kc_of 328 rfl rfl rfl
theorem kc_xEdges_3 : ∀ w ∈ wsX80, w ∈ wsX11_edges := fun w h => List.mem_cons_of_mem _ (gin_wsX80 w h)
theorem kc_xEdges_4 : (.fieldLink RX11 73 "MistHeaps$Scene" "edges" "J" : Cond) ∈ wsX11_edges := kc_of 161 rfl rfl rfl
set_option maxHeartbeats 4000000 in
set_option maxRecDepth 100000 in
theorem c_xEdges (l : Launch) (dC : Nat → ClassId) (dI : Nat → Nat → Nat) (h0 : Nat) (sc : Nat) (kp : Nat) (bl : Nat) (go : Nat) (ch : Nat) (bo : Nat) (aTp : Nat) (aHl : Nat) (aHs : Nat) (aWk : Nat) (aBk : Nat) (aFc : Nat) (ts : Nat) (nh : Nat) (n : Nat) (wz : Nat) (bz : Nat) (mi : Int32) (sn : Int32) (ik : Int32) (mk : Int64) (ee : Nat) (sz : Nat) (hee : ee < 2 ^ 36) : Met l yX11_edges wsX11_edges ({ frames := 1, cells := 0, slots := 0, locals := 21 } : Room) (va_Pc [.ref h0, .long mk] (fun U => U.heap.size = sz ∧ va_P (dC, dI) vwCl [(zo13rrirrrr h0 sc kp ik bl go ch bo), (zo10ririliiriririr sc aTp (nI ts) aHl (nI nh) (lN ee) mi sn aHs (nI n) aWk (nI wz) aBk (nI bz) aFc)] U.heap ∧ va_K (dC, dI) vwCl [] U ∧ va_D (fun _ => True) [(zo13rrirrrr h0 sc kp ik bl go ch bo), (zo10ririliiriririr sc aTp (nI ts) aHl (nI nh) (lN ee) mi sn aHs (nI n) aWk (nI wz) aBk (nI bz) aFc)])) (va_Qi (fun (r : Int32) (u : Int64) => match u with | ed9 => r = edR ee mk ∧ ((¬ edK mk ∧ ed9 = lN ee) ∨ (edK mk ∧ ∃ e : Nat, e < 2 ^ 36 ∧ mk = lN e ∧ ed9 = lN e))) (fun (u : Int64) (t : State) => match u with | ed9 => va_P (dC, dI) vwCl [(zo13rrirrrr h0 sc kp ik bl go ch bo), (zo10ririliiriririr sc aTp (nI ts) aHl (nI nh) ed9 mi sn aHs (nI n) aWk (nI wz) aBk (nI bz) aFc)] t.heap ∧ va_K (dC, dI) vwCl [] t ∧ va_D (va_A [(zo13rrirrrr h0 sc kp ik bl go ch bo), (zo10ririliiriririr sc aTp (nI ts) aHl (nI nh) (lN ee) mi sn aHs (nI n) aWk (nI wz) aBk (nI bz) aFc)] sz) [(zo13rrirrrr h0 sc kp ik bl go ch bo), (zo10ririliiriririr sc aTp (nI ts) aHl (nI nh) ed9 mi sn aHs (nI n) aWk (nI wz) aBk (nI bz) aFc)]) (va_A [(zo13rrirrrr h0 sc kp ik bl go ch bo), (zo10ririliiriririr sc aTp (nI ts) aHl (nI nh) (lN ee) mi sn aHs (nI n) aWk (nI wz) aBk (nI bz) aFc)] sz)) 0 0 (va_A [(zo13rrirrrr h0 sc kp ik bl go ch bo), (zo10ririliiriririr sc aTp (nI ts) aHl (nI nh) (lN ee) mi sn aHs (nI n) aWk (nI wz) aBk (nI bz) aFc)] sz) := by
  refine met_ofQ (cc := cX11_edges) (maxL := 4) (ret := (some .int)) (by decide) rfl ?_
  intro p e s m args below meth c s₁ Q B hml hv hQ
  obtain ⟨rfl, hsz, hP, hK, hD0⟩ := hv
  have hx := B.exec
  have hb := B.bytes
  have hr := B.returns
  have hts := atoms_spec (ws := wsX11_edges) B.pre
  have hown : s.vm.findClass RX11 = some m.cls := findClass_of_methodNamed B.named
  have hlocks := B.notSynchronized
  subst hsz
  have hD := hD0.self (sz := s.heap.size)
  generalize hAe : va_A [(zo13rrirrrr h0 sc kp ik bl go ch bo), (zo10ririliiriririr sc aTp (nI ts) aHl (nI nh) (lN ee) mi sn aHs (nI n) aWk (nI wz) aBk (nI bz) aFc)] s.heap.size = A at hD hQ ⊢
  have hA : ∀ q : Nat, s.heap.size ≤ q → A q := fun q h => by rw [← hAe]; exact Or.inr h
  have hS : va_S A s.heap s.heap [] := va_S.rf
  have hl := lv_entry [.ref h0, .long mk] (n := 4) (Nat.le_of_ble_eq_true rfl)
  rw [lg_entry_eq]
  generalize (lg_sl [.ref h0, .long mk] ++ List.replicate (4 - (lg_sl [.ref h0, .long mk]).length) Slot.unset).toArray = ls at hl ⊢
  generalize hag : ([.ref h0, .long mk] : List Value).toArray = args at hts hQ ⊢
  have hl : lv_has ls 4 [(0, .ref h0), (1, .long mk)] := hl
  obtain ⟨H, hH⟩ : ∃ H : Heap, H = s.heap := ⟨_, rfl⟩
  rw [← hH] at hP
  rw [← hH]
  have hS : va_S A s.heap H [] := by rw [hH]; exact hS
  obtain ⟨locs, hlo⟩ : ∃ L : List Loc, L = [] := ⟨_, rfl⟩
  rw [← hlo] at hS
  rw [← hlo]
  clear hH hlo
  refine lv_lload_n hx hb dX11_edges_0 rfl (lv_at hl 1 rfl) ?_
  refine lv_ldc2 (v := (-68719476736)) hx hb hown (hts (.constantLong RX11 71 (-68719476736)) kc_xEdges_0) dX11_edges_1 ?_
  refine lv_land hx hb dX11_edges_4 ?_
  refine lv_lconst (v := 0) hx hb dX11_edges_5 (by decide) ?_
  refine W.lcmp hx hb dX11_edges_6 ?_
  refine lv_if_eq (tgt := 13) hx hb dX11_edges_7 (by decide) (fun c_1 => ?_) (fun c_1 => ?_)
  · skip
    have hk9 : edK mk := (lg_cmp_eq _ _).mp c_1
    refine lv_aload_n hx hb dX11_edges_13 rfl (lv_at hl 0 rfl) ?_
    refine va_get (D := (dC, dI)) (ci := 13) (v := .ref sc) (C := RX11) (T := TX11) (N := 7) hx hb hts kc_xEdges_1 hown hK hP 0 rfl rfl 0 (by decide) (hts (.fieldLink RX11 14 "MistHeaps" "scene" "LMistHeaps$Scene;") kc_xEdges_2) (fun _ h9 => h9) rfl dX11_edges_14 ?_
    refine va_get (D := (dC, dI)) (ci := 10) (v := .long (lN ee)) (C := RX8) (T := TX8) (N := 14) hx hb hts kc_xEdges_3 hown hK hP 1 rfl rfl 4 (by decide) (hts (.fieldLink RX11 73 "MistHeaps$Scene" "edges" "J") kc_xEdges_4) (fun _ h9 => h9) rfl dX11_edges_17 ?_
    refine vp_callSi (va_runS (As := [.long (lN ee)]) (rest := []) ⟨hx, hb, hml, hown, hts⟩ (c_bits l dC dI ee hee) (va_cwS 1 hts gX11_edges_J13_bitCount_95d88 rfl rfl rfl hd_yJ13_bitCount_95d88.2 ⟨Nat.le_of_ble_eq_true rfl, Nat.le_of_ble_eq_true rfl⟩) ⟨fun a U g mk q => ⟨q.1, trivial⟩, fun U hU hW => ⟨rfl, trivial⟩⟩ rfl rfl hl.1 rfl (lv_room (Nat.le_of_ble_eq_true rfl)) dX11_edges_20 ⟨Nat.le_of_ble_eq_true rfl, Nat.le_of_ble_eq_true rfl⟩).run (fun r_2 hw_3 => ?_)
    obtain rfl := hw_3
    refine lv_istore_n (lv' := [(3, .int (nI (bsum 36 ee))), (0, .ref h0), (1, .long mk)]) hx hb dX11_edges_23 rfl hl (by decide) rfl (fun ls hl => ?_)
    refine lv_aload_n hx hb dX11_edges_24 rfl (lv_at hl 1 rfl) ?_
    refine va_get (D := (dC, dI)) (ci := 13) (v := .ref sc) (C := RX11) (T := TX11) (N := 7) hx hb hts kc_xEdges_1 hown hK hP 0 rfl rfl 0 (by decide) (hts (.fieldLink RX11 14 "MistHeaps" "scene" "LMistHeaps$Scene;") kc_xEdges_2) (fun _ h9 => h9) rfl dX11_edges_25 ?_
    refine lv_lload_n hx hb dX11_edges_28 rfl (lv_at hl 2 rfl) ?_
    refine va_put (D := (dC, dI)) (ci := 10) (v := .long mk) (ty := .long) (C := RX8) (T := TX8) (N := 14) hx hb hts kc_xEdges_3 tyX8 tyX8_ok nmX8 hown hK hP hD hS 1 rfl rfl 4 (by decide) (hts (.fieldLink RX11 73 "MistHeaps$Scene" "edges" "J") kc_xEdges_4) (fun _ h9 => h9) rfl (by decide +kernel) rfl rfl (Nat.le_of_ble_eq_true rfl) dX11_edges_29 (fun H locs hP hD hS => ?_)
    have hP : va_P (dC, dI) vwCl [(zo13rrirrrr h0 sc kp ik bl go ch bo), (zo10ririliiriririr sc aTp (nI ts) aHl (nI nh) mk mi sn aHs (nI n) aWk (nI wz) aBk (nI bz) aFc)] H := hP
    have hD : va_D A [(zo13rrirrrr h0 sc kp ik bl go ch bo), (zo10ririliiriririr sc aTp (nI ts) aHl (nI nh) mk mi sn aHs (nI n) aWk (nI wz) aBk (nI bz) aFc)] := hD
    refine lv_iload_n hx hb dX11_edges_32 rfl (lv_at hl 0 rfl) ?_
    rw [hQ]
    have hP9 := hP.sub (ws' := [(zo13rrirrrr h0 sc kp ik bl go ch bo), (zo10ririliiriririr sc aTp (nI ts) aHl (nI nh) mk mi sn aHs (nI n) aWk (nI wz) aBk (nI bz) aFc)]) [0, 1] rfl
    have hD9 := hD.sub (ws' := [(zo13rrirrrr h0 sc kp ik bl go ch bo), (zo10ririliiriririr sc aTp (nI ts) aHl (nI nh) mk mi sn aHs (nI n) aWk (nI wz) aBk (nI bz) aFc)]) [0, 1] (by decide) rfl
    have hK9 := hK.sub (tys' := []) [] rfl
    exact W.iret (v := nI (bsum 36 ee)) hx hb hr (fun tQ htQ hWQ => ⟨⟨(nI (bsum 36 ee)), mk, rfl, ⟨ed_yes hk9, Or.inr ⟨hk9, by obtain ⟨e, he, q9⟩ := ed_of hk9; exact ⟨e, he, q9, q9⟩⟩⟩, by rw [htQ]; exact hP9, va_K.moved hWQ.alike hK9, hD9⟩, hS.F htQ⟩) hS.2.2 dX11_edges_33
  · skip
    have hk9 : ¬ edK mk := fun z => c_1 ((lg_cmp_eq _ _).mpr z)
    refine lv_bipush (v := (-2)) hx hb dX11_edges_10 (by decide) ?_
    rw [hQ]
    have hP9 := hP.sub (ws' := [(zo13rrirrrr h0 sc kp ik bl go ch bo), (zo10ririliiriririr sc aTp (nI ts) aHl (nI nh) (lN ee) mi sn aHs (nI n) aWk (nI wz) aBk (nI bz) aFc)]) [0, 1] rfl
    have hD9 := hD.sub (ws' := [(zo13rrirrrr h0 sc kp ik bl go ch bo), (zo10ririliiriririr sc aTp (nI ts) aHl (nI nh) (lN ee) mi sn aHs (nI n) aWk (nI wz) aBk (nI bz) aFc)]) [0, 1] (by decide) rfl
    have hK9 := hK.sub (tys' := []) [] rfl
    exact W.iret (v := (-2)) hx hb hr (fun tQ htQ hWQ => ⟨⟨(-2), (lN ee), rfl, ⟨ed_no hk9, Or.inl ⟨hk9, rfl⟩⟩, by rw [htQ]; exact hP9, va_K.moved hWQ.alike hK9, hD9⟩, hS.F htQ⟩) hS.2.2 dX11_edges_12
end mg18a
section mg18a
theorem ggX11_told_J13_bitCount_95d88 : GoodIn wsX11_told wsJ13_bitCount_95d88 := gga_of 530 rfl rfl rfl
theorem gX11_told_J13_bitCount_95d88 : GoodIn wsX11_told (va_wsS RX11 77 yJ13_bitCount_95d88 wsJ13_bitCount_95d88) := goodIn_app (ggh_of [528, 529, 80] rfl rfl rfl) ggX11_told_J13_bitCount_95d88
noncomputable def dk18b03pub_cX11_told_0 : List (Nat × List Nat) := [(0, [27]), (32, [42]), (33, [180, 0, 14]), (36, [180, 0, 85]), (39, [172]), (40, [42]), (41, [180, 0, 14]), (44, [180, 0, 88]), (47, [172]), (48, [42]), (49, [180, 0, 14]), (52, [180, 0, 68]), (55, [180, 0, 91]), (58, [172]), (59, [42]), (60, [180, 0, 14]), (63, [180, 0, 73]), (66, [184, 0, 77]), (69, [172]), (70, [2]), (71, [172])]
set_option maxRecDepth 100000 in
theorem dk18b03pub_cX11_told_0_a : btA cX11_told dk18b03pub_cX11_told_0 = true := by decide +kernel
theorem dX11_told_0 : decode cX11_told 0 = .ok (.iload_n 1, 1) := bd27 (btAt dk18b03pub_cX11_told_0_a 0 rfl)
theorem dX11_told_32 : decode cX11_told 32 = .ok (.aload_n 0, 1) := bd42 (btAt dk18b03pub_cX11_told_0_a 1 rfl)
theorem dX11_told_33 : decode cX11_told 33 = .ok (.getfield 14, 3) := bd180 (a := 0) (b := 14) (btAt dk18b03pub_cX11_told_0_a 2 rfl)
theorem dX11_told_36 : decode cX11_told 36 = .ok (.getfield 85, 3) := bd180 (a := 0) (b := 85) (btAt dk18b03pub_cX11_told_0_a 3 rfl)
theorem dX11_told_39 : decode cX11_told 39 = .ok (.ireturn, 1) := bd172 (btAt dk18b03pub_cX11_told_0_a 4 rfl)
theorem dX11_told_40 : decode cX11_told 40 = .ok (.aload_n 0, 1) := bd42 (btAt dk18b03pub_cX11_told_0_a 5 rfl)
theorem dX11_told_41 : decode cX11_told 41 = .ok (.getfield 14, 3) := bd180 (a := 0) (b := 14) (btAt dk18b03pub_cX11_told_0_a 6 rfl)
theorem dX11_told_44 : decode cX11_told 44 = .ok (.getfield 88, 3) := bd180 (a := 0) (b := 88) (btAt dk18b03pub_cX11_told_0_a 7 rfl)
theorem dX11_told_47 : decode cX11_told 47 = .ok (.ireturn, 1) := bd172 (btAt dk18b03pub_cX11_told_0_a 8 rfl)
theorem dX11_told_48 : decode cX11_told 48 = .ok (.aload_n 0, 1) := bd42 (btAt dk18b03pub_cX11_told_0_a 9 rfl)
theorem dX11_told_49 : decode cX11_told 49 = .ok (.getfield 14, 3) := bd180 (a := 0) (b := 14) (btAt dk18b03pub_cX11_told_0_a 10 rfl)
theorem dX11_told_52 : decode cX11_told 52 = .ok (.getfield 68, 3) := bd180 (a := 0) (b := 68) (btAt dk18b03pub_cX11_told_0_a 11 rfl)
theorem dX11_told_55 : decode cX11_told 55 = .ok (.getfield 91, 3) := bd180 (a := 0) (b := 91) (btAt dk18b03pub_cX11_told_0_a 12 rfl)
theorem dX11_told_58 : decode cX11_told 58 = .ok (.ireturn, 1) := bd172 (btAt dk18b03pub_cX11_told_0_a 13 rfl)
theorem dX11_told_59 : decode cX11_told 59 = .ok (.aload_n 0, 1) := bd42 (btAt dk18b03pub_cX11_told_0_a 14 rfl)
theorem dX11_told_60 : decode cX11_told 60 = .ok (.getfield 14, 3) := bd180 (a := 0) (b := 14) (btAt dk18b03pub_cX11_told_0_a 15 rfl)
theorem dX11_told_63 : decode cX11_told 63 = .ok (.getfield 73, 3) := bd180 (a := 0) (b := 73) (btAt dk18b03pub_cX11_told_0_a 16 rfl)
theorem dX11_told_66 : decode cX11_told 66 = .ok (.invokestatic 77, 3) := bd184 (a := 0) (b := 77) (btAt dk18b03pub_cX11_told_0_a 17 rfl)
theorem dX11_told_69 : decode cX11_told 69 = .ok (.ireturn, 1) := bd172 (btAt dk18b03pub_cX11_told_0_a 18 rfl)
theorem dX11_told_70 : decode cX11_told 70 = .ok (.iconst (-1), 1) := bd2 (btAt dk18b03pub_cX11_told_0_a 19 rfl)
theorem dX11_told_71 : decode cX11_told 71 = .ok (.ireturn, 1) := bd172 (btAt dk18b03pub_cX11_told_0_a 20 rfl)
set_option maxRecDepth 100000 in
theorem dX11_told_1 : decode cX11_told 1 = .ok (.tableswitch 69 0 3 #[31, 39, 47, 58], 31) := by decide +kernel
theorem kc_xTold_0 : ∀ w ∈ wsX110, w ∈ wsX11_told := fun w h => List.mem_cons_of_mem _ (gin_wsX110 w h)
theorem kc_xTold_1 : (.fieldLink RX11 14 "MistHeaps" "scene" "LMistHeaps$Scene;" : Cond) ∈ wsX11_told := kc_of 328 rfl rfl rfl
theorem kc_xTold_2 : ∀ w ∈ wsX80, w ∈ wsX11_told := fun w h => List.mem_cons_of_mem _ (gin_wsX80 w h)
theorem kc_xTold_3 : (.fieldLink RX11 85 "MistHeaps$Scene" "mist" "I" : Cond) ∈ wsX11_told := kc_of 164 rfl rfl rfl
theorem kc_xTold_4 : (.fieldLink RX11 88 "MistHeaps$Scene" "snow" "I" : Cond) ∈ wsX11_told := kc_of 166 rfl rfl rfl
theorem kc_xTold_5 : (.fieldLink RX11 68 "MistHeaps$Scene" "hill" "LMistHeaps$Hill;" : Cond) ∈ wsX11_told := kc_of 157 rfl rfl rfl
theorem kc_xTold_6 : (.fieldLink RX11 91 "MistHeaps$Hill" "sight" "I" : Cond) ∈ wsX11_told := kc_of 115 rfl rfl rfl
theorem kc_xTold_7 : ∀ w ∈ wsX50, w ∈ wsX11_told := fun w h => List.mem_cons_of_mem _ (gin_wsX50 w h)
theorem kc_xTold_8 : (.fieldLink RX11 73 "MistHeaps$Scene" "edges" "J" : Cond) ∈ wsX11_told := kc_of 161 rfl rfl rfl
set_option maxHeartbeats 4000000 in
set_option maxRecDepth 100000 in
theorem c_xTold (l : Launch) (dC : Nat → ClassId) (dI : Nat → Nat → Nat)  (h0 : Nat) (sc : Nat) (kp : Nat) (bl : Nat) (go : Nat) (ch : Nat) (bo : Nat) (aTp : Nat) (aHl : Nat) (aHs : Nat) (aWk : Nat) (aBk : Nat) (aFc : Nat) (bW : Nat) (bA : Nat) (bE : Nat) (bC : Nat) (ts : Nat) (nh : Nat) (n : Nat) (wz : Nat) (bz : Nat) (cl : Nat) (mi : Int32) (sn : Int32) (sg : Int32) (cdd : Int32) (szz : Int32) (att : Int32) (nmb : Int32) (ik : Int32) (x : Int32) (cbW : ClassId) (cbA : ClassId) (cbE : ClassId) (cbC : ClassId) (fbW : Nat → Int32) (fbA : Nat → Int32) (fbE : Nat → Int32) (fbC : Nat → Int32) (tpv : Value) (ee : Nat) (hC : List pCla) (hee : ee < 2 ^ 36) (hsg : sg = nI (sgC hC)) : Met l yX11_told wsX11_told ({ frames := 1, cells := 0, slots := 0, locals := 21 } : Room) (va_Pc [.ref h0, .int x] (fun U => va_P (dC, dI) vwCl [(zo13rrirrrr h0 sc kp ik bl go ch bo), (zo10ririliiriririr sc aTp (nI ts) aHl (nI nh) (lN ee) mi sn aHs (nI n) aWk (nI wz) aBk (nI bz) aFc)] U.heap ∧ va_K (dC, dI) vwCl [] U ∧ Fz dC dI [(zo7iirrrriviii aHl sg (nI cl) bW bA bE bC cdd tpv szz att nmb), (zaI bW cbW 10 fbW), (zaI bA cbA 10 fbA), (zaI bE cbE 10 fbE), (zaI bC cbC 100 fbC)] [(cbW, .int), (cbA, .int), (cbE, .int), (cbC, .int)] (fun _ => False) U)) (vp_Si (fun r => r = tdR mi sn (sgC hC) ee x)) 0 0 (fun _ => False) := by
  refine met_ofQ (cc := cX11_told) (maxL := 2) (ret := (some .int)) (by decide) rfl ?_
  intro p e s m args below meth c s₁ Q B hml hv hQ
  obtain ⟨rfl, hP, hK, hZ⟩ := hv
  have hx := B.exec
  have hb := B.bytes
  have hr := B.returns
  have hts := atoms_spec (ws := wsX11_told) B.pre
  have hown : s.vm.findClass RX11 = some m.cls := findClass_of_methodNamed B.named
  have hlocks := B.notSynchronized
  obtain ⟨A, hAe⟩ : ∃ A : Nat → Prop, A = fun _ => False := ⟨_, rfl⟩
  rw [← hAe] at hQ hZ
  have hS : va_S A s.heap s.heap [] := va_S.rf
  have hl := lv_entry [.ref h0, .int x] (n := 2) (Nat.le_of_ble_eq_true rfl)
  rw [lg_entry_eq]
  generalize (lg_sl [.ref h0, .int x] ++ List.replicate (2 - (lg_sl [.ref h0, .int x]).length) Slot.unset).toArray = ls at hl ⊢
  generalize hag : ([.ref h0, .int x] : List Value).toArray = args at hts hQ ⊢
  have hl : lv_has ls 2 [(0, .ref h0), (1, .int x)] := hl
  subst hsg
  refine lv_iload_n hx hb dX11_told_0 rfl (lv_at hl 1 rfl) ?_
  by_cases c_1_0 : x = 0
  · skip
    refine lv_tableIn (tgt := 32) hx hb dX11_told_1 (by rw [c_1_0]; decide) (by rw [c_1_0]; decide) (by rw [c_1_0]; rfl) (by decide) ?_
    refine lv_aload_n hx hb dX11_told_32 rfl (lv_at hl 0 rfl) ?_
    refine va_get (D := (dC, dI)) (ci := 13) (v := .ref sc) (C := RX11) (T := TX11) (N := 7) hx hb hts kc_xTold_0 hown hK hP 0 rfl rfl 0 (by decide) (hts (.fieldLink RX11 14 "MistHeaps" "scene" "LMistHeaps$Scene;") kc_xTold_1) (fun _ h9 => h9) rfl dX11_told_33 ?_
    refine va_get (D := (dC, dI)) (ci := 10) (v := .int mi) (C := RX8) (T := TX8) (N := 14) hx hb hts kc_xTold_2 hown hK hP 1 rfl rfl 5 (by decide) (hts (.fieldLink RX11 85 "MistHeaps$Scene" "mist" "I") kc_xTold_3) (fun _ h9 => h9) rfl dX11_told_36 ?_
    rw [hQ]
    exact W.iret (v := mi) hx hb hr (fun tQ htQ hWQ => ⟨mi, rfl, td_0 (by assumption), by rw [htQ]⟩) (fun q hq => absurd hq List.not_mem_nil) dX11_told_39
  by_cases c_1_1 : x = 1
  · skip
    refine lv_tableIn (tgt := 40) hx hb dX11_told_1 (by rw [c_1_1]; decide) (by rw [c_1_1]; decide) (by rw [c_1_1]; rfl) (by decide) ?_
    refine lv_aload_n hx hb dX11_told_40 rfl (lv_at hl 0 rfl) ?_
    refine va_get (D := (dC, dI)) (ci := 13) (v := .ref sc) (C := RX11) (T := TX11) (N := 7) hx hb hts kc_xTold_0 hown hK hP 0 rfl rfl 0 (by decide) (hts (.fieldLink RX11 14 "MistHeaps" "scene" "LMistHeaps$Scene;") kc_xTold_1) (fun _ h9 => h9) rfl dX11_told_41 ?_
    refine va_get (D := (dC, dI)) (ci := 10) (v := .int sn) (C := RX8) (T := TX8) (N := 14) hx hb hts kc_xTold_2 hown hK hP 1 rfl rfl 6 (by decide) (hts (.fieldLink RX11 88 "MistHeaps$Scene" "snow" "I") kc_xTold_4) (fun _ h9 => h9) rfl dX11_told_44 ?_
    rw [hQ]
    exact W.iret (v := sn) hx hb hr (fun tQ htQ hWQ => ⟨sn, rfl, td_1 (by assumption), by rw [htQ]⟩) (fun q hq => absurd hq List.not_mem_nil) dX11_told_47
  by_cases c_1_2 : x = 2
  · skip
    refine lv_tableIn (tgt := 48) hx hb dX11_told_1 (by rw [c_1_2]; decide) (by rw [c_1_2]; decide) (by rw [c_1_2]; rfl) (by decide) ?_
    refine lv_aload_n hx hb dX11_told_48 rfl (lv_at hl 0 rfl) ?_
    refine va_get (D := (dC, dI)) (ci := 13) (v := .ref sc) (C := RX11) (T := TX11) (N := 7) hx hb hts kc_xTold_0 hown hK hP 0 rfl rfl 0 (by decide) (hts (.fieldLink RX11 14 "MistHeaps" "scene" "LMistHeaps$Scene;") kc_xTold_1) (fun _ h9 => h9) rfl dX11_told_49 ?_
    refine va_get (D := (dC, dI)) (ci := 10) (v := .ref aHl) (C := RX8) (T := TX8) (N := 14) hx hb hts kc_xTold_2 hown hK hP 1 rfl rfl 2 (by decide) (hts (.fieldLink RX11 68 "MistHeaps$Scene" "hill" "LMistHeaps$Hill;") kc_xTold_5) (fun _ h9 => h9) rfl dX11_told_52 ?_
    refine va_get (D := (dC, dI)) (ci := 7) (v := .int (nI (sgC hC))) (C := RX5) (T := TX5) (N := 11) hx hb hts kc_xTold_7 hown hZ.2.1 (hZ.P hS) 0 rfl rfl 0 (by decide) (hts (.fieldLink RX11 91 "MistHeaps$Hill" "sight" "I") kc_xTold_6) (fun _ h9 => h9) rfl dX11_told_55 ?_
    rw [hQ]
    exact W.iret (v := nI (sgC hC)) hx hb hr (fun tQ htQ hWQ => ⟨nI (sgC hC), rfl, td_2 (by assumption), by rw [htQ]⟩) (fun q hq => absurd hq List.not_mem_nil) dX11_told_58
  by_cases c_1_3 : x = 3
  · skip
    refine lv_tableIn (tgt := 59) hx hb dX11_told_1 (by rw [c_1_3]; decide) (by rw [c_1_3]; decide) (by rw [c_1_3]; rfl) (by decide) ?_
    refine lv_aload_n hx hb dX11_told_59 rfl (lv_at hl 0 rfl) ?_
    refine va_get (D := (dC, dI)) (ci := 13) (v := .ref sc) (C := RX11) (T := TX11) (N := 7) hx hb hts kc_xTold_0 hown hK hP 0 rfl rfl 0 (by decide) (hts (.fieldLink RX11 14 "MistHeaps" "scene" "LMistHeaps$Scene;") kc_xTold_1) (fun _ h9 => h9) rfl dX11_told_60 ?_
    refine va_get (D := (dC, dI)) (ci := 10) (v := .long (lN ee)) (C := RX8) (T := TX8) (N := 14) hx hb hts kc_xTold_2 hown hK hP 1 rfl rfl 4 (by decide) (hts (.fieldLink RX11 73 "MistHeaps$Scene" "edges" "J") kc_xTold_8) (fun _ h9 => h9) rfl dX11_told_63 ?_
    refine vp_callSi (va_runS (As := [.long (lN ee)]) (rest := []) ⟨hx, hb, hml, hown, hts⟩ (c_bits l dC dI ee hee) (va_cwS 1 hts gX11_told_J13_bitCount_95d88 rfl rfl rfl hd_yJ13_bitCount_95d88.2 ⟨Nat.le_of_ble_eq_true rfl, Nat.le_of_ble_eq_true rfl⟩) ⟨fun a U g mk q => ⟨q.1, trivial⟩, fun U hU hW => ⟨rfl, trivial⟩⟩ rfl rfl hl.1 rfl (lv_room (Nat.le_of_ble_eq_true rfl)) dX11_told_66 ⟨Nat.le_of_ble_eq_true rfl, Nat.le_of_ble_eq_true rfl⟩).run (fun r_2 hw_3 => ?_)
    obtain rfl := hw_3
    rw [hQ]
    exact W.iret (v := nI (bsum 36 ee)) hx hb hr (fun tQ htQ hWQ => ⟨nI (bsum 36 ee), rfl, td_3 (by assumption), by rw [htQ]⟩) (fun q hq => absurd hq List.not_mem_nil) dX11_told_69
  refine lv_tableOut (tgt := 70) hx hb dX11_told_1 (sw_out 0 3 x (fun k hk => by
    match k, hk with
    | 0, _ => exact c_1_0
    | 1, _ => exact c_1_1
    | 2, _ => exact c_1_2
    | 3, _ => exact c_1_3
    | k + 4, hk => exact absurd hk (by omega))) (by decide) ?_
  refine lv_iconst (v := (-1)) hx hb dX11_told_70 (by decide) ?_
  rw [hQ]
  exact W.iret (v := (-1)) hx hb hr (fun tQ htQ hWQ => ⟨(-1), rfl, td_n (by assumption) (by assumption) (by assumption) (by assumption), by rw [htQ]⟩) (fun q hq => absurd hq List.not_mem_nil) dX11_told_71
end mg18a
section mg18a
theorem ggX11_set_X11_told : GoodIn wsX11_set wsX11_told := gga_of 541 rfl rfl rfl
theorem gX11_set_X11_told : GoodIn wsX11_set (wsV RX11 81 RX11 yX11_told wsX11_told) := goodIn_app (ggh_of [538, 539, 540, 63] rfl rfl rfl) ggX11_set_X11_told
noncomputable def dk18b04pub_cX11_set_0 : List (Nat × List Nat) := [(0, [27]), (1, [155, 0, 8]), (4, [27]), (5, [4]), (6, [164, 0, 5]), (9, [2]), (10, [172]), (11, [28]), (12, [155, 0, 9]), (15, [28]), (16, [16, 9]), (18, [164, 0, 6]), (21, [16, 254]), (23, [172]), (24, [42]), (25, [27]), (26, [182, 0, 81]), (29, [62]), (30, [27]), (31, [154, 0, 14]), (34, [42]), (35, [180, 0, 14]), (38, [28]), (39, [181, 0, 85]), (42, [167, 0, 11]), (45, [42]), (46, [180, 0, 14]), (49, [28]), (50, [181, 0, 88]), (53, [29]), (54, [172])]
set_option maxRecDepth 100000 in
theorem dk18b04pub_cX11_set_0_a : btA cX11_set dk18b04pub_cX11_set_0 = true := by decide +kernel
theorem dX11_set_0 : decode cX11_set 0 = .ok (.iload_n 1, 1) := bd27 (btAt dk18b04pub_cX11_set_0_a 0 rfl)
theorem dX11_set_1 : decode cX11_set 1 = .ok (.ifCond .lt 8, 3) := bd155 (a := 0) (b := 8) (btAt dk18b04pub_cX11_set_0_a 1 rfl)
theorem dX11_set_4 : decode cX11_set 4 = .ok (.iload_n 1, 1) := bd27 (btAt dk18b04pub_cX11_set_0_a 2 rfl)
theorem dX11_set_5 : decode cX11_set 5 = .ok (.iconst 1, 1) := bd4 (btAt dk18b04pub_cX11_set_0_a 3 rfl)
theorem dX11_set_6 : decode cX11_set 6 = .ok (.if_icmp .le 5, 3) := bd164 (a := 0) (b := 5) (btAt dk18b04pub_cX11_set_0_a 4 rfl)
theorem dX11_set_9 : decode cX11_set 9 = .ok (.iconst (-1), 1) := bd2 (btAt dk18b04pub_cX11_set_0_a 5 rfl)
theorem dX11_set_10 : decode cX11_set 10 = .ok (.ireturn, 1) := bd172 (btAt dk18b04pub_cX11_set_0_a 6 rfl)
theorem dX11_set_11 : decode cX11_set 11 = .ok (.iload_n 2, 1) := bd28 (btAt dk18b04pub_cX11_set_0_a 7 rfl)
theorem dX11_set_12 : decode cX11_set 12 = .ok (.ifCond .lt 9, 3) := bd155 (a := 0) (b := 9) (btAt dk18b04pub_cX11_set_0_a 8 rfl)
theorem dX11_set_15 : decode cX11_set 15 = .ok (.iload_n 2, 1) := bd28 (btAt dk18b04pub_cX11_set_0_a 9 rfl)
theorem dX11_set_16 : decode cX11_set 16 = .ok (.bipush 9, 2) := bd16 (a := 9) (btAt dk18b04pub_cX11_set_0_a 10 rfl)
theorem dX11_set_18 : decode cX11_set 18 = .ok (.if_icmp .le 6, 3) := bd164 (a := 0) (b := 6) (btAt dk18b04pub_cX11_set_0_a 11 rfl)
theorem dX11_set_21 : decode cX11_set 21 = .ok (.bipush (-2), 2) := bd16 (a := 254) (btAt dk18b04pub_cX11_set_0_a 12 rfl)
theorem dX11_set_23 : decode cX11_set 23 = .ok (.ireturn, 1) := bd172 (btAt dk18b04pub_cX11_set_0_a 13 rfl)
theorem dX11_set_24 : decode cX11_set 24 = .ok (.aload_n 0, 1) := bd42 (btAt dk18b04pub_cX11_set_0_a 14 rfl)
theorem dX11_set_25 : decode cX11_set 25 = .ok (.iload_n 1, 1) := bd27 (btAt dk18b04pub_cX11_set_0_a 15 rfl)
theorem dX11_set_26 : decode cX11_set 26 = .ok (.invokevirtual 81, 3) := bd182 (a := 0) (b := 81) (btAt dk18b04pub_cX11_set_0_a 16 rfl)
theorem dX11_set_29 : decode cX11_set 29 = .ok (.istore_n 3, 1) := bd62 (btAt dk18b04pub_cX11_set_0_a 17 rfl)
theorem dX11_set_30 : decode cX11_set 30 = .ok (.iload_n 1, 1) := bd27 (btAt dk18b04pub_cX11_set_0_a 18 rfl)
theorem dX11_set_31 : decode cX11_set 31 = .ok (.ifCond .ne 14, 3) := bd154 (a := 0) (b := 14) (btAt dk18b04pub_cX11_set_0_a 19 rfl)
theorem dX11_set_34 : decode cX11_set 34 = .ok (.aload_n 0, 1) := bd42 (btAt dk18b04pub_cX11_set_0_a 20 rfl)
theorem dX11_set_35 : decode cX11_set 35 = .ok (.getfield 14, 3) := bd180 (a := 0) (b := 14) (btAt dk18b04pub_cX11_set_0_a 21 rfl)
theorem dX11_set_38 : decode cX11_set 38 = .ok (.iload_n 2, 1) := bd28 (btAt dk18b04pub_cX11_set_0_a 22 rfl)
theorem dX11_set_39 : decode cX11_set 39 = .ok (.putfield 85, 3) := bd181 (a := 0) (b := 85) (btAt dk18b04pub_cX11_set_0_a 23 rfl)
theorem dX11_set_42 : decode cX11_set 42 = .ok (.goto 11, 3) := bd167 (a := 0) (b := 11) (btAt dk18b04pub_cX11_set_0_a 24 rfl)
theorem dX11_set_45 : decode cX11_set 45 = .ok (.aload_n 0, 1) := bd42 (btAt dk18b04pub_cX11_set_0_a 25 rfl)
theorem dX11_set_46 : decode cX11_set 46 = .ok (.getfield 14, 3) := bd180 (a := 0) (b := 14) (btAt dk18b04pub_cX11_set_0_a 26 rfl)
theorem dX11_set_49 : decode cX11_set 49 = .ok (.iload_n 2, 1) := bd28 (btAt dk18b04pub_cX11_set_0_a 27 rfl)
theorem dX11_set_50 : decode cX11_set 50 = .ok (.putfield 88, 3) := bd181 (a := 0) (b := 88) (btAt dk18b04pub_cX11_set_0_a 28 rfl)
theorem dX11_set_53 : decode cX11_set 53 = .ok (.iload_n 3, 1) := bd29 (btAt dk18b04pub_cX11_set_0_a 29 rfl)
theorem dX11_set_54 : decode cX11_set 54 = .ok (.ireturn, 1) := bd172 (btAt dk18b04pub_cX11_set_0_a 30 rfl)
theorem kc_xSet_0 : ∀ w ∈ wsX110, w ∈ wsX11_set := fun w h => List.mem_cons_of_mem _ (gin_wsX110 w h)
theorem kc_xSet_1 : (.fieldLink RX11 14 "MistHeaps" "scene" "LMistHeaps$Scene;" : Cond) ∈ wsX11_set := kc_of 328 rfl rfl rfl
theorem kc_xSet_2 : ∀ w ∈ wsX80, w ∈ wsX11_set := fun w h => List.mem_cons_of_mem _ (gin_wsX80 w h)
theorem kc_xSet_3 : (.fieldLink RX11 85 "MistHeaps$Scene" "mist" "I" : Cond) ∈ wsX11_set := kc_of 164 rfl rfl rfl
theorem kc_xSet_4 : (.fieldLink RX11 88 "MistHeaps$Scene" "snow" "I" : Cond) ∈ wsX11_set := kc_of 166 rfl rfl rfl
set_option maxHeartbeats 4000000 in
set_option maxRecDepth 100000 in
theorem c_xSet (l : Launch) (dC : Nat → ClassId) (dI : Nat → Nat → Nat)  (h0 : Nat) (sc : Nat) (kp : Nat) (bl : Nat) (go : Nat) (ch : Nat) (bo : Nat) (aTp : Nat) (aHl : Nat) (aHs : Nat) (aWk : Nat) (aBk : Nat) (aFc : Nat) (bW : Nat) (bA : Nat) (bE : Nat) (bC : Nat) (ts : Nat) (nh : Nat) (n : Nat) (wz : Nat) (bz : Nat) (cl : Nat) (mi : Int32) (sn : Int32) (sg : Int32) (cdd : Int32) (szz : Int32) (att : Int32) (nmb : Int32) (ik : Int32) (x : Int32) (y : Int32) (cbW : ClassId) (cbA : ClassId) (cbE : ClassId) (cbC : ClassId) (fbW : Nat → Int32) (fbA : Nat → Int32) (fbE : Nat → Int32) (fbC : Nat → Int32) (tpv : Value) (ee : Nat) (hC : List pCla) (sz : Nat) (hee : ee < 2 ^ 36) (hsg : sg = nI (sgC hC)) : Met l yX11_set wsX11_set ({ frames := 2, cells := 0, slots := 0, locals := 42 } : Room) (va_Pc [.ref h0, .int x, .int y] (fun U => U.heap.size = sz ∧ va_P (dC, dI) vwCl [(zo13rrirrrr h0 sc kp ik bl go ch bo), (zo10ririliiriririr sc aTp (nI ts) aHl (nI nh) (lN ee) mi sn aHs (nI n) aWk (nI wz) aBk (nI bz) aFc)] U.heap ∧ va_K (dC, dI) vwCl [] U ∧ va_D (fun _ => True) [(zo13rrirrrr h0 sc kp ik bl go ch bo), (zo10ririliiriririr sc aTp (nI ts) aHl (nI nh) (lN ee) mi sn aHs (nI n) aWk (nI wz) aBk (nI bz) aFc)] ∧ Fz dC dI [(zo7iirrrriviii aHl sg (nI cl) bW bA bE bC cdd tpv szz att nmb), (zaI bW cbW 10 fbW), (zaI bA cbA 10 fbA), (zaI bE cbE 10 fbE), (zaI bC cbC 100 fbC)] [(cbW, .int), (cbA, .int), (cbE, .int), (cbC, .int)] (va_A [(zo13rrirrrr h0 sc kp ik bl go ch bo), (zo10ririliiriririr sc aTp (nI ts) aHl (nI nh) (lN ee) mi sn aHs (nI n) aWk (nI wz) aBk (nI bz) aFc)] sz) U)) (va_Qi (fun (r : Int32) (u : (Int32) × (Int32)) => match u with | (mi9, sn9) => r = stR mi sn x y ∧ mi9 = stM mi x y ∧ sn9 = stN sn x y) (fun (u : (Int32) × (Int32)) (t : State) => match u with | (mi9, sn9) => va_P (dC, dI) vwCl [(zo13rrirrrr h0 sc kp ik bl go ch bo), (zo10ririliiriririr sc aTp (nI ts) aHl (nI nh) (lN ee) mi9 sn9 aHs (nI n) aWk (nI wz) aBk (nI bz) aFc)] t.heap ∧ va_K (dC, dI) vwCl [] t ∧ va_D (va_A [(zo13rrirrrr h0 sc kp ik bl go ch bo), (zo10ririliiriririr sc aTp (nI ts) aHl (nI nh) (lN ee) mi sn aHs (nI n) aWk (nI wz) aBk (nI bz) aFc)] sz) [(zo13rrirrrr h0 sc kp ik bl go ch bo), (zo10ririliiriririr sc aTp (nI ts) aHl (nI nh) (lN ee) mi9 sn9 aHs (nI n) aWk (nI wz) aBk (nI bz) aFc)]) (va_A [(zo13rrirrrr h0 sc kp ik bl go ch bo), (zo10ririliiriririr sc aTp (nI ts) aHl (nI nh) (lN ee) mi sn aHs (nI n) aWk (nI wz) aBk (nI bz) aFc)] sz)) 0 0 (va_A [(zo13rrirrrr h0 sc kp ik bl go ch bo), (zo10ririliiriririr sc aTp (nI ts) aHl (nI nh) (lN ee) mi sn aHs (nI n) aWk (nI wz) aBk (nI bz) aFc)] sz) := by
  refine met_ofQ (cc := cX11_set) (maxL := 4) (ret := (some .int)) (by decide) rfl ?_
  intro p e s m args below meth c s₁ Q B hml hv hQ
  obtain ⟨rfl, hsz, hP, hK, hD0, hZ⟩ := hv
  have hx := B.exec
  have hb := B.bytes
  have hr := B.returns
  have hts := atoms_spec (ws := wsX11_set) B.pre
  have hown : s.vm.findClass RX11 = some m.cls := findClass_of_methodNamed B.named
  have hlocks := B.notSynchronized
  subst hsz
  have hD := hD0.self (sz := s.heap.size)
  generalize hAe : va_A [(zo13rrirrrr h0 sc kp ik bl go ch bo), (zo10ririliiriririr sc aTp (nI ts) aHl (nI nh) (lN ee) mi sn aHs (nI n) aWk (nI wz) aBk (nI bz) aFc)] s.heap.size = A at hD hQ hZ ⊢
  have hA : ∀ q : Nat, s.heap.size ≤ q → A q := fun q h => by rw [← hAe]; exact Or.inr h
  have hS : va_S A s.heap s.heap [] := va_S.rf
  have hl := lv_entry [.ref h0, .int x, .int y] (n := 4) (Nat.le_of_ble_eq_true rfl)
  rw [lg_entry_eq]
  generalize (lg_sl [.ref h0, .int x, .int y] ++ List.replicate (4 - (lg_sl [.ref h0, .int x, .int y]).length) Slot.unset).toArray = ls at hl ⊢
  generalize hag : ([.ref h0, .int x, .int y] : List Value).toArray = args at hts hQ ⊢
  have hl : lv_has ls 4 [(0, .ref h0), (1, .int x), (2, .int y)] := hl
  obtain ⟨H, hH⟩ : ∃ H : Heap, H = s.heap := ⟨_, rfl⟩
  rw [← hH] at hP
  rw [← hH]
  have hS : va_S A s.heap H [] := by rw [hH]; exact hS
  obtain ⟨locs, hlo⟩ : ∃ L : List Loc, L = [] := ⟨_, rfl⟩
  rw [← hlo] at hS
  rw [← hlo]
  clear hH hlo
  refine lv_iload_n hx hb dX11_set_0 rfl (lv_at hl 1 rfl) ?_
  refine lv_if_lt (tgt := 9) hx hb dX11_set_1 (by decide) (fun c_1 => ?_) (fun c_1 => ?_)
  · skip
    refine lv_iconst (v := (-1)) hx hb dX11_set_9 (by decide) ?_
    rw [hQ]
    have hP9 := hP.sub (ws' := [(zo13rrirrrr h0 sc kp ik bl go ch bo), (zo10ririliiriririr sc aTp (nI ts) aHl (nI nh) (lN ee) mi sn aHs (nI n) aWk (nI wz) aBk (nI bz) aFc)]) [0, 1] rfl
    have hD9 := hD.sub (ws' := [(zo13rrirrrr h0 sc kp ik bl go ch bo), (zo10ririliiriririr sc aTp (nI ts) aHl (nI nh) (lN ee) mi sn aHs (nI n) aWk (nI wz) aBk (nI bz) aFc)]) [0, 1] (by decide) rfl
    have hK9 := hK.sub (tys' := []) [] rfl
    exact W.iret (v := (-1)) hx hb hr (fun tQ htQ hWQ => ⟨⟨(-1), (mi, sn), rfl, st_none (by first | exact Or.inl (by assumption) | exact Or.inr (Int32.not_le.mp (by assumption))), by rw [htQ]; exact hP9, va_K.moved hWQ.alike hK9, hD9⟩, hS.F htQ⟩) hS.2.2 dX11_set_10
  · skip
    refine lv_iload_n hx hb dX11_set_4 rfl (lv_at hl 1 rfl) ?_
    refine lv_iconst (v := 1) hx hb dX11_set_5 (by decide) ?_
    refine lv_icmp_le (tgt := 11) hx hb dX11_set_6 (by decide) (fun c_2 => ?_) (fun c_2 => ?_)
    · skip
      refine lv_iload_n hx hb dX11_set_11 rfl (lv_at hl 2 rfl) ?_
      refine lv_if_lt (tgt := 21) hx hb dX11_set_12 (by decide) (fun c_3 => ?_) (fun c_3 => ?_)
      · skip
        refine lv_bipush (v := (-2)) hx hb dX11_set_21 (by decide) ?_
        rw [hQ]
        have hP9 := hP.sub (ws' := [(zo13rrirrrr h0 sc kp ik bl go ch bo), (zo10ririliiriririr sc aTp (nI ts) aHl (nI nh) (lN ee) mi sn aHs (nI n) aWk (nI wz) aBk (nI bz) aFc)]) [0, 1] rfl
        have hD9 := hD.sub (ws' := [(zo13rrirrrr h0 sc kp ik bl go ch bo), (zo10ririliiriririr sc aTp (nI ts) aHl (nI nh) (lN ee) mi sn aHs (nI n) aWk (nI wz) aBk (nI bz) aFc)]) [0, 1] (by decide) rfl
        have hK9 := hK.sub (tys' := []) [] rfl
        exact W.iret (v := (-2)) hx hb hr (fun tQ htQ hWQ => ⟨⟨(-2), (mi, sn), rfl, st_bad (by assumption) (Int32.not_lt.mpr (by assumption)) (by first | exact Or.inl (by assumption) | exact Or.inr (Int32.not_le.mp (by assumption))), by rw [htQ]; exact hP9, va_K.moved hWQ.alike hK9, hD9⟩, hS.F htQ⟩) hS.2.2 dX11_set_23
      · skip
        refine lv_iload_n hx hb dX11_set_15 rfl (lv_at hl 2 rfl) ?_
        refine lv_bipush (v := 9) hx hb dX11_set_16 (by decide) ?_
        refine lv_icmp_le (tgt := 24) hx hb dX11_set_18 (by decide) (fun c_4 => ?_) (fun c_4 => ?_)
        · skip
          rcases two01 (x := x) (by assumption) (Int32.not_lt.mpr (by assumption)) with rfl | rfl
          · skip
            refine lv_aload_n hx hb dX11_set_24 rfl (lv_at hl 0 rfl) ?_
            refine lv_iload_n hx hb dX11_set_25 rfl (lv_at hl 1 rfl) ?_
            have hPc := hP.sub (ws' := [(zo13rrirrrr h0 sc kp ik bl go ch bo), (zo10ririliiriririr sc aTp (nI ts) aHl (nI nh) (lN ee) mi sn aHs (nI n) aWk (nI wz) aBk (nI bz) aFc)]) [0, 1] rfl
            have hKc := hK.sub (tys' := []) [] rfl
            refine vp_callSi (va_runV (As := [.int 0]) (rest := []) ⟨hx, hb, hml, hown, hts⟩ (c_xTold l dC dI  h0 sc kp bl go ch bo aTp aHl aHs aWk aBk aFc bW bA bE bC ts nh n wz bz cl mi sn sg cdd szz att nmb ik 0 cbW cbA cbE cbC fbW fbA fbE fbC tpv ee hC (hee) (hsg)) (cwV 1 hts gX11_set_X11_told rfl rfl rfl hd_yX11_told ⟨Nat.le_of_ble_eq_true rfl, Nat.le_of_ble_eq_true rfl⟩) ⟨fun a U g mk q => by obtain ⟨q0, qP, qK, qhZ⟩ := q; exact ⟨q0, mvP g mk a qP, mvK g mk a qK, qhZ.mv g mk a⟩, va_recv hK hP (ci := 13) (q := (RX11, TX11, 7)) (q0 := 0) rfl rfl, fun U hU hW => ⟨rfl, by rw [hU]; exact hPc, va_K.moved hW.alike hKc, (hZ.sub [0, 1, 2, 3, 4] [0, 1, 2, 3] rfl rfl).callF hS hU hW⟩⟩ rfl rfl hl.1 rfl (lv_room (Nat.le_of_ble_eq_true rfl)) dX11_set_26 ⟨Nat.le_of_ble_eq_true rfl, Nat.le_of_ble_eq_true rfl⟩).run (fun r_5 hw_6 => ?_)
            refine qi_as (y := mi) (hw_6.trans (td_0 rfl).symm) ?_
            refine lv_istore_n (lv' := [(3, .int mi), (0, .ref h0), (1, .int 0), (2, .int y)]) hx hb dX11_set_29 rfl hl (by decide) rfl (fun ls hl => ?_)
            refine lv_iload_n hx hb dX11_set_30 rfl (lv_at hl 2 rfl) ?_
            refine lv_if_ne (tgt := 45) hx hb dX11_set_31 (by decide) (fun c_7 => absurd c_7 (by decide)) (fun _ => ?_)
            refine lv_aload_n hx hb dX11_set_34 rfl (lv_at hl 1 rfl) ?_
            refine va_get (D := (dC, dI)) (ci := 13) (v := .ref sc) (C := RX11) (T := TX11) (N := 7) hx hb hts kc_xSet_0 hown hK hP 0 rfl rfl 0 (by decide) (hts (.fieldLink RX11 14 "MistHeaps" "scene" "LMistHeaps$Scene;") kc_xSet_1) (fun _ h9 => h9) rfl dX11_set_35 ?_
            refine lv_iload_n hx hb dX11_set_38 rfl (lv_at hl 3 rfl) ?_
            refine va_put (D := (dC, dI)) (ci := 10) (v := .int y) (ty := .int) (C := RX8) (T := TX8) (N := 14) hx hb hts kc_xSet_2 tyX8 tyX8_ok nmX8 hown hK hP hD hS 1 rfl rfl 5 (by decide) (hts (.fieldLink RX11 85 "MistHeaps$Scene" "mist" "I") kc_xSet_3) (fun _ h9 => h9) rfl (by decide +kernel) rfl rfl (Nat.le_of_ble_eq_true rfl) dX11_set_39 (fun H locs hP hD hS => ?_)
            have hP : va_P (dC, dI) vwCl [(zo13rrirrrr h0 sc kp ik bl go ch bo), (zo10ririliiriririr sc aTp (nI ts) aHl (nI nh) (lN ee) y sn aHs (nI n) aWk (nI wz) aBk (nI bz) aFc)] H := hP
            have hD : va_D A [(zo13rrirrrr h0 sc kp ik bl go ch bo), (zo10ririliiriririr sc aTp (nI ts) aHl (nI nh) (lN ee) y sn aHs (nI n) aWk (nI wz) aBk (nI bz) aFc)] := hD
            refine lv_goto (tgt := 53) hx hb dX11_set_42 (by decide) ?_
            refine lv_iload_n hx hb dX11_set_53 rfl (lv_at hl 0 rfl) ?_
            rw [hQ]
            have hP9 := hP.sub (ws' := [(zo13rrirrrr h0 sc kp ik bl go ch bo), (zo10ririliiriririr sc aTp (nI ts) aHl (nI nh) (lN ee) y sn aHs (nI n) aWk (nI wz) aBk (nI bz) aFc)]) [0, 1] rfl
            have hD9 := hD.sub (ws' := [(zo13rrirrrr h0 sc kp ik bl go ch bo), (zo10ririliiriririr sc aTp (nI ts) aHl (nI nh) (lN ee) y sn aHs (nI n) aWk (nI wz) aBk (nI bz) aFc)]) [0, 1] (by decide) rfl
            have hK9 := hK.sub (tys' := []) [] rfl
            exact W.iret (v := mi) hx hb hr (fun tQ htQ hWQ => ⟨⟨mi, (y, sn), rfl, st_0 (by assumption) (Int32.not_lt.mpr (by assumption)), by rw [htQ]; exact hP9, va_K.moved hWQ.alike hK9, hD9⟩, hS.F htQ⟩) hS.2.2 dX11_set_54
          · skip
            refine lv_aload_n hx hb dX11_set_24 rfl (lv_at hl 0 rfl) ?_
            refine lv_iload_n hx hb dX11_set_25 rfl (lv_at hl 1 rfl) ?_
            have hPc := hP.sub (ws' := [(zo13rrirrrr h0 sc kp ik bl go ch bo), (zo10ririliiriririr sc aTp (nI ts) aHl (nI nh) (lN ee) mi sn aHs (nI n) aWk (nI wz) aBk (nI bz) aFc)]) [0, 1] rfl
            have hKc := hK.sub (tys' := []) [] rfl
            refine vp_callSi (va_runV (As := [.int 1]) (rest := []) ⟨hx, hb, hml, hown, hts⟩ (c_xTold l dC dI  h0 sc kp bl go ch bo aTp aHl aHs aWk aBk aFc bW bA bE bC ts nh n wz bz cl mi sn sg cdd szz att nmb ik 1 cbW cbA cbE cbC fbW fbA fbE fbC tpv ee hC (hee) (hsg)) (cwV 1 hts gX11_set_X11_told rfl rfl rfl hd_yX11_told ⟨Nat.le_of_ble_eq_true rfl, Nat.le_of_ble_eq_true rfl⟩) ⟨fun a U g mk q => by obtain ⟨q0, qP, qK, qhZ⟩ := q; exact ⟨q0, mvP g mk a qP, mvK g mk a qK, qhZ.mv g mk a⟩, va_recv hK hP (ci := 13) (q := (RX11, TX11, 7)) (q0 := 0) rfl rfl, fun U hU hW => ⟨rfl, by rw [hU]; exact hPc, va_K.moved hW.alike hKc, (hZ.sub [0, 1, 2, 3, 4] [0, 1, 2, 3] rfl rfl).callF hS hU hW⟩⟩ rfl rfl hl.1 rfl (lv_room (Nat.le_of_ble_eq_true rfl)) dX11_set_26 ⟨Nat.le_of_ble_eq_true rfl, Nat.le_of_ble_eq_true rfl⟩).run (fun r_8 hw_9 => ?_)
            refine qi_as (y := sn) (hw_9.trans (td_1 rfl).symm) ?_
            refine lv_istore_n (lv' := [(3, .int sn), (0, .ref h0), (1, .int 1), (2, .int y)]) hx hb dX11_set_29 rfl hl (by decide) rfl (fun ls hl => ?_)
            refine lv_iload_n hx hb dX11_set_30 rfl (lv_at hl 2 rfl) ?_
            refine lv_if_ne (tgt := 45) hx hb dX11_set_31 (by decide) (fun _ => ?_) (fun c_10 => absurd c_10 (by decide))
            refine lv_aload_n hx hb dX11_set_45 rfl (lv_at hl 1 rfl) ?_
            refine va_get (D := (dC, dI)) (ci := 13) (v := .ref sc) (C := RX11) (T := TX11) (N := 7) hx hb hts kc_xSet_0 hown hK hP 0 rfl rfl 0 (by decide) (hts (.fieldLink RX11 14 "MistHeaps" "scene" "LMistHeaps$Scene;") kc_xSet_1) (fun _ h9 => h9) rfl dX11_set_46 ?_
            refine lv_iload_n hx hb dX11_set_49 rfl (lv_at hl 3 rfl) ?_
            refine va_put (D := (dC, dI)) (ci := 10) (v := .int y) (ty := .int) (C := RX8) (T := TX8) (N := 14) hx hb hts kc_xSet_2 tyX8 tyX8_ok nmX8 hown hK hP hD hS 1 rfl rfl 6 (by decide) (hts (.fieldLink RX11 88 "MistHeaps$Scene" "snow" "I") kc_xSet_4) (fun _ h9 => h9) rfl (by decide +kernel) rfl rfl (Nat.le_of_ble_eq_true rfl) dX11_set_50 (fun H locs hP hD hS => ?_)
            have hP : va_P (dC, dI) vwCl [(zo13rrirrrr h0 sc kp ik bl go ch bo), (zo10ririliiriririr sc aTp (nI ts) aHl (nI nh) (lN ee) mi y aHs (nI n) aWk (nI wz) aBk (nI bz) aFc)] H := hP
            have hD : va_D A [(zo13rrirrrr h0 sc kp ik bl go ch bo), (zo10ririliiriririr sc aTp (nI ts) aHl (nI nh) (lN ee) mi y aHs (nI n) aWk (nI wz) aBk (nI bz) aFc)] := hD
            refine lv_iload_n hx hb dX11_set_53 rfl (lv_at hl 0 rfl) ?_
            rw [hQ]
            have hP9 := hP.sub (ws' := [(zo13rrirrrr h0 sc kp ik bl go ch bo), (zo10ririliiriririr sc aTp (nI ts) aHl (nI nh) (lN ee) mi y aHs (nI n) aWk (nI wz) aBk (nI bz) aFc)]) [0, 1] rfl
            have hD9 := hD.sub (ws' := [(zo13rrirrrr h0 sc kp ik bl go ch bo), (zo10ririliiriririr sc aTp (nI ts) aHl (nI nh) (lN ee) mi y aHs (nI n) aWk (nI wz) aBk (nI bz) aFc)]) [0, 1] (by decide) rfl
            have hK9 := hK.sub (tys' := []) [] rfl
            exact W.iret (v := sn) hx hb hr (fun tQ htQ hWQ => ⟨⟨sn, (mi, y), rfl, st_1 (by assumption) (Int32.not_lt.mpr (by assumption)), by rw [htQ]; exact hP9, va_K.moved hWQ.alike hK9, hD9⟩, hS.F htQ⟩) hS.2.2 dX11_set_54
        · skip
          refine lv_bipush (v := (-2)) hx hb dX11_set_21 (by decide) ?_
          rw [hQ]
          have hP9 := hP.sub (ws' := [(zo13rrirrrr h0 sc kp ik bl go ch bo), (zo10ririliiriririr sc aTp (nI ts) aHl (nI nh) (lN ee) mi sn aHs (nI n) aWk (nI wz) aBk (nI bz) aFc)]) [0, 1] rfl
          have hD9 := hD.sub (ws' := [(zo13rrirrrr h0 sc kp ik bl go ch bo), (zo10ririliiriririr sc aTp (nI ts) aHl (nI nh) (lN ee) mi sn aHs (nI n) aWk (nI wz) aBk (nI bz) aFc)]) [0, 1] (by decide) rfl
          have hK9 := hK.sub (tys' := []) [] rfl
          exact W.iret (v := (-2)) hx hb hr (fun tQ htQ hWQ => ⟨⟨(-2), (mi, sn), rfl, st_bad (by assumption) (Int32.not_lt.mpr (by assumption)) (by first | exact Or.inl (by assumption) | exact Or.inr (Int32.not_le.mp (by assumption))), by rw [htQ]; exact hP9, va_K.moved hWQ.alike hK9, hD9⟩, hS.F htQ⟩) hS.2.2 dX11_set_23
    · skip
      refine lv_iconst (v := (-1)) hx hb dX11_set_9 (by decide) ?_
      rw [hQ]
      have hP9 := hP.sub (ws' := [(zo13rrirrrr h0 sc kp ik bl go ch bo), (zo10ririliiriririr sc aTp (nI ts) aHl (nI nh) (lN ee) mi sn aHs (nI n) aWk (nI wz) aBk (nI bz) aFc)]) [0, 1] rfl
      have hD9 := hD.sub (ws' := [(zo13rrirrrr h0 sc kp ik bl go ch bo), (zo10ririliiriririr sc aTp (nI ts) aHl (nI nh) (lN ee) mi sn aHs (nI n) aWk (nI wz) aBk (nI bz) aFc)]) [0, 1] (by decide) rfl
      have hK9 := hK.sub (tys' := []) [] rfl
      exact W.iret (v := (-1)) hx hb hr (fun tQ htQ hWQ => ⟨⟨(-1), (mi, sn), rfl, st_none (by first | exact Or.inl (by assumption) | exact Or.inr (Int32.not_le.mp (by assumption))), by rw [htQ]; exact hP9, va_K.moved hWQ.alike hK9, hD9⟩, hS.F htQ⟩) hS.2.2 dX11_set_10
end mg18a
section mg18a
noncomputable def dk18b05pub_cX11_walk_0 : List (Nat × List Nat) := [(0, [27]), (1, [2]), (2, [160, 0, 13]), (5, [42]), (6, [180, 0, 14]), (9, [3]), (10, [181, 0, 169]), (15, [27]), (16, [155, 0, 9]), (19, [27]), (20, [16, 8]), (22, [161, 0, 5]), (25, [2]), (26, [172]), (27, [42]), (28, [180, 0, 14]), (31, [180, 0, 169]), (34, [16, 6]), (36, [161, 0, 6]), (39, [16, 252]), (41, [172]), (42, [42]), (43, [180, 0, 14]), (46, [180, 0, 172]), (49, [42]), (50, [180, 0, 14]), (53, [180, 0, 169]), (56, [27]), (57, [79]), (58, [42]), (59, [180, 0, 14]), (62, [89]), (63, [180, 0, 169]), (66, [4]), (67, [96]), (68, [181, 0, 169]), (71, [42]), (72, [180, 0, 14]), (75, [180, 0, 169]), (78, [172])]
set_option maxRecDepth 100000 in
theorem dk18b05pub_cX11_walk_0_a : btA cX11_walk dk18b05pub_cX11_walk_0 = true := by decide +kernel
theorem dX11_walk_0 : decode cX11_walk 0 = .ok (.iload_n 1, 1) := bd27 (btAt dk18b05pub_cX11_walk_0_a 0 rfl)
theorem dX11_walk_1 : decode cX11_walk 1 = .ok (.iconst (-1), 1) := bd2 (btAt dk18b05pub_cX11_walk_0_a 1 rfl)
theorem dX11_walk_2 : decode cX11_walk 2 = .ok (.if_icmp .ne 13, 3) := bd160 (a := 0) (b := 13) (btAt dk18b05pub_cX11_walk_0_a 2 rfl)
theorem dX11_walk_5 : decode cX11_walk 5 = .ok (.aload_n 0, 1) := bd42 (btAt dk18b05pub_cX11_walk_0_a 3 rfl)
theorem dX11_walk_6 : decode cX11_walk 6 = .ok (.getfield 14, 3) := bd180 (a := 0) (b := 14) (btAt dk18b05pub_cX11_walk_0_a 4 rfl)
theorem dX11_walk_9 : decode cX11_walk 9 = .ok (.iconst 0, 1) := bd3 (btAt dk18b05pub_cX11_walk_0_a 5 rfl)
theorem dX11_walk_10 : decode cX11_walk 10 = .ok (.putfield 169, 3) := bd181 (a := 0) (b := 169) (btAt dk18b05pub_cX11_walk_0_a 6 rfl)
theorem dX11_walk_15 : decode cX11_walk 15 = .ok (.iload_n 1, 1) := bd27 (btAt dk18b05pub_cX11_walk_0_a 7 rfl)
theorem dX11_walk_16 : decode cX11_walk 16 = .ok (.ifCond .lt 9, 3) := bd155 (a := 0) (b := 9) (btAt dk18b05pub_cX11_walk_0_a 8 rfl)
theorem dX11_walk_19 : decode cX11_walk 19 = .ok (.iload_n 1, 1) := bd27 (btAt dk18b05pub_cX11_walk_0_a 9 rfl)
theorem dX11_walk_20 : decode cX11_walk 20 = .ok (.bipush 8, 2) := bd16 (a := 8) (btAt dk18b05pub_cX11_walk_0_a 10 rfl)
theorem dX11_walk_22 : decode cX11_walk 22 = .ok (.if_icmp .lt 5, 3) := bd161 (a := 0) (b := 5) (btAt dk18b05pub_cX11_walk_0_a 11 rfl)
theorem dX11_walk_25 : decode cX11_walk 25 = .ok (.iconst (-1), 1) := bd2 (btAt dk18b05pub_cX11_walk_0_a 12 rfl)
theorem dX11_walk_26 : decode cX11_walk 26 = .ok (.ireturn, 1) := bd172 (btAt dk18b05pub_cX11_walk_0_a 13 rfl)
theorem dX11_walk_27 : decode cX11_walk 27 = .ok (.aload_n 0, 1) := bd42 (btAt dk18b05pub_cX11_walk_0_a 14 rfl)
theorem dX11_walk_28 : decode cX11_walk 28 = .ok (.getfield 14, 3) := bd180 (a := 0) (b := 14) (btAt dk18b05pub_cX11_walk_0_a 15 rfl)
theorem dX11_walk_31 : decode cX11_walk 31 = .ok (.getfield 169, 3) := bd180 (a := 0) (b := 169) (btAt dk18b05pub_cX11_walk_0_a 16 rfl)
theorem dX11_walk_34 : decode cX11_walk 34 = .ok (.bipush 6, 2) := bd16 (a := 6) (btAt dk18b05pub_cX11_walk_0_a 17 rfl)
theorem dX11_walk_36 : decode cX11_walk 36 = .ok (.if_icmp .lt 6, 3) := bd161 (a := 0) (b := 6) (btAt dk18b05pub_cX11_walk_0_a 18 rfl)
theorem dX11_walk_39 : decode cX11_walk 39 = .ok (.bipush (-4), 2) := bd16 (a := 252) (btAt dk18b05pub_cX11_walk_0_a 19 rfl)
theorem dX11_walk_41 : decode cX11_walk 41 = .ok (.ireturn, 1) := bd172 (btAt dk18b05pub_cX11_walk_0_a 20 rfl)
theorem dX11_walk_42 : decode cX11_walk 42 = .ok (.aload_n 0, 1) := bd42 (btAt dk18b05pub_cX11_walk_0_a 21 rfl)
theorem dX11_walk_43 : decode cX11_walk 43 = .ok (.getfield 14, 3) := bd180 (a := 0) (b := 14) (btAt dk18b05pub_cX11_walk_0_a 22 rfl)
theorem dX11_walk_46 : decode cX11_walk 46 = .ok (.getfield 172, 3) := bd180 (a := 0) (b := 172) (btAt dk18b05pub_cX11_walk_0_a 23 rfl)
theorem dX11_walk_49 : decode cX11_walk 49 = .ok (.aload_n 0, 1) := bd42 (btAt dk18b05pub_cX11_walk_0_a 24 rfl)
theorem dX11_walk_50 : decode cX11_walk 50 = .ok (.getfield 14, 3) := bd180 (a := 0) (b := 14) (btAt dk18b05pub_cX11_walk_0_a 25 rfl)
theorem dX11_walk_53 : decode cX11_walk 53 = .ok (.getfield 169, 3) := bd180 (a := 0) (b := 169) (btAt dk18b05pub_cX11_walk_0_a 26 rfl)
theorem dX11_walk_56 : decode cX11_walk 56 = .ok (.iload_n 1, 1) := bd27 (btAt dk18b05pub_cX11_walk_0_a 27 rfl)
theorem dX11_walk_57 : decode cX11_walk 57 = .ok (.iastore, 1) := bd79 (btAt dk18b05pub_cX11_walk_0_a 28 rfl)
theorem dX11_walk_58 : decode cX11_walk 58 = .ok (.aload_n 0, 1) := bd42 (btAt dk18b05pub_cX11_walk_0_a 29 rfl)
theorem dX11_walk_59 : decode cX11_walk 59 = .ok (.getfield 14, 3) := bd180 (a := 0) (b := 14) (btAt dk18b05pub_cX11_walk_0_a 30 rfl)
theorem dX11_walk_62 : decode cX11_walk 62 = .ok (.dup, 1) := bd89 (btAt dk18b05pub_cX11_walk_0_a 31 rfl)
theorem dX11_walk_63 : decode cX11_walk 63 = .ok (.getfield 169, 3) := bd180 (a := 0) (b := 169) (btAt dk18b05pub_cX11_walk_0_a 32 rfl)
theorem dX11_walk_66 : decode cX11_walk 66 = .ok (.iconst 1, 1) := bd4 (btAt dk18b05pub_cX11_walk_0_a 33 rfl)
theorem dX11_walk_67 : decode cX11_walk 67 = .ok (.iadd, 1) := bd96 (btAt dk18b05pub_cX11_walk_0_a 34 rfl)
theorem dX11_walk_68 : decode cX11_walk 68 = .ok (.putfield 169, 3) := bd181 (a := 0) (b := 169) (btAt dk18b05pub_cX11_walk_0_a 35 rfl)
theorem dX11_walk_71 : decode cX11_walk 71 = .ok (.aload_n 0, 1) := bd42 (btAt dk18b05pub_cX11_walk_0_a 36 rfl)
theorem dX11_walk_72 : decode cX11_walk 72 = .ok (.getfield 14, 3) := bd180 (a := 0) (b := 14) (btAt dk18b05pub_cX11_walk_0_a 37 rfl)
theorem dX11_walk_75 : decode cX11_walk 75 = .ok (.getfield 169, 3) := bd180 (a := 0) (b := 169) (btAt dk18b05pub_cX11_walk_0_a 38 rfl)
theorem dX11_walk_78 : decode cX11_walk 78 = .ok (.ireturn, 1) := bd172 (btAt dk18b05pub_cX11_walk_0_a 39 rfl)
noncomputable def dk18b05pub_cX11_walk_40 : List (Nat × List Nat) := [(13, [3]), (14, [172])]
set_option maxRecDepth 100000 in
theorem dk18b05pub_cX11_walk_40_a : btA cX11_walk dk18b05pub_cX11_walk_40 = true := by decide +kernel
theorem dX11_walk_13 : decode cX11_walk 13 = .ok (.iconst 0, 1) := bd3 (btAt dk18b05pub_cX11_walk_40_a 0 rfl)
theorem dX11_walk_14 : decode cX11_walk 14 = .ok (.ireturn, 1) := bd172 (btAt dk18b05pub_cX11_walk_40_a 1 rfl)
theorem wk_8 {x : Int32} {k : Nat} (h : x < 0 ∨ ¬ x < 8) : x < 0 ∨ 7 < x ∨ k = 6 := h.elim Or.inl (fun z => Or.inr (Or.inl (Int32.lt_of_lt_of_le (by decide) (Int32.not_lt.mp z))))
theorem ww_x {f : Nat → Int32} {k i : Nat} {x : Int32} : upd f k x i = if i = k then x else f i := by
  by_cases q : i = k
  · subst q; rw [pk_us, if_pos rfl]
  · rw [pk_un q, if_neg q]

theorem kc_xWalk_0 : ∀ w ∈ wsX110, w ∈ wsX11_walk := fun w h => List.mem_cons_of_mem _ (gin_wsX110 w h)
theorem kc_xWalk_1 : (.fieldLink RX11 14 "MistHeaps" "scene" "LMistHeaps$Scene;" : Cond) ∈ wsX11_walk := kc_of 328 rfl rfl rfl
theorem kc_xWalk_2 : ∀ w ∈ wsX80, w ∈ wsX11_walk := fun w h => List.mem_cons_of_mem _ (gin_wsX80 w h)
theorem kc_xWalk_3 : (.fieldLink RX11 169 "MistHeaps$Scene" "walkSize" "I" : Cond) ∈ wsX11_walk := kc_of 179 rfl rfl rfl
theorem kc_xWalk_4 : (.fieldLink RX11 172 "MistHeaps$Scene" "walk" "[I" : Cond) ∈ wsX11_walk := kc_of 176 rfl rfl rfl
set_option maxHeartbeats 4000000 in
set_option maxRecDepth 100000 in
theorem c_xWalk (l : Launch) (dC : Nat → ClassId) (dI : Nat → Nat → Nat) (h0 : Nat) (sc : Nat) (kp : Nat) (bl : Nat) (go : Nat) (ch : Nat) (bo : Nat) (aTp : Nat) (aHl : Nat) (aHs : Nat) (aWk : Nat) (aBk : Nat) (aFc : Nat) (ts : Nat) (nh : Nat) (n : Nat) (wz : Nat) (bz : Nat) (mi : Int32) (sn : Int32) (ik : Int32) (x : Int32) (ed : Int64) (cWk : ClassId) (fWk : Nat → Int32) (w0 : Nat) (sz : Nat) (hwz : wz ≤ 6) (zwk : ∀ k0, k0 < 6 → ∃ w0 : Nat, w0 < 8 ∧ fWk k0 = nI w0) : Met l yX11_walk wsX11_walk ({ frames := 0, cells := 0, slots := 0, locals := 0 } : Room) (va_Pc [.ref h0, .int x] (fun U => U.heap.size = sz ∧ va_P (dC, dI) vwCl [(zo13rrirrrr h0 sc kp ik bl go ch bo), (zo10ririliiriririr sc aTp (nI ts) aHl (nI nh) ed mi sn aHs (nI n) aWk (nI wz) aBk (nI bz) aFc), (zaI aWk cWk 6 fWk)] U.heap ∧ va_K (dC, dI) vwCl [(cWk, .int)] U ∧ va_D (fun _ => True) [(zo13rrirrrr h0 sc kp ik bl go ch bo), (zo10ririliiriririr sc aTp (nI ts) aHl (nI nh) ed mi sn aHs (nI n) aWk (nI wz) aBk (nI bz) aFc), (zaI aWk cWk 6 fWk)])) (va_Qi (fun (r : Int32) (u : (Nat) × (Nat → Int32)) => match u with | (wz9, fWk9) => wz9 ≤ 6 ∧ (∀ k0, k0 < 6 → ∃ w0 : Nat, w0 < 8 ∧ fWk9 k0 = nI w0) ∧ r = wkR wz x ∧ wz9 = wkN wz x ∧ ∀ vy : Nat → Nat, (∀ k0, k0 < wz → fWk k0 = nI (vy k0)) → ∀ k0, k0 < wkN wz x → fWk9 k0 = nI (wkW wz vy x k0)) (fun (u : (Nat) × (Nat → Int32)) (t : State) => match u with | (wz9, fWk9) => va_P (dC, dI) vwCl [(zo13rrirrrr h0 sc kp ik bl go ch bo), (zo10ririliiriririr sc aTp (nI ts) aHl (nI nh) ed mi sn aHs (nI n) aWk (nI wz9) aBk (nI bz) aFc), (zaI aWk cWk 6 fWk9)] t.heap ∧ va_K (dC, dI) vwCl [(cWk, .int)] t ∧ va_D (va_A [(zo13rrirrrr h0 sc kp ik bl go ch bo), (zo10ririliiriririr sc aTp (nI ts) aHl (nI nh) ed mi sn aHs (nI n) aWk (nI wz) aBk (nI bz) aFc), (zaI aWk cWk 6 fWk)] sz) [(zo13rrirrrr h0 sc kp ik bl go ch bo), (zo10ririliiriririr sc aTp (nI ts) aHl (nI nh) ed mi sn aHs (nI n) aWk (nI wz9) aBk (nI bz) aFc), (zaI aWk cWk 6 fWk9)]) (va_A [(zo13rrirrrr h0 sc kp ik bl go ch bo), (zo10ririliiriririr sc aTp (nI ts) aHl (nI nh) ed mi sn aHs (nI n) aWk (nI wz) aBk (nI bz) aFc), (zaI aWk cWk 6 fWk)] sz)) 0 0 (va_A [(zo13rrirrrr h0 sc kp ik bl go ch bo), (zo10ririliiriririr sc aTp (nI ts) aHl (nI nh) ed mi sn aHs (nI n) aWk (nI wz) aBk (nI bz) aFc), (zaI aWk cWk 6 fWk)] sz) := by
  refine met_ofQ (cc := cX11_walk) (maxL := 2) (ret := (some .int)) (by decide) rfl ?_
  intro p e s m args below meth c s₁ Q B hml hv hQ
  obtain ⟨rfl, hsz, hP, hK, hD0⟩ := hv
  have hx := B.exec
  have hb := B.bytes
  have hr := B.returns
  have hts := atoms_spec (ws := wsX11_walk) B.pre
  have hown : s.vm.findClass RX11 = some m.cls := findClass_of_methodNamed B.named
  have hlocks := B.notSynchronized
  subst hsz
  have hD := hD0.self (sz := s.heap.size)
  generalize hAe : va_A [(zo13rrirrrr h0 sc kp ik bl go ch bo), (zo10ririliiriririr sc aTp (nI ts) aHl (nI nh) ed mi sn aHs (nI n) aWk (nI wz) aBk (nI bz) aFc), (zaI aWk cWk 6 fWk)] s.heap.size = A at hD hQ ⊢
  have hA : ∀ q : Nat, s.heap.size ≤ q → A q := fun q h => by rw [← hAe]; exact Or.inr h
  have hS : va_S A s.heap s.heap [] := va_S.rf
  have hl := lv_entry [.ref h0, .int x] (n := 2) (Nat.le_of_ble_eq_true rfl)
  rw [lg_entry_eq]
  generalize (lg_sl [.ref h0, .int x] ++ List.replicate (2 - (lg_sl [.ref h0, .int x]).length) Slot.unset).toArray = ls at hl ⊢
  generalize hag : ([.ref h0, .int x] : List Value).toArray = args at hts hQ ⊢
  have hl : lv_has ls 2 [(0, .ref h0), (1, .int x)] := hl
  obtain ⟨H, hH⟩ : ∃ H : Heap, H = s.heap := ⟨_, rfl⟩
  rw [← hH] at hP
  rw [← hH]
  have hS : va_S A s.heap H [] := by rw [hH]; exact hS
  obtain ⟨locs, hlo⟩ : ∃ L : List Loc, L = [] := ⟨_, rfl⟩
  rw [← hlo] at hS
  rw [← hlo]
  clear hH hlo
  refine lv_iload_n hx hb dX11_walk_0 rfl (lv_at hl 1 rfl) ?_
  refine lv_iconst (v := (-1)) hx hb dX11_walk_1 (by decide) ?_
  refine lv_icmp_ne (tgt := 15) hx hb dX11_walk_2 (by decide) (fun c_1 => ?_) (fun c_1 => ?_)
  · skip
    have c1_ : ¬ x = -1 := c_1
    refine lv_iload_n hx hb dX11_walk_15 rfl (lv_at hl 1 rfl) ?_
    refine lv_if_lt (tgt := 25) hx hb dX11_walk_16 (by decide) (fun c_2 => ?_) (fun c_2 => ?_)
    · skip
      refine lv_iconst (v := (-1)) hx hb dX11_walk_25 (by decide) ?_
      rw [hQ]
      have hP9 := hP.sub (ws' := [(zo13rrirrrr h0 sc kp ik bl go ch bo), (zo10ririliiriririr sc aTp (nI ts) aHl (nI nh) ed mi sn aHs (nI n) aWk (nI wz) aBk (nI bz) aFc), (zaI aWk cWk 6 fWk)]) [0, 1, 2] rfl
      have hD9 := hD.sub (ws' := [(zo13rrirrrr h0 sc kp ik bl go ch bo), (zo10ririliiriririr sc aTp (nI ts) aHl (nI nh) ed mi sn aHs (nI n) aWk (nI wz) aBk (nI bz) aFc), (zaI aWk cWk 6 fWk)]) [0, 1, 2] (by decide) rfl
      have hK9 := hK.sub (tys' := [(cWk, .int)]) [0] rfl
      exact W.iret (v := (-1)) hx hb hr (fun tQ htQ hWQ => ⟨⟨(-1), (wz, fWk), rfl, ⟨hwz, zwk, (wk_none c1_ (by first | exact Or.inl (by assumption) | exact Or.inr (by assumption))).1, (wk_none c1_ (by first | exact Or.inl (by assumption) | exact Or.inr (by assumption))).2, ww_k c1_ (wk_8 (by first | exact Or.inl (by assumption) | exact Or.inr (by assumption)))⟩, by rw [htQ]; exact hP9, va_K.moved hWQ.alike hK9, hD9⟩, hS.F htQ⟩) hS.2.2 dX11_walk_26
    · skip
      refine lv_iload_n hx hb dX11_walk_19 rfl (lv_at hl 1 rfl) ?_
      refine lv_bipush (v := 8) hx hb dX11_walk_20 (by decide) ?_
      refine lv_icmp_lt (tgt := 27) hx hb dX11_walk_22 (by decide) (fun c_3 => ?_) (fun c_3 => ?_)
      · skip
        obtain ⟨j8, hj8, rfl⟩ := lt_of (x := x) (n := 8) (by omega) (by assumption) (Int32.not_le.mpr c_3)
        refine lv_aload_n hx hb dX11_walk_27 rfl (lv_at hl 0 rfl) ?_
        refine va_get (D := (dC, dI)) (ci := 13) (v := .ref sc) (C := RX11) (T := TX11) (N := 7) hx hb hts kc_xWalk_0 hown hK hP 0 rfl rfl 0 (by decide) (hts (.fieldLink RX11 14 "MistHeaps" "scene" "LMistHeaps$Scene;") kc_xWalk_1) (fun _ h9 => h9) rfl dX11_walk_28 ?_
        refine va_get (D := (dC, dI)) (ci := 10) (v := .int (nI wz)) (C := RX8) (T := TX8) (N := 14) hx hb hts kc_xWalk_2 hown hK hP 1 rfl rfl 10 (by decide) (hts (.fieldLink RX11 169 "MistHeaps$Scene" "walkSize" "I") kc_xWalk_3) (fun _ h9 => h9) rfl dX11_walk_31 ?_
        refine lv_bipush (v := 6) hx hb dX11_walk_34 (by decide) ?_
        refine lv_icmp_lt (tgt := 42) hx hb dX11_walk_36 (by decide) (fun c_4 => ?_) (fun c_4 => ?_)
        · skip
          have c_4 : wz < 6 := (nI_ltI (a := wz) (b := 6) (by omega) (by omega)).mp c_4
          refine lv_aload_n hx hb dX11_walk_42 rfl (lv_at hl 0 rfl) ?_
          refine va_get (D := (dC, dI)) (ci := 13) (v := .ref sc) (C := RX11) (T := TX11) (N := 7) hx hb hts kc_xWalk_0 hown hK hP 0 rfl rfl 0 (by decide) (hts (.fieldLink RX11 14 "MistHeaps" "scene" "LMistHeaps$Scene;") kc_xWalk_1) (fun _ h9 => h9) rfl dX11_walk_43 ?_
          refine va_get (D := (dC, dI)) (ci := 10) (v := .ref aWk) (C := RX8) (T := TX8) (N := 14) hx hb hts kc_xWalk_2 hown hK hP 1 rfl rfl 9 (by decide) (hts (.fieldLink RX11 172 "MistHeaps$Scene" "walk" "[I") kc_xWalk_4) (fun _ h9 => h9) rfl dX11_walk_46 ?_
          refine lv_aload_n hx hb dX11_walk_49 rfl (lv_at hl 0 rfl) ?_
          refine va_get (D := (dC, dI)) (ci := 13) (v := .ref sc) (C := RX11) (T := TX11) (N := 7) hx hb hts kc_xWalk_0 hown hK hP 0 rfl rfl 0 (by decide) (hts (.fieldLink RX11 14 "MistHeaps" "scene" "LMistHeaps$Scene;") kc_xWalk_1) (fun _ h9 => h9) rfl dX11_walk_50 ?_
          refine va_get (D := (dC, dI)) (ci := 10) (v := .int (nI wz)) (C := RX8) (T := TX8) (N := 14) hx hb hts kc_xWalk_2 hown hK hP 1 rfl rfl 10 (by decide) (hts (.fieldLink RX11 169 "MistHeaps$Scene" "walkSize" "I") kc_xWalk_3) (fun _ h9 => h9) rfl dX11_walk_53 ?_
          refine lv_iload_n hx hb dX11_walk_56 rfl (lv_at hl 1 rfl) ?_
          refine va_iast hx hb hK hP hD hS 2 0 rfl rfl (vp_in_nI (n := wz) (N := 6) (by omega) (by omega)) dX11_walk_57 (fun H locs hP hD hS => ?_)
          rw [nI_clamp (n := wz) (by omega)] at hP hD
          have hP : va_P (dC, dI) vwCl [(zo13rrirrrr h0 sc kp ik bl go ch bo), (zo10ririliiriririr sc aTp (nI ts) aHl (nI nh) ed mi sn aHs (nI n) aWk (nI wz) aBk (nI bz) aFc), (zaI aWk cWk 6 (upd fWk wz (nI j8)))] H := hP
          have hD : va_D A [(zo13rrirrrr h0 sc kp ik bl go ch bo), (zo10ririliiriririr sc aTp (nI ts) aHl (nI nh) ed mi sn aHs (nI n) aWk (nI wz) aBk (nI bz) aFc), (zaI aWk cWk 6 (upd fWk wz (nI j8)))] := hD
          refine lv_aload_n hx hb dX11_walk_58 rfl (lv_at hl 0 rfl) ?_
          refine va_get (D := (dC, dI)) (ci := 13) (v := .ref sc) (C := RX11) (T := TX11) (N := 7) hx hb hts kc_xWalk_0 hown hK hP 0 rfl rfl 0 (by decide) (hts (.fieldLink RX11 14 "MistHeaps" "scene" "LMistHeaps$Scene;") kc_xWalk_1) (fun _ h9 => h9) rfl dX11_walk_59 ?_
          refine lv_dup hx hb dX11_walk_62 rfl ?_
          refine va_get (D := (dC, dI)) (ci := 10) (v := .int (nI wz)) (C := RX8) (T := TX8) (N := 14) hx hb hts kc_xWalk_2 hown hK hP 1 rfl rfl 10 (by decide) (hts (.fieldLink RX11 169 "MistHeaps$Scene" "walkSize" "I") kc_xWalk_3) (fun _ h9 => h9) rfl dX11_walk_63 ?_
          refine lv_iconst (v := 1) hx hb dX11_walk_66 (by decide) ?_
          refine lv_iadd hx hb dX11_walk_67 ?_
          refine qi_as (y := nI (wz + 1)) (nI_add wz 1) ?_
          refine va_put (D := (dC, dI)) (ci := 10) (v := .int (nI (wz + 1))) (ty := .int) (C := RX8) (T := TX8) (N := 14) hx hb hts kc_xWalk_2 tyX8 tyX8_ok nmX8 hown hK hP hD hS 1 rfl rfl 10 (by decide) (hts (.fieldLink RX11 169 "MistHeaps$Scene" "walkSize" "I") kc_xWalk_3) (fun _ h9 => h9) rfl (by decide +kernel) rfl rfl (Nat.le_of_ble_eq_true rfl) dX11_walk_68 (fun H locs hP hD hS => ?_)
          have hP : va_P (dC, dI) vwCl [(zo13rrirrrr h0 sc kp ik bl go ch bo), (zo10ririliiriririr sc aTp (nI ts) aHl (nI nh) ed mi sn aHs (nI n) aWk (nI (wz + 1)) aBk (nI bz) aFc), (zaI aWk cWk 6 (upd fWk wz (nI j8)))] H := hP
          have hD : va_D A [(zo13rrirrrr h0 sc kp ik bl go ch bo), (zo10ririliiriririr sc aTp (nI ts) aHl (nI nh) ed mi sn aHs (nI n) aWk (nI (wz + 1)) aBk (nI bz) aFc), (zaI aWk cWk 6 (upd fWk wz (nI j8)))] := hD
          refine lv_aload_n hx hb dX11_walk_71 rfl (lv_at hl 0 rfl) ?_
          refine va_get (D := (dC, dI)) (ci := 13) (v := .ref sc) (C := RX11) (T := TX11) (N := 7) hx hb hts kc_xWalk_0 hown hK hP 0 rfl rfl 0 (by decide) (hts (.fieldLink RX11 14 "MistHeaps" "scene" "LMistHeaps$Scene;") kc_xWalk_1) (fun _ h9 => h9) rfl dX11_walk_72 ?_
          refine va_get (D := (dC, dI)) (ci := 10) (v := .int (nI (wz + 1))) (C := RX8) (T := TX8) (N := 14) hx hb hts kc_xWalk_2 hown hK hP 1 rfl rfl 10 (by decide) (hts (.fieldLink RX11 169 "MistHeaps$Scene" "walkSize" "I") kc_xWalk_3) (fun _ h9 => h9) rfl dX11_walk_75 ?_
          rw [hQ]
          have hP9 := hP.sub (ws' := [(zo13rrirrrr h0 sc kp ik bl go ch bo), (zo10ririliiriririr sc aTp (nI ts) aHl (nI nh) ed mi sn aHs (nI n) aWk (nI (wz + 1)) aBk (nI bz) aFc), (zaI aWk cWk 6 (upd fWk wz (nI j8)))]) [0, 1, 2] rfl
          have hD9 := hD.sub (ws' := [(zo13rrirrrr h0 sc kp ik bl go ch bo), (zo10ririliiriririr sc aTp (nI ts) aHl (nI nh) ed mi sn aHs (nI n) aWk (nI (wz + 1)) aBk (nI bz) aFc), (zaI aWk cWk 6 (upd fWk wz (nI j8)))]) [0, 1, 2] (by decide) rfl
          have hK9 := hK.sub (tys' := [(cWk, .int)]) [0] rfl
          exact W.iret (v := nI (wz + 1)) hx hb hr (fun tQ htQ hWQ => ⟨⟨(nI (wz + 1)), ((wz + 1), (upd fWk wz (nI j8))), rfl, ⟨by omega, wk_up zwk hj8, (wk_ans hj8 (by omega)).1, (wk_ans hj8 (by omega)).2, ww_u (nI_nm1 (by omega)) (nI_pos (by omega)) (nI_nlt (a := 7) (by omega) (by omega)) (by omega) (fun i _ => ww_x)⟩, by rw [htQ]; exact hP9, va_K.moved hWQ.alike hK9, hD9⟩, hS.F htQ⟩) hS.2.2 dX11_walk_78
        · skip
          have c_4 : ¬ wz < 6 := fun q => c_4 ((nI_ltI (a := wz) (b := 6) (by omega) (by omega)).mpr q)
          refine lv_bipush (v := (-4)) hx hb dX11_walk_39 (by decide) ?_
          rw [hQ]
          have hP9 := hP.sub (ws' := [(zo13rrirrrr h0 sc kp ik bl go ch bo), (zo10ririliiriririr sc aTp (nI ts) aHl (nI nh) ed mi sn aHs (nI n) aWk (nI wz) aBk (nI bz) aFc), (zaI aWk cWk 6 fWk)]) [0, 1, 2] rfl
          have hD9 := hD.sub (ws' := [(zo13rrirrrr h0 sc kp ik bl go ch bo), (zo10ririliiriririr sc aTp (nI ts) aHl (nI nh) ed mi sn aHs (nI n) aWk (nI wz) aBk (nI bz) aFc), (zaI aWk cWk 6 fWk)]) [0, 1, 2] (by decide) rfl
          have hK9 := hK.sub (tys' := [(cWk, .int)]) [0] rfl
          exact W.iret (v := (-4)) hx hb hr (fun tQ htQ hWQ => ⟨⟨(-4), (wz, fWk), rfl, ⟨hwz, zwk, (wk_full hj8 (by omega)).1, (wk_full hj8 (by omega)).2, ww_k (nI_nm1 (by omega)) (Or.inr (Or.inr (by omega)))⟩, by rw [htQ]; exact hP9, va_K.moved hWQ.alike hK9, hD9⟩, hS.F htQ⟩) hS.2.2 dX11_walk_41
      · skip
        refine lv_iconst (v := (-1)) hx hb dX11_walk_25 (by decide) ?_
        rw [hQ]
        have hP9 := hP.sub (ws' := [(zo13rrirrrr h0 sc kp ik bl go ch bo), (zo10ririliiriririr sc aTp (nI ts) aHl (nI nh) ed mi sn aHs (nI n) aWk (nI wz) aBk (nI bz) aFc), (zaI aWk cWk 6 fWk)]) [0, 1, 2] rfl
        have hD9 := hD.sub (ws' := [(zo13rrirrrr h0 sc kp ik bl go ch bo), (zo10ririliiriririr sc aTp (nI ts) aHl (nI nh) ed mi sn aHs (nI n) aWk (nI wz) aBk (nI bz) aFc), (zaI aWk cWk 6 fWk)]) [0, 1, 2] (by decide) rfl
        have hK9 := hK.sub (tys' := [(cWk, .int)]) [0] rfl
        exact W.iret (v := (-1)) hx hb hr (fun tQ htQ hWQ => ⟨⟨(-1), (wz, fWk), rfl, ⟨hwz, zwk, (wk_none c1_ (by first | exact Or.inl (by assumption) | exact Or.inr (by assumption))).1, (wk_none c1_ (by first | exact Or.inl (by assumption) | exact Or.inr (by assumption))).2, ww_k c1_ (wk_8 (by first | exact Or.inl (by assumption) | exact Or.inr (by assumption)))⟩, by rw [htQ]; exact hP9, va_K.moved hWQ.alike hK9, hD9⟩, hS.F htQ⟩) hS.2.2 dX11_walk_26
  · skip
    have c1_ : x = -1 := c_1
    refine lv_aload_n hx hb dX11_walk_5 rfl (lv_at hl 0 rfl) ?_
    refine va_get (D := (dC, dI)) (ci := 13) (v := .ref sc) (C := RX11) (T := TX11) (N := 7) hx hb hts kc_xWalk_0 hown hK hP 0 rfl rfl 0 (by decide) (hts (.fieldLink RX11 14 "MistHeaps" "scene" "LMistHeaps$Scene;") kc_xWalk_1) (fun _ h9 => h9) rfl dX11_walk_6 ?_
    refine lv_iconst (v := 0) hx hb dX11_walk_9 (by decide) ?_
    refine va_put (D := (dC, dI)) (ci := 10) (v := .int 0) (ty := .int) (C := RX8) (T := TX8) (N := 14) hx hb hts kc_xWalk_2 tyX8 tyX8_ok nmX8 hown hK hP hD hS 1 rfl rfl 10 (by decide) (hts (.fieldLink RX11 169 "MistHeaps$Scene" "walkSize" "I") kc_xWalk_3) (fun _ h9 => h9) rfl (by decide +kernel) rfl rfl (Nat.le_of_ble_eq_true rfl) dX11_walk_10 (fun H locs hP hD hS => ?_)
    have hP : va_P (dC, dI) vwCl [(zo13rrirrrr h0 sc kp ik bl go ch bo), (zo10ririliiriririr sc aTp (nI ts) aHl (nI nh) ed mi sn aHs (nI n) aWk 0 aBk (nI bz) aFc), (zaI aWk cWk 6 fWk)] H := hP
    have hD : va_D A [(zo13rrirrrr h0 sc kp ik bl go ch bo), (zo10ririliiriririr sc aTp (nI ts) aHl (nI nh) ed mi sn aHs (nI n) aWk 0 aBk (nI bz) aFc), (zaI aWk cWk 6 fWk)] := hD
    refine lv_iconst (v := 0) hx hb dX11_walk_13 (by decide) ?_
    rw [hQ]
    have hP9 := hP.sub (ws' := [(zo13rrirrrr h0 sc kp ik bl go ch bo), (zo10ririliiriririr sc aTp (nI ts) aHl (nI nh) ed mi sn aHs (nI n) aWk 0 aBk (nI bz) aFc), (zaI aWk cWk 6 fWk)]) [0, 1, 2] rfl
    have hD9 := hD.sub (ws' := [(zo13rrirrrr h0 sc kp ik bl go ch bo), (zo10ririliiriririr sc aTp (nI ts) aHl (nI nh) ed mi sn aHs (nI n) aWk 0 aBk (nI bz) aFc), (zaI aWk cWk 6 fWk)]) [0, 1, 2] (by decide) rfl
    have hK9 := hK.sub (tys' := [(cWk, .int)]) [0] rfl
    exact W.iret (v := 0) hx hb hr (fun tQ htQ hWQ => ⟨⟨0, (0, fWk), rfl, ⟨by omega, zwk, by rw [wkR, if_pos c1_], by rw [wkN, if_pos c1_], ww_0 c1_⟩, by rw [htQ]; exact hP9, va_K.moved hWQ.alike hK9, hD9⟩, hS.F htQ⟩) hS.2.2 dX11_walk_14
end mg18a
section mg18a
theorem ggX11_book_X8_heapAt : GoodIn wsX11_book wsX8_heapAt := gga_of 632 rfl rfl rfl
theorem gX11_book_X8_heapAt : GoodIn wsX11_book (wsV RX11 112 RX8 yX8_heapAt wsX8_heapAt) := goodIn_app (ggh_of [629, 630, 631, 64] rfl rfl rfl) ggX11_book_X8_heapAt
noncomputable def dk18b06pub_cX11_book_0 : List (Nat × List Nat) := [(0, [27]), (1, [2]), (2, [160, 0, 13]), (5, [42]), (6, [180, 0, 14]), (9, [3]), (10, [181, 0, 221]), (15, [42]), (16, [180, 0, 14]), (19, [27]), (20, [182, 0, 112]), (23, [199, 0, 5]), (26, [2]), (27, [172]), (28, [42]), (29, [180, 0, 14]), (32, [180, 0, 221]), (35, [16, 12]), (37, [161, 0, 6]), (40, [16, 252]), (42, [172]), (43, [42]), (44, [180, 0, 14]), (47, [180, 0, 224]), (50, [42]), (51, [180, 0, 14]), (54, [180, 0, 221]), (57, [27]), (58, [79]), (59, [42]), (60, [180, 0, 14]), (63, [89]), (64, [180, 0, 221]), (67, [4]), (68, [96]), (69, [181, 0, 221]), (72, [42]), (73, [180, 0, 14]), (76, [180, 0, 221]), (79, [172])]
set_option maxRecDepth 100000 in
theorem dk18b06pub_cX11_book_0_a : btA cX11_book dk18b06pub_cX11_book_0 = true := by decide +kernel
theorem dX11_book_0 : decode cX11_book 0 = .ok (.iload_n 1, 1) := bd27 (btAt dk18b06pub_cX11_book_0_a 0 rfl)
theorem dX11_book_1 : decode cX11_book 1 = .ok (.iconst (-1), 1) := bd2 (btAt dk18b06pub_cX11_book_0_a 1 rfl)
theorem dX11_book_2 : decode cX11_book 2 = .ok (.if_icmp .ne 13, 3) := bd160 (a := 0) (b := 13) (btAt dk18b06pub_cX11_book_0_a 2 rfl)
theorem dX11_book_5 : decode cX11_book 5 = .ok (.aload_n 0, 1) := bd42 (btAt dk18b06pub_cX11_book_0_a 3 rfl)
theorem dX11_book_6 : decode cX11_book 6 = .ok (.getfield 14, 3) := bd180 (a := 0) (b := 14) (btAt dk18b06pub_cX11_book_0_a 4 rfl)
theorem dX11_book_9 : decode cX11_book 9 = .ok (.iconst 0, 1) := bd3 (btAt dk18b06pub_cX11_book_0_a 5 rfl)
theorem dX11_book_10 : decode cX11_book 10 = .ok (.putfield 221, 3) := bd181 (a := 0) (b := 221) (btAt dk18b06pub_cX11_book_0_a 6 rfl)
theorem dX11_book_15 : decode cX11_book 15 = .ok (.aload_n 0, 1) := bd42 (btAt dk18b06pub_cX11_book_0_a 7 rfl)
theorem dX11_book_16 : decode cX11_book 16 = .ok (.getfield 14, 3) := bd180 (a := 0) (b := 14) (btAt dk18b06pub_cX11_book_0_a 8 rfl)
theorem dX11_book_19 : decode cX11_book 19 = .ok (.iload_n 1, 1) := bd27 (btAt dk18b06pub_cX11_book_0_a 9 rfl)
theorem dX11_book_20 : decode cX11_book 20 = .ok (.invokevirtual 112, 3) := bd182 (a := 0) (b := 112) (btAt dk18b06pub_cX11_book_0_a 10 rfl)
theorem dX11_book_23 : decode cX11_book 23 = .ok (.ifnonnull 5, 3) := bd199 (a := 0) (b := 5) (btAt dk18b06pub_cX11_book_0_a 11 rfl)
theorem dX11_book_26 : decode cX11_book 26 = .ok (.iconst (-1), 1) := bd2 (btAt dk18b06pub_cX11_book_0_a 12 rfl)
theorem dX11_book_27 : decode cX11_book 27 = .ok (.ireturn, 1) := bd172 (btAt dk18b06pub_cX11_book_0_a 13 rfl)
theorem dX11_book_28 : decode cX11_book 28 = .ok (.aload_n 0, 1) := bd42 (btAt dk18b06pub_cX11_book_0_a 14 rfl)
theorem dX11_book_29 : decode cX11_book 29 = .ok (.getfield 14, 3) := bd180 (a := 0) (b := 14) (btAt dk18b06pub_cX11_book_0_a 15 rfl)
theorem dX11_book_32 : decode cX11_book 32 = .ok (.getfield 221, 3) := bd180 (a := 0) (b := 221) (btAt dk18b06pub_cX11_book_0_a 16 rfl)
theorem dX11_book_35 : decode cX11_book 35 = .ok (.bipush 12, 2) := bd16 (a := 12) (btAt dk18b06pub_cX11_book_0_a 17 rfl)
theorem dX11_book_37 : decode cX11_book 37 = .ok (.if_icmp .lt 6, 3) := bd161 (a := 0) (b := 6) (btAt dk18b06pub_cX11_book_0_a 18 rfl)
theorem dX11_book_40 : decode cX11_book 40 = .ok (.bipush (-4), 2) := bd16 (a := 252) (btAt dk18b06pub_cX11_book_0_a 19 rfl)
theorem dX11_book_42 : decode cX11_book 42 = .ok (.ireturn, 1) := bd172 (btAt dk18b06pub_cX11_book_0_a 20 rfl)
theorem dX11_book_43 : decode cX11_book 43 = .ok (.aload_n 0, 1) := bd42 (btAt dk18b06pub_cX11_book_0_a 21 rfl)
theorem dX11_book_44 : decode cX11_book 44 = .ok (.getfield 14, 3) := bd180 (a := 0) (b := 14) (btAt dk18b06pub_cX11_book_0_a 22 rfl)
theorem dX11_book_47 : decode cX11_book 47 = .ok (.getfield 224, 3) := bd180 (a := 0) (b := 224) (btAt dk18b06pub_cX11_book_0_a 23 rfl)
theorem dX11_book_50 : decode cX11_book 50 = .ok (.aload_n 0, 1) := bd42 (btAt dk18b06pub_cX11_book_0_a 24 rfl)
theorem dX11_book_51 : decode cX11_book 51 = .ok (.getfield 14, 3) := bd180 (a := 0) (b := 14) (btAt dk18b06pub_cX11_book_0_a 25 rfl)
theorem dX11_book_54 : decode cX11_book 54 = .ok (.getfield 221, 3) := bd180 (a := 0) (b := 221) (btAt dk18b06pub_cX11_book_0_a 26 rfl)
theorem dX11_book_57 : decode cX11_book 57 = .ok (.iload_n 1, 1) := bd27 (btAt dk18b06pub_cX11_book_0_a 27 rfl)
theorem dX11_book_58 : decode cX11_book 58 = .ok (.iastore, 1) := bd79 (btAt dk18b06pub_cX11_book_0_a 28 rfl)
theorem dX11_book_59 : decode cX11_book 59 = .ok (.aload_n 0, 1) := bd42 (btAt dk18b06pub_cX11_book_0_a 29 rfl)
theorem dX11_book_60 : decode cX11_book 60 = .ok (.getfield 14, 3) := bd180 (a := 0) (b := 14) (btAt dk18b06pub_cX11_book_0_a 30 rfl)
theorem dX11_book_63 : decode cX11_book 63 = .ok (.dup, 1) := bd89 (btAt dk18b06pub_cX11_book_0_a 31 rfl)
theorem dX11_book_64 : decode cX11_book 64 = .ok (.getfield 221, 3) := bd180 (a := 0) (b := 221) (btAt dk18b06pub_cX11_book_0_a 32 rfl)
theorem dX11_book_67 : decode cX11_book 67 = .ok (.iconst 1, 1) := bd4 (btAt dk18b06pub_cX11_book_0_a 33 rfl)
theorem dX11_book_68 : decode cX11_book 68 = .ok (.iadd, 1) := bd96 (btAt dk18b06pub_cX11_book_0_a 34 rfl)
theorem dX11_book_69 : decode cX11_book 69 = .ok (.putfield 221, 3) := bd181 (a := 0) (b := 221) (btAt dk18b06pub_cX11_book_0_a 35 rfl)
theorem dX11_book_72 : decode cX11_book 72 = .ok (.aload_n 0, 1) := bd42 (btAt dk18b06pub_cX11_book_0_a 36 rfl)
theorem dX11_book_73 : decode cX11_book 73 = .ok (.getfield 14, 3) := bd180 (a := 0) (b := 14) (btAt dk18b06pub_cX11_book_0_a 37 rfl)
theorem dX11_book_76 : decode cX11_book 76 = .ok (.getfield 221, 3) := bd180 (a := 0) (b := 221) (btAt dk18b06pub_cX11_book_0_a 38 rfl)
theorem dX11_book_79 : decode cX11_book 79 = .ok (.ireturn, 1) := bd172 (btAt dk18b06pub_cX11_book_0_a 39 rfl)
noncomputable def dk18b06pub_cX11_book_40 : List (Nat × List Nat) := [(13, [3]), (14, [172])]
set_option maxRecDepth 100000 in
theorem dk18b06pub_cX11_book_40_a : btA cX11_book dk18b06pub_cX11_book_40 = true := by decide +kernel
theorem dX11_book_13 : decode cX11_book 13 = .ok (.iconst 0, 1) := bd3 (btAt dk18b06pub_cX11_book_40_a 0 rfl)
theorem dX11_book_14 : decode cX11_book 14 = .ok (.ireturn, 1) := bd172 (btAt dk18b06pub_cX11_book_40_a 1 rfl)
theorem kc_xBook_0 : ∀ w ∈ wsX110, w ∈ wsX11_book := fun w h => List.mem_cons_of_mem _ (gin_wsX110 w h)
theorem kc_xBook_1 : (.fieldLink RX11 14 "MistHeaps" "scene" "LMistHeaps$Scene;" : Cond) ∈ wsX11_book := kc_of 328 rfl rfl rfl
theorem kc_xBook_2 : ∀ w ∈ wsX80, w ∈ wsX11_book := fun w h => List.mem_cons_of_mem _ (gin_wsX80 w h)
theorem kc_xBook_3 : (.fieldLink RX11 221 "MistHeaps$Scene" "bookSize" "I" : Cond) ∈ wsX11_book := kc_of 183 rfl rfl rfl
theorem kc_xBook_4 : (.fieldLink RX11 224 "MistHeaps$Scene" "book" "[I" : Cond) ∈ wsX11_book := kc_of 181 rfl rfl rfl
set_option maxHeartbeats 4000000 in
set_option maxRecDepth 100000 in
theorem c_xBook (l : Launch) (dC : Nat → ClassId) (dI : Nat → Nat → Nat) (h0 : Nat) (sc : Nat) (kp : Nat) (bl : Nat) (go : Nat) (ch : Nat) (bo : Nat) (aTp : Nat) (aHl : Nat) (aHs : Nat) (aWk : Nat) (aBk : Nat) (aFc : Nat) (ts : Nat) (nh : Nat) (n : Nat) (wz : Nat) (bz : Nat) (mi : Int32) (sn : Int32) (ik : Int32) (x : Int32) (ed : Int64) (cHs : ClassId) (cBk : ClassId) (fBk : Nat → Int32) (fHs : Nat → Option Nat) (w0 : Nat) (ya : Nat → Nat) (sz : Nat) (zhs : ∀ k0, k0 < n → fHs k0 = some (ya k0)) (hn8 : n ≤ 8) (hbz : bz ≤ 12) (zbk : ∀ k0, k0 < 12 → ∃ w0 : Nat, w0 < 8 ∧ fBk k0 = nI w0) : Met l yX11_book wsX11_book ({ frames := 1, cells := 0, slots := 0, locals := 21 } : Room) (va_Pc [.ref h0, .int x] (fun U => U.heap.size = sz ∧ va_P (dC, dI) vwCl [(zo13rrirrrr h0 sc kp ik bl go ch bo), (zo10ririliiriririr sc aTp (nI ts) aHl (nI nh) ed mi sn aHs (nI n) aWk (nI wz) aBk (nI bz) aFc), (zaR aHs cHs 8 fHs), (zaI aBk cBk 12 fBk)] U.heap ∧ va_K (dC, dI) vwCl [(cHs, .object "MistHeaps$Heap"), (cBk, .int)] U ∧ va_D (fun _ => True) [(zo13rrirrrr h0 sc kp ik bl go ch bo), (zo10ririliiriririr sc aTp (nI ts) aHl (nI nh) ed mi sn aHs (nI n) aWk (nI wz) aBk (nI bz) aFc), (zaR aHs cHs 8 fHs), (zaI aBk cBk 12 fBk)])) (va_Qi (fun (r : Int32) (u : (Nat) × (Nat → Int32)) => match u with | (bz9, fBk9) => bz9 ≤ 12 ∧ (∀ k0, k0 < 12 → ∃ w0 : Nat, w0 < 8 ∧ fBk9 k0 = nI w0) ∧ r = bkR n bz x ∧ bz9 = bkN n bz x) (fun (u : (Nat) × (Nat → Int32)) (t : State) => match u with | (bz9, fBk9) => va_P (dC, dI) vwCl [(zo13rrirrrr h0 sc kp ik bl go ch bo), (zo10ririliiriririr sc aTp (nI ts) aHl (nI nh) ed mi sn aHs (nI n) aWk (nI wz) aBk (nI bz9) aFc), (zaR aHs cHs 8 fHs), (zaI aBk cBk 12 fBk9)] t.heap ∧ va_K (dC, dI) vwCl [(cHs, .object "MistHeaps$Heap"), (cBk, .int)] t ∧ va_D (va_A [(zo13rrirrrr h0 sc kp ik bl go ch bo), (zo10ririliiriririr sc aTp (nI ts) aHl (nI nh) ed mi sn aHs (nI n) aWk (nI wz) aBk (nI bz) aFc), (zaR aHs cHs 8 fHs), (zaI aBk cBk 12 fBk)] sz) [(zo13rrirrrr h0 sc kp ik bl go ch bo), (zo10ririliiriririr sc aTp (nI ts) aHl (nI nh) ed mi sn aHs (nI n) aWk (nI wz) aBk (nI bz9) aFc), (zaR aHs cHs 8 fHs), (zaI aBk cBk 12 fBk9)]) (va_A [(zo13rrirrrr h0 sc kp ik bl go ch bo), (zo10ririliiriririr sc aTp (nI ts) aHl (nI nh) ed mi sn aHs (nI n) aWk (nI wz) aBk (nI bz) aFc), (zaR aHs cHs 8 fHs), (zaI aBk cBk 12 fBk)] sz)) 0 0 (va_A [(zo13rrirrrr h0 sc kp ik bl go ch bo), (zo10ririliiriririr sc aTp (nI ts) aHl (nI nh) ed mi sn aHs (nI n) aWk (nI wz) aBk (nI bz) aFc), (zaR aHs cHs 8 fHs), (zaI aBk cBk 12 fBk)] sz) := by
  refine met_ofQ (cc := cX11_book) (maxL := 2) (ret := (some .int)) (by decide) rfl ?_
  intro p e s m args below meth c s₁ Q B hml hv hQ
  obtain ⟨rfl, hsz, hP, hK, hD0⟩ := hv
  have hx := B.exec
  have hb := B.bytes
  have hr := B.returns
  have hts := atoms_spec (ws := wsX11_book) B.pre
  have hown : s.vm.findClass RX11 = some m.cls := findClass_of_methodNamed B.named
  have hlocks := B.notSynchronized
  subst hsz
  have hD := hD0.self (sz := s.heap.size)
  generalize hAe : va_A [(zo13rrirrrr h0 sc kp ik bl go ch bo), (zo10ririliiriririr sc aTp (nI ts) aHl (nI nh) ed mi sn aHs (nI n) aWk (nI wz) aBk (nI bz) aFc), (zaR aHs cHs 8 fHs), (zaI aBk cBk 12 fBk)] s.heap.size = A at hD hQ ⊢
  have hA : ∀ q : Nat, s.heap.size ≤ q → A q := fun q h => by rw [← hAe]; exact Or.inr h
  have hS : va_S A s.heap s.heap [] := va_S.rf
  have hl := lv_entry [.ref h0, .int x] (n := 2) (Nat.le_of_ble_eq_true rfl)
  rw [lg_entry_eq]
  generalize (lg_sl [.ref h0, .int x] ++ List.replicate (2 - (lg_sl [.ref h0, .int x]).length) Slot.unset).toArray = ls at hl ⊢
  generalize hag : ([.ref h0, .int x] : List Value).toArray = args at hts hQ ⊢
  have hl : lv_has ls 2 [(0, .ref h0), (1, .int x)] := hl
  obtain ⟨H, hH⟩ : ∃ H : Heap, H = s.heap := ⟨_, rfl⟩
  rw [← hH] at hP
  rw [← hH]
  have hS : va_S A s.heap H [] := by rw [hH]; exact hS
  obtain ⟨locs, hlo⟩ : ∃ L : List Loc, L = [] := ⟨_, rfl⟩
  rw [← hlo] at hS
  rw [← hlo]
  clear hH hlo
  refine lv_iload_n hx hb dX11_book_0 rfl (lv_at hl 1 rfl) ?_
  refine lv_iconst (v := (-1)) hx hb dX11_book_1 (by decide) ?_
  refine lv_icmp_ne (tgt := 15) hx hb dX11_book_2 (by decide) (fun c_1 => ?_) (fun c_1 => ?_)
  · skip
    have c1_ : ¬ x = -1 := c_1
    refine lv_aload_n hx hb dX11_book_15 rfl (lv_at hl 0 rfl) ?_
    refine va_get (D := (dC, dI)) (ci := 13) (v := .ref sc) (C := RX11) (T := TX11) (N := 7) hx hb hts kc_xBook_0 hown hK hP 0 rfl rfl 0 (by decide) (hts (.fieldLink RX11 14 "MistHeaps" "scene" "LMistHeaps$Scene;") kc_xBook_1) (fun _ h9 => h9) rfl dX11_book_16 ?_
    refine lv_iload_n hx hb dX11_book_19 rfl (lv_at hl 1 rfl) ?_
    have hPc := hP.sub (ws' := [(zo10ririliiriririr sc aTp (nI ts) aHl (nI nh) ed mi sn aHs (nI n) aWk (nI wz) aBk (nI bz) aFc), (zaR aHs cHs 8 fHs)]) [1, 2] rfl
    have hKc := hK.sub (tys' := [(cHs, .object "MistHeaps$Heap")]) [0] rfl
    refine va_csq (va_runV (As := [.int x]) (rest := []) ⟨hx, hb, hml, hown, hts⟩ (c_heapAt l dC dI sc aTp aHl aHs aWk aBk aFc ts nh n wz bz mi sn x ed cHs fHs ya (zhs) (hn8)) (cwV 1 hts gX11_book_X8_heapAt rfl rfl rfl hd_yX8_heapAt ⟨Nat.le_of_ble_eq_true rfl, Nat.le_of_ble_eq_true rfl⟩) ⟨fun a U g mk q => by obtain ⟨q0, qP, qK⟩ := q; exact ⟨q0, mvP g mk a qP, mvK g mk a qK⟩, va_recv hK hP (ci := 10) (q := (RX8, TX8, 14)) (q0 := 1) rfl rfl, fun U hU hW => ⟨rfl, by rw [hU]; exact hPc, va_K.moved hW.alike hKc⟩⟩ rfl rfl hl.1 rfl (lv_room (Nat.le_of_ble_eq_true rfl)) dX11_book_20 ⟨Nat.le_of_ble_eq_true rfl, Nat.le_of_ble_eq_true rfl⟩).run (fun r_2 hw_3 => ?_)
    rcases hw_3 with ⟨j_4, hj_5, rfl, rfl⟩ | ⟨rfl, h_7⟩
    · skip
      refine qq_as (v := .ref (ya j_4)) rfl ?_
      refine lv_ifnonnull (tgt := 28) hx hb dX11_book_23 (by decide) ?_
      refine lv_aload_n hx hb dX11_book_28 rfl (lv_at hl 0 rfl) ?_
      refine va_get (D := (dC, dI)) (ci := 13) (v := .ref sc) (C := RX11) (T := TX11) (N := 7) hx hb hts kc_xBook_0 hown hK hP 0 rfl rfl 0 (by decide) (hts (.fieldLink RX11 14 "MistHeaps" "scene" "LMistHeaps$Scene;") kc_xBook_1) (fun _ h9 => h9) rfl dX11_book_29 ?_
      refine va_get (D := (dC, dI)) (ci := 10) (v := .int (nI bz)) (C := RX8) (T := TX8) (N := 14) hx hb hts kc_xBook_2 hown hK hP 1 rfl rfl 12 (by decide) (hts (.fieldLink RX11 221 "MistHeaps$Scene" "bookSize" "I") kc_xBook_3) (fun _ h9 => h9) rfl dX11_book_32 ?_
      refine lv_bipush (v := 12) hx hb dX11_book_35 (by decide) ?_
      refine lv_icmp_lt (tgt := 43) hx hb dX11_book_37 (by decide) (fun c_8 => ?_) (fun c_8 => ?_)
      · skip
        have c_8 : bz < 12 := (nI_ltI (a := bz) (b := 12) (by omega) (by omega)).mp c_8
        refine lv_aload_n hx hb dX11_book_43 rfl (lv_at hl 0 rfl) ?_
        refine va_get (D := (dC, dI)) (ci := 13) (v := .ref sc) (C := RX11) (T := TX11) (N := 7) hx hb hts kc_xBook_0 hown hK hP 0 rfl rfl 0 (by decide) (hts (.fieldLink RX11 14 "MistHeaps" "scene" "LMistHeaps$Scene;") kc_xBook_1) (fun _ h9 => h9) rfl dX11_book_44 ?_
        refine va_get (D := (dC, dI)) (ci := 10) (v := .ref aBk) (C := RX8) (T := TX8) (N := 14) hx hb hts kc_xBook_2 hown hK hP 1 rfl rfl 11 (by decide) (hts (.fieldLink RX11 224 "MistHeaps$Scene" "book" "[I") kc_xBook_4) (fun _ h9 => h9) rfl dX11_book_47 ?_
        refine lv_aload_n hx hb dX11_book_50 rfl (lv_at hl 0 rfl) ?_
        refine va_get (D := (dC, dI)) (ci := 13) (v := .ref sc) (C := RX11) (T := TX11) (N := 7) hx hb hts kc_xBook_0 hown hK hP 0 rfl rfl 0 (by decide) (hts (.fieldLink RX11 14 "MistHeaps" "scene" "LMistHeaps$Scene;") kc_xBook_1) (fun _ h9 => h9) rfl dX11_book_51 ?_
        refine va_get (D := (dC, dI)) (ci := 10) (v := .int (nI bz)) (C := RX8) (T := TX8) (N := 14) hx hb hts kc_xBook_2 hown hK hP 1 rfl rfl 12 (by decide) (hts (.fieldLink RX11 221 "MistHeaps$Scene" "bookSize" "I") kc_xBook_3) (fun _ h9 => h9) rfl dX11_book_54 ?_
        refine lv_iload_n hx hb dX11_book_57 rfl (lv_at hl 1 rfl) ?_
        refine va_iast hx hb hK hP hD hS 3 1 rfl rfl (vp_in_nI (n := bz) (N := 12) (by omega) (by omega)) dX11_book_58 (fun H locs hP hD hS => ?_)
        rw [nI_clamp (n := bz) (by omega)] at hP hD
        have hP : va_P (dC, dI) vwCl [(zo13rrirrrr h0 sc kp ik bl go ch bo), (zo10ririliiriririr sc aTp (nI ts) aHl (nI nh) ed mi sn aHs (nI n) aWk (nI wz) aBk (nI bz) aFc), (zaR aHs cHs 8 fHs), (zaI aBk cBk 12 (upd fBk bz (nI j_4)))] H := hP
        have hD : va_D A [(zo13rrirrrr h0 sc kp ik bl go ch bo), (zo10ririliiriririr sc aTp (nI ts) aHl (nI nh) ed mi sn aHs (nI n) aWk (nI wz) aBk (nI bz) aFc), (zaR aHs cHs 8 fHs), (zaI aBk cBk 12 (upd fBk bz (nI j_4)))] := hD
        refine lv_aload_n hx hb dX11_book_59 rfl (lv_at hl 0 rfl) ?_
        refine va_get (D := (dC, dI)) (ci := 13) (v := .ref sc) (C := RX11) (T := TX11) (N := 7) hx hb hts kc_xBook_0 hown hK hP 0 rfl rfl 0 (by decide) (hts (.fieldLink RX11 14 "MistHeaps" "scene" "LMistHeaps$Scene;") kc_xBook_1) (fun _ h9 => h9) rfl dX11_book_60 ?_
        refine lv_dup hx hb dX11_book_63 rfl ?_
        refine va_get (D := (dC, dI)) (ci := 10) (v := .int (nI bz)) (C := RX8) (T := TX8) (N := 14) hx hb hts kc_xBook_2 hown hK hP 1 rfl rfl 12 (by decide) (hts (.fieldLink RX11 221 "MistHeaps$Scene" "bookSize" "I") kc_xBook_3) (fun _ h9 => h9) rfl dX11_book_64 ?_
        refine lv_iconst (v := 1) hx hb dX11_book_67 (by decide) ?_
        refine lv_iadd hx hb dX11_book_68 ?_
        refine qi_as (y := nI (bz + 1)) (nI_add bz 1) ?_
        refine va_put (D := (dC, dI)) (ci := 10) (v := .int (nI (bz + 1))) (ty := .int) (C := RX8) (T := TX8) (N := 14) hx hb hts kc_xBook_2 tyX8 tyX8_ok nmX8 hown hK hP hD hS 1 rfl rfl 12 (by decide) (hts (.fieldLink RX11 221 "MistHeaps$Scene" "bookSize" "I") kc_xBook_3) (fun _ h9 => h9) rfl (by decide +kernel) rfl rfl (Nat.le_of_ble_eq_true rfl) dX11_book_69 (fun H locs hP hD hS => ?_)
        have hP : va_P (dC, dI) vwCl [(zo13rrirrrr h0 sc kp ik bl go ch bo), (zo10ririliiriririr sc aTp (nI ts) aHl (nI nh) ed mi sn aHs (nI n) aWk (nI wz) aBk (nI (bz + 1)) aFc), (zaR aHs cHs 8 fHs), (zaI aBk cBk 12 (upd fBk bz (nI j_4)))] H := hP
        have hD : va_D A [(zo13rrirrrr h0 sc kp ik bl go ch bo), (zo10ririliiriririr sc aTp (nI ts) aHl (nI nh) ed mi sn aHs (nI n) aWk (nI wz) aBk (nI (bz + 1)) aFc), (zaR aHs cHs 8 fHs), (zaI aBk cBk 12 (upd fBk bz (nI j_4)))] := hD
        refine lv_aload_n hx hb dX11_book_72 rfl (lv_at hl 0 rfl) ?_
        refine va_get (D := (dC, dI)) (ci := 13) (v := .ref sc) (C := RX11) (T := TX11) (N := 7) hx hb hts kc_xBook_0 hown hK hP 0 rfl rfl 0 (by decide) (hts (.fieldLink RX11 14 "MistHeaps" "scene" "LMistHeaps$Scene;") kc_xBook_1) (fun _ h9 => h9) rfl dX11_book_73 ?_
        refine va_get (D := (dC, dI)) (ci := 10) (v := .int (nI (bz + 1))) (C := RX8) (T := TX8) (N := 14) hx hb hts kc_xBook_2 hown hK hP 1 rfl rfl 12 (by decide) (hts (.fieldLink RX11 221 "MistHeaps$Scene" "bookSize" "I") kc_xBook_3) (fun _ h9 => h9) rfl dX11_book_76 ?_
        rw [hQ]
        have hP9 := hP.sub (ws' := [(zo13rrirrrr h0 sc kp ik bl go ch bo), (zo10ririliiriririr sc aTp (nI ts) aHl (nI nh) ed mi sn aHs (nI n) aWk (nI wz) aBk (nI (bz + 1)) aFc), (zaR aHs cHs 8 fHs), (zaI aBk cBk 12 (upd fBk bz (nI j_4)))]) [0, 1, 2, 3] rfl
        have hD9 := hD.sub (ws' := [(zo13rrirrrr h0 sc kp ik bl go ch bo), (zo10ririliiriririr sc aTp (nI ts) aHl (nI nh) ed mi sn aHs (nI n) aWk (nI wz) aBk (nI (bz + 1)) aFc), (zaR aHs cHs 8 fHs), (zaI aBk cBk 12 (upd fBk bz (nI j_4)))]) [0, 1, 2, 3] (by decide) rfl
        have hK9 := hK.sub (tys' := [(cHs, .object "MistHeaps$Heap"), (cBk, .int)]) [0, 1] rfl
        exact W.iret (v := nI (bz + 1)) hx hb hr (fun tQ htQ hWQ => ⟨⟨(nI (bz + 1)), ((bz + 1), (upd fBk bz (nI j_4))), rfl, ⟨by omega, bk_up2 zbk (by omega), (bo_one (n := n) (bz := bz) (j := j_4) hn8 (by omega) (by omega)).1, (bo_one (n := n) (bz := bz) (j := j_4) hn8 (by omega) (by omega)).2⟩, by rw [htQ]; exact hP9, va_K.moved hWQ.alike hK9, hD9⟩, hS.F htQ⟩) hS.2.2 dX11_book_79
      · skip
        have c_8 : ¬ bz < 12 := fun q => c_8 ((nI_ltI (a := bz) (b := 12) (by omega) (by omega)).mpr q)
        refine lv_bipush (v := (-4)) hx hb dX11_book_40 (by decide) ?_
        rw [hQ]
        have hP9 := hP.sub (ws' := [(zo13rrirrrr h0 sc kp ik bl go ch bo), (zo10ririliiriririr sc aTp (nI ts) aHl (nI nh) ed mi sn aHs (nI n) aWk (nI wz) aBk (nI bz) aFc), (zaR aHs cHs 8 fHs), (zaI aBk cBk 12 fBk)]) [0, 1, 2, 3] rfl
        have hD9 := hD.sub (ws' := [(zo13rrirrrr h0 sc kp ik bl go ch bo), (zo10ririliiriririr sc aTp (nI ts) aHl (nI nh) ed mi sn aHs (nI n) aWk (nI wz) aBk (nI bz) aFc), (zaR aHs cHs 8 fHs), (zaI aBk cBk 12 fBk)]) [0, 1, 2, 3] (by decide) rfl
        have hK9 := hK.sub (tys' := [(cHs, .object "MistHeaps$Heap"), (cBk, .int)]) [0, 1] rfl
        exact W.iret (v := (-4)) hx hb hr (fun tQ htQ hWQ => ⟨⟨(-4), (bz, fBk), rfl, ⟨by omega, zbk, (bo_full (n := n) (bz := bz) (j := j_4) hn8 (by omega) (by omega)).1, (bo_full (n := n) (bz := bz) (j := j_4) hn8 (by omega) (by omega)).2⟩, by rw [htQ]; exact hP9, va_K.moved hWQ.alike hK9, hD9⟩, hS.F htQ⟩) hS.2.2 dX11_book_42
    · skip
      refine qq_as (v := .null) rfl ?_
      refine lv_ifnonnullN hx hb dX11_book_23 ?_
      refine lv_iconst (v := (-1)) hx hb dX11_book_26 (by decide) ?_
      rw [hQ]
      have hP9 := hP.sub (ws' := [(zo13rrirrrr h0 sc kp ik bl go ch bo), (zo10ririliiriririr sc aTp (nI ts) aHl (nI nh) ed mi sn aHs (nI n) aWk (nI wz) aBk (nI bz) aFc), (zaR aHs cHs 8 fHs), (zaI aBk cBk 12 fBk)]) [0, 1, 2, 3] rfl
      have hD9 := hD.sub (ws' := [(zo13rrirrrr h0 sc kp ik bl go ch bo), (zo10ririliiriririr sc aTp (nI ts) aHl (nI nh) ed mi sn aHs (nI n) aWk (nI wz) aBk (nI bz) aFc), (zaR aHs cHs 8 fHs), (zaI aBk cBk 12 fBk)]) [0, 1, 2, 3] (by decide) rfl
      have hK9 := hK.sub (tys' := [(cHs, .object "MistHeaps$Heap"), (cBk, .int)]) [0, 1] rfl
      exact W.iret (v := (-1)) hx hb hr (fun tQ htQ hWQ => ⟨⟨(-1), (bz, fBk), rfl, ⟨by omega, zbk, (bo_none (n := n) (bz := bz) (x := x) c1_ (by assumption)).1, (bo_none (n := n) (bz := bz) (x := x) c1_ (by assumption)).2⟩, by rw [htQ]; exact hP9, va_K.moved hWQ.alike hK9, hD9⟩, hS.F htQ⟩) hS.2.2 dX11_book_27
  · skip
    have c1_ : x = -1 := c_1
    refine lv_aload_n hx hb dX11_book_5 rfl (lv_at hl 0 rfl) ?_
    refine va_get (D := (dC, dI)) (ci := 13) (v := .ref sc) (C := RX11) (T := TX11) (N := 7) hx hb hts kc_xBook_0 hown hK hP 0 rfl rfl 0 (by decide) (hts (.fieldLink RX11 14 "MistHeaps" "scene" "LMistHeaps$Scene;") kc_xBook_1) (fun _ h9 => h9) rfl dX11_book_6 ?_
    refine lv_iconst (v := 0) hx hb dX11_book_9 (by decide) ?_
    refine va_put (D := (dC, dI)) (ci := 10) (v := .int 0) (ty := .int) (C := RX8) (T := TX8) (N := 14) hx hb hts kc_xBook_2 tyX8 tyX8_ok nmX8 hown hK hP hD hS 1 rfl rfl 12 (by decide) (hts (.fieldLink RX11 221 "MistHeaps$Scene" "bookSize" "I") kc_xBook_3) (fun _ h9 => h9) rfl (by decide +kernel) rfl rfl (Nat.le_of_ble_eq_true rfl) dX11_book_10 (fun H locs hP hD hS => ?_)
    have hP : va_P (dC, dI) vwCl [(zo13rrirrrr h0 sc kp ik bl go ch bo), (zo10ririliiriririr sc aTp (nI ts) aHl (nI nh) ed mi sn aHs (nI n) aWk (nI wz) aBk 0 aFc), (zaR aHs cHs 8 fHs), (zaI aBk cBk 12 fBk)] H := hP
    have hD : va_D A [(zo13rrirrrr h0 sc kp ik bl go ch bo), (zo10ririliiriririr sc aTp (nI ts) aHl (nI nh) ed mi sn aHs (nI n) aWk (nI wz) aBk 0 aFc), (zaR aHs cHs 8 fHs), (zaI aBk cBk 12 fBk)] := hD
    refine lv_iconst (v := 0) hx hb dX11_book_13 (by decide) ?_
    rw [hQ]
    have hP9 := hP.sub (ws' := [(zo13rrirrrr h0 sc kp ik bl go ch bo), (zo10ririliiriririr sc aTp (nI ts) aHl (nI nh) ed mi sn aHs (nI n) aWk (nI wz) aBk 0 aFc), (zaR aHs cHs 8 fHs), (zaI aBk cBk 12 fBk)]) [0, 1, 2, 3] rfl
    have hD9 := hD.sub (ws' := [(zo13rrirrrr h0 sc kp ik bl go ch bo), (zo10ririliiriririr sc aTp (nI ts) aHl (nI nh) ed mi sn aHs (nI n) aWk (nI wz) aBk 0 aFc), (zaR aHs cHs 8 fHs), (zaI aBk cBk 12 fBk)]) [0, 1, 2, 3] (by decide) rfl
    have hK9 := hK.sub (tys' := [(cHs, .object "MistHeaps$Heap"), (cBk, .int)]) [0, 1] rfl
    exact W.iret (v := 0) hx hb hr (fun tQ htQ hWQ => ⟨⟨0, (0, fBk), rfl, ⟨by omega, zbk, (bo_clear (n := n) (bz := bz) (x := x) c1_).1, (bo_clear (n := n) (bz := bz) (x := x) c1_).2⟩, by rw [htQ]; exact hP9, va_K.moved hWQ.alike hK9, hD9⟩, hS.F htQ⟩) hS.2.2 dX11_book_14
end mg18a
section mg18a
theorem ggX11_of_X8_heapAt : GoodIn wsX11_of wsX8_heapAt := gga_of 632 rfl rfl rfl
theorem gX11_of_X8_heapAt : GoodIn wsX11_of (wsV RX11 112 RX8 yX8_heapAt wsX8_heapAt) := goodIn_app (ggh_of [629, 630, 631, 64] rfl rfl rfl) ggX11_of_X8_heapAt
theorem ggX11_of_X8_reachOf : GoodIn wsX11_of wsX8_reachOf := gga_of 636 rfl rfl rfl
theorem gX11_of_X8_reachOf : GoodIn wsX11_of (wsV RX11 127 RX8 yX8_reachOf wsX8_reachOf) := goodIn_app (ggh_of [633, 634, 635, 64] rfl rfl rfl) ggX11_of_X8_reachOf
noncomputable def dk18b07pub_cX11_of_0 : List (Nat × List Nat) := [(0, [42]), (1, [180, 0, 14]), (4, [27]), (5, [182, 0, 112]), (8, [78]), (9, [45]), (10, [199, 0, 5]), (13, [2]), (14, [172]), (15, [28]), (48, [45]), (49, [180, 0, 116]), (52, [172]), (53, [45]), (54, [180, 0, 121]), (57, [172]), (58, [45]), (59, [180, 0, 124]), (62, [172]), (63, [42]), (64, [180, 0, 14]), (67, [45]), (68, [42]), (69, [180, 0, 14]), (72, [180, 0, 88]), (75, [182, 0, 127]), (78, [172]), (79, [2]), (80, [172])]
set_option maxRecDepth 100000 in
theorem dk18b07pub_cX11_of_0_a : btA cX11_of dk18b07pub_cX11_of_0 = true := by decide +kernel
theorem dX11_of_0 : decode cX11_of 0 = .ok (.aload_n 0, 1) := bd42 (btAt dk18b07pub_cX11_of_0_a 0 rfl)
theorem dX11_of_1 : decode cX11_of 1 = .ok (.getfield 14, 3) := bd180 (a := 0) (b := 14) (btAt dk18b07pub_cX11_of_0_a 1 rfl)
theorem dX11_of_4 : decode cX11_of 4 = .ok (.iload_n 1, 1) := bd27 (btAt dk18b07pub_cX11_of_0_a 2 rfl)
theorem dX11_of_5 : decode cX11_of 5 = .ok (.invokevirtual 112, 3) := bd182 (a := 0) (b := 112) (btAt dk18b07pub_cX11_of_0_a 3 rfl)
theorem dX11_of_8 : decode cX11_of 8 = .ok (.astore_n 3, 1) := bd78 (btAt dk18b07pub_cX11_of_0_a 4 rfl)
theorem dX11_of_9 : decode cX11_of 9 = .ok (.aload_n 3, 1) := bd45 (btAt dk18b07pub_cX11_of_0_a 5 rfl)
theorem dX11_of_10 : decode cX11_of 10 = .ok (.ifnonnull 5, 3) := bd199 (a := 0) (b := 5) (btAt dk18b07pub_cX11_of_0_a 6 rfl)
theorem dX11_of_13 : decode cX11_of 13 = .ok (.iconst (-1), 1) := bd2 (btAt dk18b07pub_cX11_of_0_a 7 rfl)
theorem dX11_of_14 : decode cX11_of 14 = .ok (.ireturn, 1) := bd172 (btAt dk18b07pub_cX11_of_0_a 8 rfl)
theorem dX11_of_15 : decode cX11_of 15 = .ok (.iload_n 2, 1) := bd28 (btAt dk18b07pub_cX11_of_0_a 9 rfl)
theorem dX11_of_48 : decode cX11_of 48 = .ok (.aload_n 3, 1) := bd45 (btAt dk18b07pub_cX11_of_0_a 10 rfl)
theorem dX11_of_49 : decode cX11_of 49 = .ok (.getfield 116, 3) := bd180 (a := 0) (b := 116) (btAt dk18b07pub_cX11_of_0_a 11 rfl)
theorem dX11_of_52 : decode cX11_of 52 = .ok (.ireturn, 1) := bd172 (btAt dk18b07pub_cX11_of_0_a 12 rfl)
theorem dX11_of_53 : decode cX11_of 53 = .ok (.aload_n 3, 1) := bd45 (btAt dk18b07pub_cX11_of_0_a 13 rfl)
theorem dX11_of_54 : decode cX11_of 54 = .ok (.getfield 121, 3) := bd180 (a := 0) (b := 121) (btAt dk18b07pub_cX11_of_0_a 14 rfl)
theorem dX11_of_57 : decode cX11_of 57 = .ok (.ireturn, 1) := bd172 (btAt dk18b07pub_cX11_of_0_a 15 rfl)
theorem dX11_of_58 : decode cX11_of 58 = .ok (.aload_n 3, 1) := bd45 (btAt dk18b07pub_cX11_of_0_a 16 rfl)
theorem dX11_of_59 : decode cX11_of 59 = .ok (.getfield 124, 3) := bd180 (a := 0) (b := 124) (btAt dk18b07pub_cX11_of_0_a 17 rfl)
theorem dX11_of_62 : decode cX11_of 62 = .ok (.ireturn, 1) := bd172 (btAt dk18b07pub_cX11_of_0_a 18 rfl)
theorem dX11_of_63 : decode cX11_of 63 = .ok (.aload_n 0, 1) := bd42 (btAt dk18b07pub_cX11_of_0_a 19 rfl)
theorem dX11_of_64 : decode cX11_of 64 = .ok (.getfield 14, 3) := bd180 (a := 0) (b := 14) (btAt dk18b07pub_cX11_of_0_a 20 rfl)
theorem dX11_of_67 : decode cX11_of 67 = .ok (.aload_n 3, 1) := bd45 (btAt dk18b07pub_cX11_of_0_a 21 rfl)
theorem dX11_of_68 : decode cX11_of 68 = .ok (.aload_n 0, 1) := bd42 (btAt dk18b07pub_cX11_of_0_a 22 rfl)
theorem dX11_of_69 : decode cX11_of 69 = .ok (.getfield 14, 3) := bd180 (a := 0) (b := 14) (btAt dk18b07pub_cX11_of_0_a 23 rfl)
theorem dX11_of_72 : decode cX11_of 72 = .ok (.getfield 88, 3) := bd180 (a := 0) (b := 88) (btAt dk18b07pub_cX11_of_0_a 24 rfl)
theorem dX11_of_75 : decode cX11_of 75 = .ok (.invokevirtual 127, 3) := bd182 (a := 0) (b := 127) (btAt dk18b07pub_cX11_of_0_a 25 rfl)
theorem dX11_of_78 : decode cX11_of 78 = .ok (.ireturn, 1) := bd172 (btAt dk18b07pub_cX11_of_0_a 26 rfl)
theorem dX11_of_79 : decode cX11_of 79 = .ok (.iconst (-1), 1) := bd2 (btAt dk18b07pub_cX11_of_0_a 27 rfl)
theorem dX11_of_80 : decode cX11_of 80 = .ok (.ireturn, 1) := bd172 (btAt dk18b07pub_cX11_of_0_a 28 rfl)
set_option maxRecDepth 100000 in
theorem dX11_of_16 : decode cX11_of 16 = .ok (.tableswitch 63 0 3 #[32, 37, 42, 47], 32) := by decide +kernel
theorem kc_xOf_0 : ∀ w ∈ wsX110, w ∈ wsX11_of := fun w h => List.mem_cons_of_mem _ (gin_wsX110 w h)
theorem kc_xOf_1 : (.fieldLink RX11 14 "MistHeaps" "scene" "LMistHeaps$Scene;" : Cond) ∈ wsX11_of := kc_of 328 rfl rfl rfl
theorem kc_xOf_2 : (.fieldLink RX11 116 "MistHeaps$Heap" "kind" "I" : Cond) ∈ wsX11_of := kc_of 230 rfl rfl rfl
theorem kc_xOf_4 : (.fieldLink RX11 121 "MistHeaps$Heap" "v" "I" : Cond) ∈ wsX11_of := kc_of 245 rfl rfl rfl
theorem kc_xOf_5 : (.fieldLink RX11 124 "MistHeaps$Heap" "cell" "I" : Cond) ∈ wsX11_of := kc_of 251 rfl rfl rfl
theorem kc_xOf_6 : ∀ w ∈ wsX80, w ∈ wsX11_of := fun w h => List.mem_cons_of_mem _ (gin_wsX80 w h)
theorem kc_xOf_7 : (.fieldLink RX11 88 "MistHeaps$Scene" "snow" "I" : Cond) ∈ wsX11_of := kc_of 166 rfl rfl rfl
theorem kc_xOf_3 : ∀ C ∈ hpC, ∀ w ∈ u_ws C.1 C.2.1 C.2.2, w ∈ wsX11_of := by decide +kernel
set_option maxHeartbeats 4000000 in
set_option maxRecDepth 100000 in
theorem c_xOf (l : Launch) (dC : Nat → ClassId) (dI : Nat → Nat → Nat) (gd : Nat → Nat)    (h0 : Nat) (sc : Nat) (kp : Nat) (bl : Nat) (go : Nat) (ch : Nat) (bo : Nat) (aTp : Nat) (aHl : Nat) (aHs : Nat) (aWk : Nat) (aBk : Nat) (aFc : Nat) (bW : Nat) (bA : Nat) (bE : Nat) (bC : Nat) (ts : Nat) (nh : Nat) (n : Nat) (wz : Nat) (bz : Nat) (cl : Nat) (mi : Int32) (sn : Int32) (sg : Int32) (cdd : Int32) (szz : Int32) (att : Int32) (nmb : Int32) (ik : Int32) (x : Int32) (y : Int32) (ed : Int64) (cHs : ClassId) (cFc : ClassId) (cbW : ClassId) (cbA : ClassId) (cbE : ClassId) (cbC : ClassId) (fFc : Nat → Int32) (fbW : Nat → Int32) (fbA : Nat → Int32) (fbE : Nat → Int32) (fbC : Nat → Int32) (yk : Nat → Int32) (yv : Nat → Int32) (yc : Nat → Int32) (fHs : Nat → Option Nat) (yi : Nat → Nat) (ya : Nat → Nat) (tpv : Value) (cz : List pCla) (sz : Nat) (zhs : ∀ k0, k0 < n → fHs k0 = some (ya k0)) (hn8 : n ≤ 8) (zcl : cl ≤ 10) (zE : ∀ k0, k0 < 10 → ∃ e0 : Nat, e0 ≤ 100 ∧ fbE k0 = nI e0) (zC : ∀ k0, k0 < 100 → okC (fbC k0)) (zHC : HC cl sg fbW fbA fbE fbC cz ∧ WfC cz) (zyt : ∀ k0, k0 < n → hpT (yi k0) (yk k0)) : Met l yX11_of wsX11_of ({ frames := 5, cells := 0, slots := 0, locals := 102 } : Room) (va_Pc [.ref h0, .int x, .int y] (fun U => U.heap.size = sz ∧ va_P (dC, dI) vwCl [(zo13rrirrrr h0 sc kp ik bl go ch bo), (zo10ririliiriririr sc aTp (nI ts) aHl (nI nh) ed mi sn aHs (nI n) aWk (nI wz) aBk (nI bz) aFc), (zaR aHs cHs 8 fHs), (zaI aFc cFc 6 fFc)] U.heap ∧ va_K (dC, dI) vwCl [(cHs, .object "MistHeaps$Heap"), (cFc, .int)] U ∧ va_D (fun _ => True) [(zo13rrirrrr h0 sc kp ik bl go ch bo), (zo10ririliiriririr sc aTp (nI ts) aHl (nI nh) ed mi sn aHs (nI n) aWk (nI wz) aBk (nI bz) aFc), (zaR aHs cHs 8 fHs), (zaI aFc cFc 6 fFc)] ∧ Gl gd (va_A [(zo13rrirrrr h0 sc kp ik bl go ch bo), (zo10ririliiriririr sc aTp (nI ts) aHl (nI nh) ed mi sn aHs (nI n) aWk (nI wz) aBk (nI bz) aFc), (zaR aHs cHs 8 fHs), (zaI aFc cFc 6 fFc)] sz) U ∧ Gw (va_A [(zo13rrirrrr h0 sc kp ik bl go ch bo), (zo10ririliiriririr sc aTp (nI ts) aHl (nI nh) ed mi sn aHs (nI n) aWk (nI wz) aBk (nI bz) aFc), (zaR aHs cHs 8 fHs), (zaI aFc cFc 6 fFc)] sz) U ∧ Fz dC dI [(zo7iirrrriviii aHl sg (nI cl) bW bA bE bC cdd tpv szz att nmb), (zaI bW cbW 10 fbW), (zaI bA cbA 10 fbA), (zaI bE cbE 10 fbE), (zaI bC cbC 100 fbC)] [(cbW, .int), (cbA, .int), (cbE, .int), (cbC, .int)] (va_A [(zo13rrirrrr h0 sc kp ik bl go ch bo), (zo10ririliiriririr sc aTp (nI ts) aHl (nI nh) ed mi sn aHs (nI n) aWk (nI wz) aBk (nI bz) aFc), (zaR aHs cHs 8 fHs), (zaI aFc cFc 6 fFc)] sz) U ∧ Hs dC dI n yi ya yk yv yc (va_A [(zo13rrirrrr h0 sc kp ik bl go ch bo), (zo10ririliiriririr sc aTp (nI ts) aHl (nI nh) ed mi sn aHs (nI n) aWk (nI wz) aBk (nI bz) aFc), (zaR aHs cHs 8 fHs), (zaI aFc cFc 6 fFc)] sz) U)) (va_Qi (fun (r : Int32) (u : Nat → Int32) => match u with | fFc9 => r = ofR n yk yv yc cz mi sn x y) (fun (u : Nat → Int32) (t : State) => match u with | fFc9 => va_P (dC, dI) vwCl [(zo13rrirrrr h0 sc kp ik bl go ch bo), (zo10ririliiriririr sc aTp (nI ts) aHl (nI nh) ed mi sn aHs (nI n) aWk (nI wz) aBk (nI bz) aFc), (zaR aHs cHs 8 fHs), (zaI aFc cFc 6 fFc9)] t.heap ∧ va_K (dC, dI) vwCl [(cHs, .object "MistHeaps$Heap"), (cFc, .int)] t ∧ va_D (va_A [(zo13rrirrrr h0 sc kp ik bl go ch bo), (zo10ririliiriririr sc aTp (nI ts) aHl (nI nh) ed mi sn aHs (nI n) aWk (nI wz) aBk (nI bz) aFc), (zaR aHs cHs 8 fHs), (zaI aFc cFc 6 fFc)] sz) [(zo13rrirrrr h0 sc kp ik bl go ch bo), (zo10ririliiriririr sc aTp (nI ts) aHl (nI nh) ed mi sn aHs (nI n) aWk (nI wz) aBk (nI bz) aFc), (zaR aHs cHs 8 fHs), (zaI aFc cFc 6 fFc9)]) (va_A [(zo13rrirrrr h0 sc kp ik bl go ch bo), (zo10ririliiriririr sc aTp (nI ts) aHl (nI nh) ed mi sn aHs (nI n) aWk (nI wz) aBk (nI bz) aFc), (zaR aHs cHs 8 fHs), (zaI aFc cFc 6 fFc)] sz)) 0 0 (va_A [(zo13rrirrrr h0 sc kp ik bl go ch bo), (zo10ririliiriririr sc aTp (nI ts) aHl (nI nh) ed mi sn aHs (nI n) aWk (nI wz) aBk (nI bz) aFc), (zaR aHs cHs 8 fHs), (zaI aFc cFc 6 fFc)] sz) := by
  refine met_ofQ (cc := cX11_of) (maxL := 4) (ret := (some .int)) (by decide) rfl ?_
  intro p e s m args below meth c s₁ Q B hml hv hQ
  obtain ⟨rfl, hsz, hP, hK, hD0, hG, hW_, hZ, hH_⟩ := hv
  have hx := B.exec
  have hb := B.bytes
  have hr := B.returns
  have hts := atoms_spec (ws := wsX11_of) B.pre
  have hown : s.vm.findClass RX11 = some m.cls := findClass_of_methodNamed B.named
  have hlocks := B.notSynchronized
  subst hsz
  have hD := hD0.self (sz := s.heap.size)
  generalize hAe : va_A [(zo13rrirrrr h0 sc kp ik bl go ch bo), (zo10ririliiriririr sc aTp (nI ts) aHl (nI nh) ed mi sn aHs (nI n) aWk (nI wz) aBk (nI bz) aFc), (zaR aHs cHs 8 fHs), (zaI aFc cFc 6 fFc)] s.heap.size = A at hD hQ hG hW_ hZ hH_ ⊢
  have hA : ∀ q : Nat, s.heap.size ≤ q → A q := fun q h => by rw [← hAe]; exact Or.inr h
  have hS : va_S A s.heap s.heap [] := va_S.rf
  have hl := lv_entry [.ref h0, .int x, .int y] (n := 4) (Nat.le_of_ble_eq_true rfl)
  rw [lg_entry_eq]
  generalize (lg_sl [.ref h0, .int x, .int y] ++ List.replicate (4 - (lg_sl [.ref h0, .int x, .int y]).length) Slot.unset).toArray = ls at hl ⊢
  generalize hag : ([.ref h0, .int x, .int y] : List Value).toArray = args at hts hQ ⊢
  have hl : lv_has ls 4 [(0, .ref h0), (1, .int x), (2, .int y)] := hl
  obtain ⟨H, hH⟩ : ∃ H : Heap, H = s.heap := ⟨_, rfl⟩
  rw [← hH] at hP
  rw [← hH]
  have hS : va_S A s.heap H [] := by rw [hH]; exact hS
  obtain ⟨locs, hlo⟩ : ∃ L : List Loc, L = [] := ⟨_, rfl⟩
  rw [← hlo] at hS
  rw [← hlo]
  clear hH hlo
  refine lv_aload_n hx hb dX11_of_0 rfl (lv_at hl 0 rfl) ?_
  refine va_get (D := (dC, dI)) (ci := 13) (v := .ref sc) (C := RX11) (T := TX11) (N := 7) hx hb hts kc_xOf_0 hown hK hP 0 rfl rfl 0 (by decide) (hts (.fieldLink RX11 14 "MistHeaps" "scene" "LMistHeaps$Scene;") kc_xOf_1) (fun _ h9 => h9) rfl dX11_of_1 ?_
  refine lv_iload_n hx hb dX11_of_4 rfl (lv_at hl 1 rfl) ?_
  have hPc := hP.sub (ws' := [(zo10ririliiriririr sc aTp (nI ts) aHl (nI nh) ed mi sn aHs (nI n) aWk (nI wz) aBk (nI bz) aFc), (zaR aHs cHs 8 fHs)]) [1, 2] rfl
  have hKc := hK.sub (tys' := [(cHs, .object "MistHeaps$Heap")]) [0] rfl
  refine va_csq (va_runV (As := [.int x]) (rest := []) ⟨hx, hb, hml, hown, hts⟩ (c_heapAt l dC dI sc aTp aHl aHs aWk aBk aFc ts nh n wz bz mi sn x ed cHs fHs ya (zhs) (hn8)) (cwV 1 hts gX11_of_X8_heapAt rfl rfl rfl hd_yX8_heapAt ⟨Nat.le_of_ble_eq_true rfl, Nat.le_of_ble_eq_true rfl⟩) ⟨fun a U g mk q => by obtain ⟨q0, qP, qK⟩ := q; exact ⟨q0, mvP g mk a qP, mvK g mk a qK⟩, va_recv hK hP (ci := 10) (q := (RX8, TX8, 14)) (q0 := 1) rfl rfl, fun U hU hW => ⟨rfl, by rw [hU]; exact hPc, va_K.moved hW.alike hKc⟩⟩ rfl rfl hl.1 rfl (lv_room (Nat.le_of_ble_eq_true rfl)) dX11_of_5 ⟨Nat.le_of_ble_eq_true rfl, Nat.le_of_ble_eq_true rfl⟩).run (fun r_1 hw_2 => ?_)
  rcases hw_2 with ⟨j_3, hj_4, rfl, rfl⟩ | ⟨rfl, h_6⟩
  · skip
    refine qq_as (v := .ref (ya j_3)) rfl ?_
    refine lv_astore_n (lv' := [(3, .ref (ya j_3)), (0, .ref h0), (1, .int (nI j_3)), (2, .int y)]) hx hb dX11_of_8 rfl hl (by decide) rfl (fun ls hl => ?_)
    refine lv_aload_n hx hb dX11_of_9 rfl (lv_at hl 0 rfl) ?_
    refine lv_ifnonnull (tgt := 15) hx hb dX11_of_10 (by decide) ?_
    refine lv_iload_n hx hb dX11_of_15 rfl (lv_at hl 3 rfl) ?_
    by_cases c_7_0 : y = 0
    · skip
      refine lv_tableIn (tgt := 48) hx hb dX11_of_16 (by rw [c_7_0]; decide) (by rw [c_7_0]; decide) (by rw [c_7_0]; rfl) (by decide) ?_
      refine lv_aload_n hx hb dX11_of_48 rfl (lv_at hl 0 rfl) ?_
      refine va_hget0 (v := .int (yk j_3)) hx hb hts kc_xOf_3 hown (hH_ j_3 (by omega)).1 (hH_ j_3 (by omega)).2 hS (hts (.fieldLink RX11 116 "MistHeaps$Heap" "kind" "I") kc_xOf_2) dX11_of_49 rfl ?_
      rw [hQ]
      have hP9 := hP.sub (ws' := [(zo13rrirrrr h0 sc kp ik bl go ch bo), (zo10ririliiriririr sc aTp (nI ts) aHl (nI nh) ed mi sn aHs (nI n) aWk (nI wz) aBk (nI bz) aFc), (zaR aHs cHs 8 fHs), (zaI aFc cFc 6 fFc)]) [0, 1, 2, 3] rfl
      have hD9 := hD.sub (ws' := [(zo13rrirrrr h0 sc kp ik bl go ch bo), (zo10ririliiriririr sc aTp (nI ts) aHl (nI nh) ed mi sn aHs (nI n) aWk (nI wz) aBk (nI bz) aFc), (zaR aHs cHs 8 fHs), (zaI aFc cFc 6 fFc)]) [0, 1, 2, 3] (by decide) rfl
      have hK9 := hK.sub (tys' := [(cHs, .object "MistHeaps$Heap"), (cFc, .int)]) [0, 1] rfl
      exact W.iret (v := yk j_3) hx hb hr (fun tQ htQ hWQ => ⟨⟨(yk j_3), fFc, rfl, of_k hn8 (by omega) (by assumption), by rw [htQ]; exact hP9, va_K.moved hWQ.alike hK9, hD9⟩, hS.F htQ⟩) hS.2.2 dX11_of_52
    by_cases c_7_1 : y = 1
    · skip
      refine lv_tableIn (tgt := 53) hx hb dX11_of_16 (by rw [c_7_1]; decide) (by rw [c_7_1]; decide) (by rw [c_7_1]; rfl) (by decide) ?_
      refine lv_aload_n hx hb dX11_of_53 rfl (lv_at hl 0 rfl) ?_
      refine va_hget2 (v := .int (yv j_3)) hx hb hts kc_xOf_3 hown (hH_ j_3 (by omega)).1 (hH_ j_3 (by omega)).2 hS (hts (.fieldLink RX11 121 "MistHeaps$Heap" "v" "I") kc_xOf_4) dX11_of_54 rfl ?_
      rw [hQ]
      have hP9 := hP.sub (ws' := [(zo13rrirrrr h0 sc kp ik bl go ch bo), (zo10ririliiriririr sc aTp (nI ts) aHl (nI nh) ed mi sn aHs (nI n) aWk (nI wz) aBk (nI bz) aFc), (zaR aHs cHs 8 fHs), (zaI aFc cFc 6 fFc)]) [0, 1, 2, 3] rfl
      have hD9 := hD.sub (ws' := [(zo13rrirrrr h0 sc kp ik bl go ch bo), (zo10ririliiriririr sc aTp (nI ts) aHl (nI nh) ed mi sn aHs (nI n) aWk (nI wz) aBk (nI bz) aFc), (zaR aHs cHs 8 fHs), (zaI aFc cFc 6 fFc)]) [0, 1, 2, 3] (by decide) rfl
      have hK9 := hK.sub (tys' := [(cHs, .object "MistHeaps$Heap"), (cFc, .int)]) [0, 1] rfl
      exact W.iret (v := yv j_3) hx hb hr (fun tQ htQ hWQ => ⟨⟨(yv j_3), fFc, rfl, of_v hn8 (by omega) (by assumption), by rw [htQ]; exact hP9, va_K.moved hWQ.alike hK9, hD9⟩, hS.F htQ⟩) hS.2.2 dX11_of_57
    by_cases c_7_2 : y = 2
    · skip
      refine lv_tableIn (tgt := 58) hx hb dX11_of_16 (by rw [c_7_2]; decide) (by rw [c_7_2]; decide) (by rw [c_7_2]; rfl) (by decide) ?_
      refine lv_aload_n hx hb dX11_of_58 rfl (lv_at hl 0 rfl) ?_
      refine va_hget3 (v := .int (yc j_3)) hx hb hts kc_xOf_3 hown (hH_ j_3 (by omega)).1 (hH_ j_3 (by omega)).2 hS (hts (.fieldLink RX11 124 "MistHeaps$Heap" "cell" "I") kc_xOf_5) dX11_of_59 rfl ?_
      rw [hQ]
      have hP9 := hP.sub (ws' := [(zo13rrirrrr h0 sc kp ik bl go ch bo), (zo10ririliiriririr sc aTp (nI ts) aHl (nI nh) ed mi sn aHs (nI n) aWk (nI wz) aBk (nI bz) aFc), (zaR aHs cHs 8 fHs), (zaI aFc cFc 6 fFc)]) [0, 1, 2, 3] rfl
      have hD9 := hD.sub (ws' := [(zo13rrirrrr h0 sc kp ik bl go ch bo), (zo10ririliiriririr sc aTp (nI ts) aHl (nI nh) ed mi sn aHs (nI n) aWk (nI wz) aBk (nI bz) aFc), (zaR aHs cHs 8 fHs), (zaI aFc cFc 6 fFc)]) [0, 1, 2, 3] (by decide) rfl
      have hK9 := hK.sub (tys' := [(cHs, .object "MistHeaps$Heap"), (cFc, .int)]) [0, 1] rfl
      exact W.iret (v := yc j_3) hx hb hr (fun tQ htQ hWQ => ⟨⟨(yc j_3), fFc, rfl, of_c hn8 (by omega) (by assumption), by rw [htQ]; exact hP9, va_K.moved hWQ.alike hK9, hD9⟩, hS.F htQ⟩) hS.2.2 dX11_of_62
    by_cases c_7_3 : y = 3
    · skip
      refine lv_tableIn (tgt := 63) hx hb dX11_of_16 (by rw [c_7_3]; decide) (by rw [c_7_3]; decide) (by rw [c_7_3]; rfl) (by decide) ?_
      refine lv_aload_n hx hb dX11_of_63 rfl (lv_at hl 1 rfl) ?_
      refine va_get (D := (dC, dI)) (ci := 13) (v := .ref sc) (C := RX11) (T := TX11) (N := 7) hx hb hts kc_xOf_0 hown hK hP 0 rfl rfl 0 (by decide) (hts (.fieldLink RX11 14 "MistHeaps" "scene" "LMistHeaps$Scene;") kc_xOf_1) (fun _ h9 => h9) rfl dX11_of_64 ?_
      refine lv_aload_n hx hb dX11_of_67 rfl (lv_at hl 0 rfl) ?_
      refine lv_aload_n hx hb dX11_of_68 rfl (lv_at hl 1 rfl) ?_
      refine va_get (D := (dC, dI)) (ci := 13) (v := .ref sc) (C := RX11) (T := TX11) (N := 7) hx hb hts kc_xOf_0 hown hK hP 0 rfl rfl 0 (by decide) (hts (.fieldLink RX11 14 "MistHeaps" "scene" "LMistHeaps$Scene;") kc_xOf_1) (fun _ h9 => h9) rfl dX11_of_69 ?_
      refine va_get (D := (dC, dI)) (ci := 10) (v := .int sn) (C := RX8) (T := TX8) (N := 14) hx hb hts kc_xOf_6 hown hK hP 1 rfl rfl 6 (by decide) (hts (.fieldLink RX11 88 "MistHeaps$Scene" "snow" "I") kc_xOf_7) (fun _ h9 => h9) rfl dX11_of_72 ?_
      have hPc := hP.sub (ws' := [(zo10ririliiriririr sc aTp (nI ts) aHl (nI nh) ed mi sn aHs (nI n) aWk (nI wz) aBk (nI bz) aFc), (zaI aFc cFc 6 fFc)]) [1, 3] rfl
      have hDc := hD.sub (ws' := [(zo10ririliiriririr sc aTp (nI ts) aHl (nI nh) ed mi sn aHs (nI n) aWk (nI wz) aBk (nI bz) aFc), (zaI aFc cFc 6 fFc)]) [1, 3] (by decide) rfl
      have hKc := hK.sub (tys' := [(cFc, .int)]) [1] rfl
      have hFc := va_free (wc := [(zo10ririliiriririr sc aTp (nI ts) aHl (nI nh) ed mi sn aHs (nI n) aWk (nI wz) aBk (nI bz) aFc), (zaI aFc cFc 6 fFc)]) hD hS hA [1, 3] rfl
      refine va_calli (va_runV (As := [.ref (ya j_3), .int sn]) (rest := []) ⟨hx, hb, hml, hown, hts⟩ (c_xReach l dC dI gd    sc aTp aHl aHs aWk aBk aFc bW bA bE bC ts nh n wz bz cl j_3 mi sn sg cdd szz att nmb sn ed cFc cbW cbA cbE cbC fFc fbW fbA fbE fbC yk yv yc yi ya tpv cz H.size (by omega) (zcl) (zE) (zC) (zHC) (zyt)) (cwV 2 hts gX11_of_X8_reachOf rfl rfl rfl hd_yX8_reachOf ⟨Nat.le_of_ble_eq_true rfl, Nat.le_of_ble_eq_true rfl⟩) ⟨fun a U g mk q => by obtain ⟨q0, q1, qP, qK, qD, qhG, qhW_, qhZ, qhH_⟩ := q; exact ⟨q0, mvz g mk a q1, mvP g mk a qP, mvK g mk a qK, qD, qhG.mv g mk a, qhW_.mv g mk a, qhZ.mv g mk a, qhH_.mv g mk a⟩, va_recv hK hP (ci := 10) (q := (RX8, TX8, 14)) (q0 := 1) rfl rfl, fun U hU hW => ⟨rfl, by rw [hU], by rw [hU]; exact hPc, va_K.moved hW.alike hKc, hDc.weaken (fun _ _ _ _ => trivial), hG.call hS hU hW (fun q h => hFc q h), hW_.call hS hU hW (fun q h => hFc q h), (hZ.sub [0, 1, 2, 3, 4] [0, 1, 2, 3] rfl rfl).call hS hU hW (fun q h => hFc q h), hH_.call hS hU hW (fun q h => hFc q h)⟩⟩ rfl rfl hl.1 rfl (lv_room (Nat.le_of_ble_eq_true rfl)) dX11_of_75 ⟨Nat.le_of_ble_eq_true rfl, Nat.le_of_ble_eq_true rfl⟩) hS (fun q _ h => hFc q h) hFc (fun r_8 u tC H1 locs htC hvm hw_9 hB hz1 hk1 hS => ?_)
      obtain ⟨fFc9_10, rfl⟩ : ∃ z, z = u := ⟨_, rfl⟩
      try dsimp only at hw_9 hB
      obtain ⟨hP1, hK1, hD1⟩ := hB
      rw [htC] at hP1
      have hK1 := va_K.moved hvm.symm hK1
      obtain ⟨hP, hD⟩ := va_join (wr := [(zo13rrirrrr h0 sc kp ik bl go ch bo), (zaR aHs cHs 8 fHs)]) (w1 := [(zo10ririliiriririr sc aTp (nI ts) aHl (nI nh) ed mi sn aHs (nI n) aWk (nI wz) aBk (nI bz) aFc), (zaI aFc cFc 6 fFc9_10)]) hP hD [1, 3] [0, 2] rfl rfl (by decide) (by decide) hk1 hFc hP1 hD1
      have hK := (hK.sub (tys' := [(cHs, .object "MistHeaps$Heap")]) [0] rfl).app hK1
      generalize H1 = H at hP hS ⊢
      have hP : va_P (dC, dI) vwCl [(zo13rrirrrr h0 sc kp ik bl go ch bo), (zaR aHs cHs 8 fHs), (zo10ririliiriririr sc aTp (nI ts) aHl (nI nh) ed mi sn aHs (nI n) aWk (nI wz) aBk (nI bz) aFc), (zaI aFc cFc 6 fFc9_10)] H := hP
      have hD : va_D A [(zo13rrirrrr h0 sc kp ik bl go ch bo), (zaR aHs cHs 8 fHs), (zo10ririliiriririr sc aTp (nI ts) aHl (nI nh) ed mi sn aHs (nI n) aWk (nI wz) aBk (nI bz) aFc), (zaI aFc cFc 6 fFc9_10)] := hD
      have hK : va_K (dC, dI) vwCl [(cHs, .object "MistHeaps$Heap"), (cFc, .int)] s := hK
      obtain rfl := hw_9
      rw [hQ]
      have hP9 := hP.sub (ws' := [(zo13rrirrrr h0 sc kp ik bl go ch bo), (zo10ririliiriririr sc aTp (nI ts) aHl (nI nh) ed mi sn aHs (nI n) aWk (nI wz) aBk (nI bz) aFc), (zaR aHs cHs 8 fHs), (zaI aFc cFc 6 fFc9_10)]) [0, 2, 1, 3] rfl
      have hD9 := hD.sub (ws' := [(zo13rrirrrr h0 sc kp ik bl go ch bo), (zo10ririliiriririr sc aTp (nI ts) aHl (nI nh) ed mi sn aHs (nI n) aWk (nI wz) aBk (nI bz) aFc), (zaR aHs cHs 8 fHs), (zaI aFc cFc 6 fFc9_10)]) [0, 2, 1, 3] (by decide) rfl
      have hK9 := hK.sub (tys' := [(cHs, .object "MistHeaps$Heap"), (cFc, .int)]) [0, 1] rfl
      exact W.iret (v := RV cz mi sn j_3 (yk j_3) (yv j_3) (yc j_3)) hx hb hr (fun tQ htQ hWQ => ⟨⟨(RV cz mi sn j_3 (yk j_3) (yv j_3) (yc j_3)), fFc9_10, rfl, of_r hn8 (by omega) (by assumption), by rw [htQ]; exact hP9, va_K.moved hWQ.alike hK9, hD9⟩, hS.F htQ⟩) hS.2.2 dX11_of_78
    refine lv_tableOut (tgt := 79) hx hb dX11_of_16 (sw_out 0 3 y (fun k hk => by
      match k, hk with
      | 0, _ => exact c_7_0
      | 1, _ => exact c_7_1
      | 2, _ => exact c_7_2
      | 3, _ => exact c_7_3
      | k + 4, hk => exact absurd hk (by omega))) (by decide) ?_
    refine lv_iconst (v := (-1)) hx hb dX11_of_79 (by decide) ?_
    rw [hQ]
    have hP9 := hP.sub (ws' := [(zo13rrirrrr h0 sc kp ik bl go ch bo), (zo10ririliiriririr sc aTp (nI ts) aHl (nI nh) ed mi sn aHs (nI n) aWk (nI wz) aBk (nI bz) aFc), (zaR aHs cHs 8 fHs), (zaI aFc cFc 6 fFc)]) [0, 1, 2, 3] rfl
    have hD9 := hD.sub (ws' := [(zo13rrirrrr h0 sc kp ik bl go ch bo), (zo10ririliiriririr sc aTp (nI ts) aHl (nI nh) ed mi sn aHs (nI n) aWk (nI wz) aBk (nI bz) aFc), (zaR aHs cHs 8 fHs), (zaI aFc cFc 6 fFc)]) [0, 1, 2, 3] (by decide) rfl
    have hK9 := hK.sub (tys' := [(cHs, .object "MistHeaps$Heap"), (cFc, .int)]) [0, 1] rfl
    exact W.iret (v := (-1)) hx hb hr (fun tQ htQ hWQ => ⟨⟨(-1), fFc, rfl, of_x hn8 (by omega) (by assumption) (by assumption) (by assumption) (by assumption), by rw [htQ]; exact hP9, va_K.moved hWQ.alike hK9, hD9⟩, hS.F htQ⟩) hS.2.2 dX11_of_80
  · skip
    refine qq_as (v := .null) rfl ?_
    refine lv_astore_nN (lv' := [(3, .null), (0, .ref h0), (1, .int x), (2, .int y)]) hx hb dX11_of_8 rfl hl (by decide) rfl (fun ls hl => ?_)
    refine lv_aload_nN hx hb dX11_of_9 rfl (lv_at hl 0 rfl) ?_
    refine lv_ifnonnullN hx hb dX11_of_10 ?_
    refine lv_iconst (v := (-1)) hx hb dX11_of_13 (by decide) ?_
    rw [hQ]
    have hP9 := hP.sub (ws' := [(zo13rrirrrr h0 sc kp ik bl go ch bo), (zo10ririliiriririr sc aTp (nI ts) aHl (nI nh) ed mi sn aHs (nI n) aWk (nI wz) aBk (nI bz) aFc), (zaR aHs cHs 8 fHs), (zaI aFc cFc 6 fFc)]) [0, 1, 2, 3] rfl
    have hD9 := hD.sub (ws' := [(zo13rrirrrr h0 sc kp ik bl go ch bo), (zo10ririliiriririr sc aTp (nI ts) aHl (nI nh) ed mi sn aHs (nI n) aWk (nI wz) aBk (nI bz) aFc), (zaR aHs cHs 8 fHs), (zaI aFc cFc 6 fFc)]) [0, 1, 2, 3] (by decide) rfl
    have hK9 := hK.sub (tys' := [(cHs, .object "MistHeaps$Heap"), (cFc, .int)]) [0, 1] rfl
    exact W.iret (v := (-1)) hx hb hr (fun tQ htQ hWQ => ⟨⟨(-1), fFc, rfl, of_no (by assumption), by rw [htQ]; exact hP9, va_K.moved hWQ.alike hK9, hD9⟩, hS.F htQ⟩) hS.2.2 dX11_of_14
end mg18a
section mg18a
theorem ggX11_sees_X11_isCell : GoodIn wsX11_sees wsX11_isCell := gga_of 549 rfl rfl rfl
theorem gX11_sees_X11_isCell : GoodIn wsX11_sees (va_wsS RX11 94 yX11_isCell wsX11_isCell) := goodIn_app (ggh_of [547, 548, 63] rfl rfl rfl) ggX11_sees_X11_isCell
theorem ggX11_sees_X2_measure : GoodIn wsX11_sees wsX2_measure := gga_of 692 rfl rfl rfl
theorem gX11_sees_X2_measure : GoodIn wsX11_sees (wsV RX11 131 RX2 yX2_measure wsX2_measure) := goodIn_app (ggh_of [689, 690, 691, 66] rfl rfl rfl) ggX11_sees_X2_measure
theorem ggX11_sees_X2_seenFrom : GoodIn wsX11_sees wsX2_seenFrom := gga_of 697 rfl rfl rfl
theorem gX11_sees_X2_seenFrom : GoodIn wsX11_sees (wsV RX11 135 RX2 yX2_seenFrom wsX2_seenFrom) := goodIn_app (ggh_of [694, 695, 696, 66] rfl rfl rfl) ggX11_sees_X2_seenFrom
noncomputable def dk18b08pub_cX11_sees_0 : List (Nat × List Nat) := [(0, [27]), (1, [184, 0, 94]), (4, [154, 0, 5]), (7, [2]), (8, [172]), (9, [42]), (10, [180, 0, 35]), (13, [42]), (14, [180, 0, 14]), (17, [42]), (18, [180, 0, 14]), (21, [180, 0, 88]), (24, [182, 0, 131]), (27, [42]), (28, [180, 0, 35]), (31, [42]), (32, [180, 0, 14]), (35, [27]), (36, [182, 0, 135]), (39, [172])]
set_option maxRecDepth 100000 in
theorem dk18b08pub_cX11_sees_0_a : btA cX11_sees dk18b08pub_cX11_sees_0 = true := by decide +kernel
theorem dX11_sees_0 : decode cX11_sees 0 = .ok (.iload_n 1, 1) := bd27 (btAt dk18b08pub_cX11_sees_0_a 0 rfl)
theorem dX11_sees_1 : decode cX11_sees 1 = .ok (.invokestatic 94, 3) := bd184 (a := 0) (b := 94) (btAt dk18b08pub_cX11_sees_0_a 1 rfl)
theorem dX11_sees_4 : decode cX11_sees 4 = .ok (.ifCond .ne 5, 3) := bd154 (a := 0) (b := 5) (btAt dk18b08pub_cX11_sees_0_a 2 rfl)
theorem dX11_sees_7 : decode cX11_sees 7 = .ok (.iconst (-1), 1) := bd2 (btAt dk18b08pub_cX11_sees_0_a 3 rfl)
theorem dX11_sees_8 : decode cX11_sees 8 = .ok (.ireturn, 1) := bd172 (btAt dk18b08pub_cX11_sees_0_a 4 rfl)
theorem dX11_sees_9 : decode cX11_sees 9 = .ok (.aload_n 0, 1) := bd42 (btAt dk18b08pub_cX11_sees_0_a 5 rfl)
theorem dX11_sees_10 : decode cX11_sees 10 = .ok (.getfield 35, 3) := bd180 (a := 0) (b := 35) (btAt dk18b08pub_cX11_sees_0_a 6 rfl)
theorem dX11_sees_13 : decode cX11_sees 13 = .ok (.aload_n 0, 1) := bd42 (btAt dk18b08pub_cX11_sees_0_a 7 rfl)
theorem dX11_sees_14 : decode cX11_sees 14 = .ok (.getfield 14, 3) := bd180 (a := 0) (b := 14) (btAt dk18b08pub_cX11_sees_0_a 8 rfl)
theorem dX11_sees_17 : decode cX11_sees 17 = .ok (.aload_n 0, 1) := bd42 (btAt dk18b08pub_cX11_sees_0_a 9 rfl)
theorem dX11_sees_18 : decode cX11_sees 18 = .ok (.getfield 14, 3) := bd180 (a := 0) (b := 14) (btAt dk18b08pub_cX11_sees_0_a 10 rfl)
theorem dX11_sees_21 : decode cX11_sees 21 = .ok (.getfield 88, 3) := bd180 (a := 0) (b := 88) (btAt dk18b08pub_cX11_sees_0_a 11 rfl)
theorem dX11_sees_24 : decode cX11_sees 24 = .ok (.invokevirtual 131, 3) := bd182 (a := 0) (b := 131) (btAt dk18b08pub_cX11_sees_0_a 12 rfl)
theorem dX11_sees_27 : decode cX11_sees 27 = .ok (.aload_n 0, 1) := bd42 (btAt dk18b08pub_cX11_sees_0_a 13 rfl)
theorem dX11_sees_28 : decode cX11_sees 28 = .ok (.getfield 35, 3) := bd180 (a := 0) (b := 35) (btAt dk18b08pub_cX11_sees_0_a 14 rfl)
theorem dX11_sees_31 : decode cX11_sees 31 = .ok (.aload_n 0, 1) := bd42 (btAt dk18b08pub_cX11_sees_0_a 15 rfl)
theorem dX11_sees_32 : decode cX11_sees 32 = .ok (.getfield 14, 3) := bd180 (a := 0) (b := 14) (btAt dk18b08pub_cX11_sees_0_a 16 rfl)
theorem dX11_sees_35 : decode cX11_sees 35 = .ok (.iload_n 1, 1) := bd27 (btAt dk18b08pub_cX11_sees_0_a 17 rfl)
theorem dX11_sees_36 : decode cX11_sees 36 = .ok (.invokevirtual 135, 3) := bd182 (a := 0) (b := 135) (btAt dk18b08pub_cX11_sees_0_a 18 rfl)
theorem dX11_sees_39 : decode cX11_sees 39 = .ok (.ireturn, 1) := bd172 (btAt dk18b08pub_cX11_sees_0_a 19 rfl)
theorem kc_xSees_0 : ∀ w ∈ wsX110, w ∈ wsX11_sees := fun w h => List.mem_cons_of_mem _ (gin_wsX110 w h)
theorem kc_xSees_1 : (.fieldLink RX11 35 "MistHeaps" "goings" "LMistHeaps$Goings;" : Cond) ∈ wsX11_sees := kc_of 332 rfl rfl rfl
theorem kc_xSees_2 : (.fieldLink RX11 14 "MistHeaps" "scene" "LMistHeaps$Scene;" : Cond) ∈ wsX11_sees := kc_of 328 rfl rfl rfl
theorem kc_xSees_3 : ∀ w ∈ wsX80, w ∈ wsX11_sees := fun w h => List.mem_cons_of_mem _ (gin_wsX80 w h)
theorem kc_xSees_4 : (.fieldLink RX11 88 "MistHeaps$Scene" "snow" "I" : Cond) ∈ wsX11_sees := kc_of 166 rfl rfl rfl
set_option maxHeartbeats 4000000 in
set_option maxRecDepth 100000 in
theorem c_xSees (l : Launch) (dC : Nat → ClassId) (dI : Nat → Nat → Nat) (gd : Nat → Nat)    (h0 : Nat) (sc : Nat) (kp : Nat) (bl : Nat) (go : Nat) (ch : Nat) (bo : Nat) (aTp : Nat) (aHl : Nat) (aHs : Nat) (aWk : Nat) (aBk : Nat) (aFc : Nat) (bW : Nat) (bA : Nat) (bE : Nat) (bC : Nat) (gR : Nat) (gO : Nat) (gS : Nat) (ts : Nat) (nh : Nat) (n : Nat) (wz : Nat) (bz : Nat) (lk : Nat) (cl : Nat) (mi : Int32) (sn : Int32) (sg : Int32) (cdd : Int32) (szz : Int32) (att : Int32) (nmb : Int32) (ik : Int32) (x : Int32) (ed : Int64) (cHs : ClassId) (cFc : ClassId) (cbW : ClassId) (cbA : ClassId) (cbE : ClassId) (cbC : ClassId) (cR : ClassId) (fFc : Nat → Int32) (fbW : Nat → Int32) (fbA : Nat → Int32) (fbE : Nat → Int32) (fbC : Nat → Int32) (fR : Nat → Int32) (yk : Nat → Int32) (yv : Nat → Int32) (yc : Nat → Int32) (fHs : Nat → Option Nat) (yi : Nat → Nat) (ya : Nat → Nat) (tpv : Value) (cz : List pCla) (sz : Nat) (zhs : ∀ k0, k0 < n → fHs k0 = some (ya k0)) (hn8 : n ≤ 8) (zcl : cl ≤ 10) (zE : ∀ k0, k0 < 10 → ∃ e0 : Nat, e0 ≤ 100 ∧ fbE k0 = nI e0) (zC : ∀ k0, k0 < 100 → okC (fbC k0)) (zHC : HC cl sg fbW fbA fbE fbC cz ∧ WfC cz) (zyt : ∀ k0, k0 < n → hpT (yi k0) (yk k0)) : Met l yX11_sees wsX11_sees ({ frames := 6, cells := 0, slots := 0, locals := 125 } : Room) (va_Pc [.ref h0, .int x] (fun U => U.heap.size = sz ∧ va_P (dC, dI) vwCl [(zo13rrirrrr h0 sc kp ik bl go ch bo), (zo4rrir go gR gO (nI lk) gS), (zaI gR cR 8 fR), (zo10ririliiriririr sc aTp (nI ts) aHl (nI nh) ed mi sn aHs (nI n) aWk (nI wz) aBk (nI bz) aFc), (zaR aHs cHs 8 fHs), (zaI aFc cFc 6 fFc)] U.heap ∧ va_K (dC, dI) vwCl [(cR, .int), (cHs, .object "MistHeaps$Heap"), (cFc, .int)] U ∧ va_D (fun _ => True) [(zo13rrirrrr h0 sc kp ik bl go ch bo), (zo4rrir go gR gO (nI lk) gS), (zaI gR cR 8 fR), (zo10ririliiriririr sc aTp (nI ts) aHl (nI nh) ed mi sn aHs (nI n) aWk (nI wz) aBk (nI bz) aFc), (zaR aHs cHs 8 fHs), (zaI aFc cFc 6 fFc)] ∧ Gl gd (va_A [(zo13rrirrrr h0 sc kp ik bl go ch bo), (zo4rrir go gR gO (nI lk) gS), (zaI gR cR 8 fR), (zo10ririliiriririr sc aTp (nI ts) aHl (nI nh) ed mi sn aHs (nI n) aWk (nI wz) aBk (nI bz) aFc), (zaR aHs cHs 8 fHs), (zaI aFc cFc 6 fFc)] sz) U ∧ Gw (va_A [(zo13rrirrrr h0 sc kp ik bl go ch bo), (zo4rrir go gR gO (nI lk) gS), (zaI gR cR 8 fR), (zo10ririliiriririr sc aTp (nI ts) aHl (nI nh) ed mi sn aHs (nI n) aWk (nI wz) aBk (nI bz) aFc), (zaR aHs cHs 8 fHs), (zaI aFc cFc 6 fFc)] sz) U ∧ Fz dC dI [(zo7iirrrriviii aHl sg (nI cl) bW bA bE bC cdd tpv szz att nmb), (zaI bW cbW 10 fbW), (zaI bA cbA 10 fbA), (zaI bE cbE 10 fbE), (zaI bC cbC 100 fbC)] [(cbW, .int), (cbA, .int), (cbE, .int), (cbC, .int)] (va_A [(zo13rrirrrr h0 sc kp ik bl go ch bo), (zo4rrir go gR gO (nI lk) gS), (zaI gR cR 8 fR), (zo10ririliiriririr sc aTp (nI ts) aHl (nI nh) ed mi sn aHs (nI n) aWk (nI wz) aBk (nI bz) aFc), (zaR aHs cHs 8 fHs), (zaI aFc cFc 6 fFc)] sz) U ∧ Hs dC dI n yi ya yk yv yc (va_A [(zo13rrirrrr h0 sc kp ik bl go ch bo), (zo4rrir go gR gO (nI lk) gS), (zaI gR cR 8 fR), (zo10ririliiriririr sc aTp (nI ts) aHl (nI nh) ed mi sn aHs (nI n) aWk (nI wz) aBk (nI bz) aFc), (zaR aHs cHs 8 fHs), (zaI aFc cFc 6 fFc)] sz) U)) (va_Qi (fun (r : Int32) (u : (Nat → Int32) × (Nat → Int32)) => match u with | (fR9, fFc9) => r = seR n yk yv yc cz mi sn x) (fun (u : (Nat → Int32) × (Nat → Int32)) (t : State) => match u with | (fR9, fFc9) => va_P (dC, dI) vwCl [(zo13rrirrrr h0 sc kp ik bl go ch bo), (zo4rrir go gR gO (nI lk) gS), (zaI gR cR 8 fR9), (zo10ririliiriririr sc aTp (nI ts) aHl (nI nh) ed mi sn aHs (nI n) aWk (nI wz) aBk (nI bz) aFc), (zaR aHs cHs 8 fHs), (zaI aFc cFc 6 fFc9)] t.heap ∧ va_K (dC, dI) vwCl [(cR, .int), (cHs, .object "MistHeaps$Heap"), (cFc, .int)] t ∧ va_D (va_A [(zo13rrirrrr h0 sc kp ik bl go ch bo), (zo4rrir go gR gO (nI lk) gS), (zaI gR cR 8 fR), (zo10ririliiriririr sc aTp (nI ts) aHl (nI nh) ed mi sn aHs (nI n) aWk (nI wz) aBk (nI bz) aFc), (zaR aHs cHs 8 fHs), (zaI aFc cFc 6 fFc)] sz) [(zo13rrirrrr h0 sc kp ik bl go ch bo), (zo4rrir go gR gO (nI lk) gS), (zaI gR cR 8 fR9), (zo10ririliiriririr sc aTp (nI ts) aHl (nI nh) ed mi sn aHs (nI n) aWk (nI wz) aBk (nI bz) aFc), (zaR aHs cHs 8 fHs), (zaI aFc cFc 6 fFc9)]) (va_A [(zo13rrirrrr h0 sc kp ik bl go ch bo), (zo4rrir go gR gO (nI lk) gS), (zaI gR cR 8 fR), (zo10ririliiriririr sc aTp (nI ts) aHl (nI nh) ed mi sn aHs (nI n) aWk (nI wz) aBk (nI bz) aFc), (zaR aHs cHs 8 fHs), (zaI aFc cFc 6 fFc)] sz)) 0 0 (va_A [(zo13rrirrrr h0 sc kp ik bl go ch bo), (zo4rrir go gR gO (nI lk) gS), (zaI gR cR 8 fR), (zo10ririliiriririr sc aTp (nI ts) aHl (nI nh) ed mi sn aHs (nI n) aWk (nI wz) aBk (nI bz) aFc), (zaR aHs cHs 8 fHs), (zaI aFc cFc 6 fFc)] sz) := by
  refine met_ofQ (cc := cX11_sees) (maxL := 2) (ret := (some .int)) (by decide) rfl ?_
  intro p e s m args below meth c s₁ Q B hml hv hQ
  obtain ⟨rfl, hsz, hP, hK, hD0, hG, hW_, hZ, hH_⟩ := hv
  have hx := B.exec
  have hb := B.bytes
  have hr := B.returns
  have hts := atoms_spec (ws := wsX11_sees) B.pre
  have hown : s.vm.findClass RX11 = some m.cls := findClass_of_methodNamed B.named
  have hlocks := B.notSynchronized
  subst hsz
  have hD := hD0.self (sz := s.heap.size)
  generalize hAe : va_A [(zo13rrirrrr h0 sc kp ik bl go ch bo), (zo4rrir go gR gO (nI lk) gS), (zaI gR cR 8 fR), (zo10ririliiriririr sc aTp (nI ts) aHl (nI nh) ed mi sn aHs (nI n) aWk (nI wz) aBk (nI bz) aFc), (zaR aHs cHs 8 fHs), (zaI aFc cFc 6 fFc)] s.heap.size = A at hD hQ hG hW_ hZ hH_ ⊢
  have hA : ∀ q : Nat, s.heap.size ≤ q → A q := fun q h => by rw [← hAe]; exact Or.inr h
  have hS : va_S A s.heap s.heap [] := va_S.rf
  have hl := lv_entry [.ref h0, .int x] (n := 2) (Nat.le_of_ble_eq_true rfl)
  rw [lg_entry_eq]
  generalize (lg_sl [.ref h0, .int x] ++ List.replicate (2 - (lg_sl [.ref h0, .int x]).length) Slot.unset).toArray = ls at hl ⊢
  generalize hag : ([.ref h0, .int x] : List Value).toArray = args at hts hQ ⊢
  have hl : lv_has ls 2 [(0, .ref h0), (1, .int x)] := hl
  obtain ⟨H, hH⟩ : ∃ H : Heap, H = s.heap := ⟨_, rfl⟩
  rw [← hH] at hP
  rw [← hH]
  have hS : va_S A s.heap H [] := by rw [hH]; exact hS
  obtain ⟨locs, hlo⟩ : ∃ L : List Loc, L = [] := ⟨_, rfl⟩
  rw [← hlo] at hS
  rw [← hlo]
  clear hH hlo
  refine lv_iload_n hx hb dX11_sees_0 rfl (lv_at hl 1 rfl) ?_
  refine vp_callSi (va_runS (As := [.int x]) (rest := []) ⟨hx, hb, hml, hown, hts⟩ (c_xCell l dC dI x) (va_cwS 1 hts gX11_sees_X11_isCell rfl rfl rfl hd_yX11_isCell.2 ⟨Nat.le_of_ble_eq_true rfl, Nat.le_of_ble_eq_true rfl⟩) ⟨fun a U g mk q => ⟨q.1, trivial⟩, fun U hU hW => ⟨rfl, trivial⟩⟩ rfl rfl hl.1 rfl (lv_room (Nat.le_of_ble_eq_true rfl)) dX11_sees_1 ⟨Nat.le_of_ble_eq_true rfl, Nat.le_of_ble_eq_true rfl⟩).run (fun r_1 hw_2 => ?_)
  rcases hw_2 with ⟨rfl, j_3, hj_4, rfl⟩ | ⟨rfl, h_5⟩
  · skip
    refine lv_if_ne (tgt := 9) hx hb dX11_sees_4 (by decide) (fun _ => ?_) (fun c_6 => absurd c_6 (by decide))
    refine lv_aload_n hx hb dX11_sees_9 rfl (lv_at hl 0 rfl) ?_
    refine va_get (D := (dC, dI)) (ci := 13) (v := .ref go) (C := RX11) (T := TX11) (N := 7) hx hb hts kc_xSees_0 hown hK hP 0 rfl rfl 4 (by decide) (hts (.fieldLink RX11 35 "MistHeaps" "goings" "LMistHeaps$Goings;") kc_xSees_1) (fun _ h9 => h9) rfl dX11_sees_10 ?_
    refine lv_aload_n hx hb dX11_sees_13 rfl (lv_at hl 0 rfl) ?_
    refine va_get (D := (dC, dI)) (ci := 13) (v := .ref sc) (C := RX11) (T := TX11) (N := 7) hx hb hts kc_xSees_0 hown hK hP 0 rfl rfl 0 (by decide) (hts (.fieldLink RX11 14 "MistHeaps" "scene" "LMistHeaps$Scene;") kc_xSees_2) (fun _ h9 => h9) rfl dX11_sees_14 ?_
    refine lv_aload_n hx hb dX11_sees_17 rfl (lv_at hl 0 rfl) ?_
    refine va_get (D := (dC, dI)) (ci := 13) (v := .ref sc) (C := RX11) (T := TX11) (N := 7) hx hb hts kc_xSees_0 hown hK hP 0 rfl rfl 0 (by decide) (hts (.fieldLink RX11 14 "MistHeaps" "scene" "LMistHeaps$Scene;") kc_xSees_2) (fun _ h9 => h9) rfl dX11_sees_18 ?_
    refine va_get (D := (dC, dI)) (ci := 10) (v := .int sn) (C := RX8) (T := TX8) (N := 14) hx hb hts kc_xSees_3 hown hK hP 3 rfl rfl 6 (by decide) (hts (.fieldLink RX11 88 "MistHeaps$Scene" "snow" "I") kc_xSees_4) (fun _ h9 => h9) rfl dX11_sees_21 ?_
    have hPc := hP.sub (ws' := [(zo4rrir go gR gO (nI lk) gS), (zaI gR cR 8 fR), (zo10ririliiriririr sc aTp (nI ts) aHl (nI nh) ed mi sn aHs (nI n) aWk (nI wz) aBk (nI bz) aFc), (zaR aHs cHs 8 fHs), (zaI aFc cFc 6 fFc)]) [1, 2, 3, 4, 5] rfl
    have hDc := hD.sub (ws' := [(zo4rrir go gR gO (nI lk) gS), (zaI gR cR 8 fR), (zo10ririliiriririr sc aTp (nI ts) aHl (nI nh) ed mi sn aHs (nI n) aWk (nI wz) aBk (nI bz) aFc), (zaR aHs cHs 8 fHs), (zaI aFc cFc 6 fFc)]) [1, 2, 3, 4, 5] (by decide) rfl
    have hKc := hK.sub (tys' := [(cR, .int), (cHs, .object "MistHeaps$Heap"), (cFc, .int)]) [0, 1, 2] rfl
    have hFc := va_free (wc := [(zo4rrir go gR gO (nI lk) gS), (zaI gR cR 8 fR), (zo10ririliiriririr sc aTp (nI ts) aHl (nI nh) ed mi sn aHs (nI n) aWk (nI wz) aBk (nI bz) aFc), (zaR aHs cHs 8 fHs), (zaI aFc cFc 6 fFc)]) hD hS hA [1, 2, 3, 4, 5] rfl
    refine va_callv (va_runV (As := [.ref sc, .int sn]) (rest := []) ⟨hx, hb, hml, hown, hts⟩ (c_measure l dC dI gd    sc go aTp aHl aHs aWk aBk aFc bW bA bE bC gR gO gS ts nh n wz bz lk cl mi sn sg cdd szz att nmb sn ed cHs cFc cbW cbA cbE cbC cR fFc fbW fbA fbE fbC fR yk yv yc fHs yi ya tpv cz H.size (zhs) (hn8) (zcl) (zE) (zC) (zHC) (zyt)) (cwV 2 hts gX11_sees_X2_measure rfl rfl rfl hd_yX2_measure ⟨Nat.le_of_ble_eq_true rfl, Nat.le_of_ble_eq_true rfl⟩) ⟨fun a U g mk q => by obtain ⟨q0, q1, qP, qK, qD, qhG, qhW_, qhZ, qhH_⟩ := q; exact ⟨q0, mvz g mk a q1, mvP g mk a qP, mvK g mk a qK, qD, qhG.mv g mk a, qhW_.mv g mk a, qhZ.mv g mk a, qhH_.mv g mk a⟩, va_recv hK hP (ci := 4) (q := (RX2, TX2, 4)) (q0 := 1) rfl rfl, fun U hU hW => ⟨rfl, by rw [hU], by rw [hU]; exact hPc, va_K.moved hW.alike hKc, hDc.weaken (fun _ _ _ _ => trivial), hG.call hS hU hW (fun q h => hFc q h), hW_.call hS hU hW (fun q h => hFc q h), (hZ.sub [0, 1, 2, 3, 4] [0, 1, 2, 3] rfl rfl).call hS hU hW (fun q h => hFc q h), hH_.call hS hU hW (fun q h => hFc q h)⟩⟩ rfl rfl hl.1 rfl (lv_room (Nat.le_of_ble_eq_true rfl)) dX11_sees_24 ⟨Nat.le_of_ble_eq_true rfl, Nat.le_of_ble_eq_true rfl⟩) hS (fun q _ h => hFc q h) hFc (fun u tC H1 locs htC hvm hw_8 hB hz1 hk1 hS => ?_)
    obtain ⟨fR9_9, fFc9_10⟩ := u
    try dsimp only at hw_8 hB
    obtain ⟨hP1, hK1, hD1⟩ := hB
    rw [htC] at hP1
    have hK1 := va_K.moved hvm.symm hK1
    obtain ⟨hP, hD⟩ := va_join (wr := [(zo13rrirrrr h0 sc kp ik bl go ch bo)]) (w1 := [(zo4rrir go gR gO (nI lk) gS), (zaI gR cR 8 fR9_9), (zo10ririliiriririr sc aTp (nI ts) aHl (nI nh) ed mi sn aHs (nI n) aWk (nI wz) aBk (nI bz) aFc), (zaR aHs cHs 8 fHs), (zaI aFc cFc 6 fFc9_10)]) hP hD [1, 2, 3, 4, 5] [0] rfl rfl (by decide) (by decide) hk1 hFc hP1 hD1
    have hK := (hK.sub (tys' := []) [] rfl).app hK1
    generalize H1 = H at hP hS ⊢
    have hP : va_P (dC, dI) vwCl [(zo13rrirrrr h0 sc kp ik bl go ch bo), (zo4rrir go gR gO (nI lk) gS), (zaI gR cR 8 fR9_9), (zo10ririliiriririr sc aTp (nI ts) aHl (nI nh) ed mi sn aHs (nI n) aWk (nI wz) aBk (nI bz) aFc), (zaR aHs cHs 8 fHs), (zaI aFc cFc 6 fFc9_10)] H := hP
    have hD : va_D A [(zo13rrirrrr h0 sc kp ik bl go ch bo), (zo4rrir go gR gO (nI lk) gS), (zaI gR cR 8 fR9_9), (zo10ririliiriririr sc aTp (nI ts) aHl (nI nh) ed mi sn aHs (nI n) aWk (nI wz) aBk (nI bz) aFc), (zaR aHs cHs 8 fHs), (zaI aFc cFc 6 fFc9_10)] := hD
    have hK : va_K (dC, dI) vwCl [(cR, .int), (cHs, .object "MistHeaps$Heap"), (cFc, .int)] s := hK
    refine lv_aload_n hx hb dX11_sees_27 rfl (lv_at hl 0 rfl) ?_
    refine va_get (D := (dC, dI)) (ci := 13) (v := .ref go) (C := RX11) (T := TX11) (N := 7) hx hb hts kc_xSees_0 hown hK hP 0 rfl rfl 4 (by decide) (hts (.fieldLink RX11 35 "MistHeaps" "goings" "LMistHeaps$Goings;") kc_xSees_1) (fun _ h9 => h9) rfl dX11_sees_28 ?_
    refine lv_aload_n hx hb dX11_sees_31 rfl (lv_at hl 0 rfl) ?_
    refine va_get (D := (dC, dI)) (ci := 13) (v := .ref sc) (C := RX11) (T := TX11) (N := 7) hx hb hts kc_xSees_0 hown hK hP 0 rfl rfl 0 (by decide) (hts (.fieldLink RX11 14 "MistHeaps" "scene" "LMistHeaps$Scene;") kc_xSees_2) (fun _ h9 => h9) rfl dX11_sees_32 ?_
    refine lv_iload_n hx hb dX11_sees_35 rfl (lv_at hl 1 rfl) ?_
    have hPc := hP.sub (ws' := [(zo4rrir go gR gO (nI lk) gS), (zaI gR cR 8 fR9_9), (zo10ririliiriririr sc aTp (nI ts) aHl (nI nh) ed mi sn aHs (nI n) aWk (nI wz) aBk (nI bz) aFc), (zaR aHs cHs 8 fHs)]) [1, 2, 3, 4] rfl
    have hKc := hK.sub (tys' := [(cR, .int), (cHs, .object "MistHeaps$Heap")]) [0, 1] rfl
    refine vp_callSi (va_runV (As := [.ref sc, .int (nI j_3)]) (rest := []) ⟨hx, hb, hml, hown, hts⟩ (c_seenFrom l dC dI gd  sc go aTp aHl aHs aWk aBk aFc gR gO gS ts nh n wz bz lk mi sn (nI j_3) ed cHs cR fR9_9 yk yv yc fHs yi ya (zhs) (hn8)) (cwV 2 hts gX11_sees_X2_seenFrom rfl rfl rfl hd_yX2_seenFrom ⟨Nat.le_of_ble_eq_true rfl, Nat.le_of_ble_eq_true rfl⟩) ⟨fun a U g mk q => by obtain ⟨q0, qP, qK, qhG, qhH_⟩ := q; exact ⟨q0, mvP g mk a qP, mvK g mk a qK, qhG.mv g mk a, qhH_.mv g mk a⟩, va_recv hK hP (ci := 4) (q := (RX2, TX2, 4)) (q0 := 1) rfl rfl, fun U hU hW => ⟨rfl, by rw [hU]; exact hPc, va_K.moved hW.alike hKc, hG.callF hS hU hW, hH_.callF hS hU hW⟩⟩ rfl rfl hl.1 rfl (lv_room (Nat.le_of_ble_eq_true rfl)) dX11_sees_36 ⟨Nat.le_of_ble_eq_true rfl, Nat.le_of_ble_eq_true rfl⟩).run (fun r_11 hw_12 => ?_)
    obtain rfl := hw_12
    rw [hQ]
    have hP9 := hP.sub (ws' := [(zo13rrirrrr h0 sc kp ik bl go ch bo), (zo4rrir go gR gO (nI lk) gS), (zaI gR cR 8 fR9_9), (zo10ririliiriririr sc aTp (nI ts) aHl (nI nh) ed mi sn aHs (nI n) aWk (nI wz) aBk (nI bz) aFc), (zaR aHs cHs 8 fHs), (zaI aFc cFc 6 fFc9_10)]) [0, 1, 2, 3, 4, 5] rfl
    have hD9 := hD.sub (ws' := [(zo13rrirrrr h0 sc kp ik bl go ch bo), (zo4rrir go gR gO (nI lk) gS), (zaI gR cR 8 fR9_9), (zo10ririliiriririr sc aTp (nI ts) aHl (nI nh) ed mi sn aHs (nI n) aWk (nI wz) aBk (nI bz) aFc), (zaR aHs cHs 8 fHs), (zaI aFc cFc 6 fFc9_10)]) [0, 1, 2, 3, 4, 5] (by decide) rfl
    have hK9 := hK.sub (tys' := [(cR, .int), (cHs, .object "MistHeaps$Heap"), (cFc, .int)]) [0, 1, 2] rfl
    exact W.iret (v := sbR (fun k => apR (nI j_3) (yc k)) fR9_9 n) hx hb hr (fun tQ htQ hWQ => ⟨⟨(sbR (fun k => apR (nI j_3) (yc k)) fR9_9 n), (fR9_9, fFc9_10), rfl, se_x (by omega) hw_8, by rw [htQ]; exact hP9, va_K.moved hWQ.alike hK9, hD9⟩, hS.F htQ⟩) hS.2.2 dX11_sees_39
  · skip
    refine lv_if_ne (tgt := 9) hx hb dX11_sees_4 (by decide) (fun c_13 => absurd c_13 (by decide)) (fun _ => ?_)
    refine lv_iconst (v := (-1)) hx hb dX11_sees_7 (by decide) ?_
    rw [hQ]
    have hP9 := hP.sub (ws' := [(zo13rrirrrr h0 sc kp ik bl go ch bo), (zo4rrir go gR gO (nI lk) gS), (zaI gR cR 8 fR), (zo10ririliiriririr sc aTp (nI ts) aHl (nI nh) ed mi sn aHs (nI n) aWk (nI wz) aBk (nI bz) aFc), (zaR aHs cHs 8 fHs), (zaI aFc cFc 6 fFc)]) [0, 1, 2, 3, 4, 5] rfl
    have hD9 := hD.sub (ws' := [(zo13rrirrrr h0 sc kp ik bl go ch bo), (zo4rrir go gR gO (nI lk) gS), (zaI gR cR 8 fR), (zo10ririliiriririr sc aTp (nI ts) aHl (nI nh) ed mi sn aHs (nI n) aWk (nI wz) aBk (nI bz) aFc), (zaR aHs cHs 8 fHs), (zaI aFc cFc 6 fFc)]) [0, 1, 2, 3, 4, 5] (by decide) rfl
    have hK9 := hK.sub (tys' := [(cR, .int), (cHs, .object "MistHeaps$Heap"), (cFc, .int)]) [0, 1, 2] rfl
    exact W.iret (v := (-1)) hx hb hr (fun tQ htQ hWQ => ⟨⟨(-1), (fR, fFc), rfl, se_no (cell_no (by assumption)), by rw [htQ]; exact hP9, va_K.moved hWQ.alike hK9, hD9⟩, hS.F htQ⟩) hS.2.2 dX11_sees_8
end mg18a
section mg18a
theorem ggX11_where_X2_measure : GoodIn wsX11_where wsX2_measure := gga_of 692 rfl rfl rfl
theorem gX11_where_X2_measure : GoodIn wsX11_where (wsV RX11 131 RX2 yX2_measure wsX2_measure) := goodIn_app (ggh_of [689, 690, 691, 66] rfl rfl rfl) ggX11_where_X2_measure
theorem ggX11_where_X2_seenFrom : GoodIn wsX11_where wsX2_seenFrom := gga_of 697 rfl rfl rfl
theorem gX11_where_X2_seenFrom : GoodIn wsX11_where (wsV RX11 135 RX2 yX2_seenFrom wsX2_seenFrom) := goodIn_app (ggh_of [694, 695, 696, 66] rfl rfl rfl) ggX11_where_X2_seenFrom
noncomputable def dk18b09pub_cX11_where_0 : List (Nat × List Nat) := [(0, [27]), (1, [155, 0, 16]), (4, [27]), (5, [4]), (6, [42]), (7, [180, 0, 14]), (10, [180, 0, 101]), (13, [120]), (14, [161, 0, 7]), (17, [20, 0, 139]), (20, [173]), (21, [42]), (22, [180, 0, 35]), (25, [42]), (26, [180, 0, 14]), (29, [42]), (30, [180, 0, 14]), (33, [180, 0, 88]), (36, [182, 0, 131]), (39, [9]), (40, [65]), (41, [3]), (42, [54, 4]), (44, [21, 4]), (46, [16, 36]), (48, [162, 0, 33]), (51, [42]), (52, [180, 0, 35]), (55, [42]), (56, [180, 0, 14]), (59, [21, 4]), (61, [182, 0, 135]), (64, [27]), (65, [160, 0, 10]), (68, [32]), (69, [10]), (75, [132, 4, 1]), (78, [167, 255, 222]), (81, [32]), (82, [173])]
set_option maxRecDepth 100000 in
theorem dk18b09pub_cX11_where_0_a : btA cX11_where dk18b09pub_cX11_where_0 = true := by decide +kernel
theorem dX11_where_0 : decode cX11_where 0 = .ok (.iload_n 1, 1) := bd27 (btAt dk18b09pub_cX11_where_0_a 0 rfl)
theorem dX11_where_1 : decode cX11_where 1 = .ok (.ifCond .lt 16, 3) := bd155 (a := 0) (b := 16) (btAt dk18b09pub_cX11_where_0_a 1 rfl)
theorem dX11_where_4 : decode cX11_where 4 = .ok (.iload_n 1, 1) := bd27 (btAt dk18b09pub_cX11_where_0_a 2 rfl)
theorem dX11_where_5 : decode cX11_where 5 = .ok (.iconst 1, 1) := bd4 (btAt dk18b09pub_cX11_where_0_a 3 rfl)
theorem dX11_where_6 : decode cX11_where 6 = .ok (.aload_n 0, 1) := bd42 (btAt dk18b09pub_cX11_where_0_a 4 rfl)
theorem dX11_where_7 : decode cX11_where 7 = .ok (.getfield 14, 3) := bd180 (a := 0) (b := 14) (btAt dk18b09pub_cX11_where_0_a 5 rfl)
theorem dX11_where_10 : decode cX11_where 10 = .ok (.getfield 101, 3) := bd180 (a := 0) (b := 101) (btAt dk18b09pub_cX11_where_0_a 6 rfl)
theorem dX11_where_13 : decode cX11_where 13 = .ok (.ishl, 1) := bd120 (btAt dk18b09pub_cX11_where_0_a 7 rfl)
theorem dX11_where_14 : decode cX11_where 14 = .ok (.if_icmp .lt 7, 3) := bd161 (a := 0) (b := 7) (btAt dk18b09pub_cX11_where_0_a 8 rfl)
theorem dX11_where_17 : decode cX11_where 17 = .ok (.ldc2_w 139, 3) := bd20 (a := 0) (b := 139) (btAt dk18b09pub_cX11_where_0_a 9 rfl)
theorem dX11_where_20 : decode cX11_where 20 = .ok (.lreturn, 1) := bd173 (btAt dk18b09pub_cX11_where_0_a 10 rfl)
theorem dX11_where_21 : decode cX11_where 21 = .ok (.aload_n 0, 1) := bd42 (btAt dk18b09pub_cX11_where_0_a 11 rfl)
theorem dX11_where_22 : decode cX11_where 22 = .ok (.getfield 35, 3) := bd180 (a := 0) (b := 35) (btAt dk18b09pub_cX11_where_0_a 12 rfl)
theorem dX11_where_25 : decode cX11_where 25 = .ok (.aload_n 0, 1) := bd42 (btAt dk18b09pub_cX11_where_0_a 13 rfl)
theorem dX11_where_26 : decode cX11_where 26 = .ok (.getfield 14, 3) := bd180 (a := 0) (b := 14) (btAt dk18b09pub_cX11_where_0_a 14 rfl)
theorem dX11_where_29 : decode cX11_where 29 = .ok (.aload_n 0, 1) := bd42 (btAt dk18b09pub_cX11_where_0_a 15 rfl)
theorem dX11_where_30 : decode cX11_where 30 = .ok (.getfield 14, 3) := bd180 (a := 0) (b := 14) (btAt dk18b09pub_cX11_where_0_a 16 rfl)
theorem dX11_where_33 : decode cX11_where 33 = .ok (.getfield 88, 3) := bd180 (a := 0) (b := 88) (btAt dk18b09pub_cX11_where_0_a 17 rfl)
theorem dX11_where_36 : decode cX11_where 36 = .ok (.invokevirtual 131, 3) := bd182 (a := 0) (b := 131) (btAt dk18b09pub_cX11_where_0_a 18 rfl)
theorem dX11_where_39 : decode cX11_where 39 = .ok (.lconst 0, 1) := bd9 (btAt dk18b09pub_cX11_where_0_a 19 rfl)
theorem dX11_where_40 : decode cX11_where 40 = .ok (.lstore_n 2, 1) := bd65 (btAt dk18b09pub_cX11_where_0_a 20 rfl)
theorem dX11_where_41 : decode cX11_where 41 = .ok (.iconst 0, 1) := bd3 (btAt dk18b09pub_cX11_where_0_a 21 rfl)
theorem dX11_where_42 : decode cX11_where 42 = .ok (.istore 4, 2) := bd54 (a := 4) (btAt dk18b09pub_cX11_where_0_a 22 rfl)
theorem dX11_where_44 : decode cX11_where 44 = .ok (.iload 4, 2) := bd21 (a := 4) (btAt dk18b09pub_cX11_where_0_a 23 rfl)
theorem dX11_where_46 : decode cX11_where 46 = .ok (.bipush 36, 2) := bd16 (a := 36) (btAt dk18b09pub_cX11_where_0_a 24 rfl)
theorem dX11_where_48 : decode cX11_where 48 = .ok (.if_icmp .ge 33, 3) := bd162 (a := 0) (b := 33) (btAt dk18b09pub_cX11_where_0_a 25 rfl)
theorem dX11_where_51 : decode cX11_where 51 = .ok (.aload_n 0, 1) := bd42 (btAt dk18b09pub_cX11_where_0_a 26 rfl)
theorem dX11_where_52 : decode cX11_where 52 = .ok (.getfield 35, 3) := bd180 (a := 0) (b := 35) (btAt dk18b09pub_cX11_where_0_a 27 rfl)
theorem dX11_where_55 : decode cX11_where 55 = .ok (.aload_n 0, 1) := bd42 (btAt dk18b09pub_cX11_where_0_a 28 rfl)
theorem dX11_where_56 : decode cX11_where 56 = .ok (.getfield 14, 3) := bd180 (a := 0) (b := 14) (btAt dk18b09pub_cX11_where_0_a 29 rfl)
theorem dX11_where_59 : decode cX11_where 59 = .ok (.iload 4, 2) := bd21 (a := 4) (btAt dk18b09pub_cX11_where_0_a 30 rfl)
theorem dX11_where_61 : decode cX11_where 61 = .ok (.invokevirtual 135, 3) := bd182 (a := 0) (b := 135) (btAt dk18b09pub_cX11_where_0_a 31 rfl)
theorem dX11_where_64 : decode cX11_where 64 = .ok (.iload_n 1, 1) := bd27 (btAt dk18b09pub_cX11_where_0_a 32 rfl)
theorem dX11_where_65 : decode cX11_where 65 = .ok (.if_icmp .ne 10, 3) := bd160 (a := 0) (b := 10) (btAt dk18b09pub_cX11_where_0_a 33 rfl)
theorem dX11_where_68 : decode cX11_where 68 = .ok (.lload_n 2, 1) := bd32 (btAt dk18b09pub_cX11_where_0_a 34 rfl)
theorem dX11_where_69 : decode cX11_where 69 = .ok (.lconst 1, 1) := bd10 (btAt dk18b09pub_cX11_where_0_a 35 rfl)
theorem dX11_where_75 : decode cX11_where 75 = .ok (.iinc 4 1, 3) := bd132 (a := 4) (b := 1) (btAt dk18b09pub_cX11_where_0_a 36 rfl)
theorem dX11_where_78 : decode cX11_where 78 = .ok (.goto (-34), 3) := bd167 (a := 255) (b := 222) (btAt dk18b09pub_cX11_where_0_a 37 rfl)
theorem dX11_where_81 : decode cX11_where 81 = .ok (.lload_n 2, 1) := bd32 (btAt dk18b09pub_cX11_where_0_a 38 rfl)
theorem dX11_where_82 : decode cX11_where 82 = .ok (.lreturn, 1) := bd173 (btAt dk18b09pub_cX11_where_0_a 39 rfl)
noncomputable def dk18b09pub_cX11_where_40 : List (Nat × List Nat) := [(70, [21, 4]), (72, [121]), (73, [129]), (74, [65])]
set_option maxRecDepth 100000 in
theorem dk18b09pub_cX11_where_40_a : btA cX11_where dk18b09pub_cX11_where_40 = true := by decide +kernel
theorem dX11_where_70 : decode cX11_where 70 = .ok (.iload 4, 2) := bd21 (a := 4) (btAt dk18b09pub_cX11_where_40_a 0 rfl)
theorem dX11_where_72 : decode cX11_where 72 = .ok (.lshl, 1) := bd121 (btAt dk18b09pub_cX11_where_40_a 1 rfl)
theorem dX11_where_73 : decode cX11_where 73 = .ok (.lor, 1) := bd129 (btAt dk18b09pub_cX11_where_40_a 2 rfl)
theorem dX11_where_74 : decode cX11_where 74 = .ok (.lstore_n 2, 1) := bd65 (btAt dk18b09pub_cX11_where_40_a 3 rfl)
theorem kc_xWhere_0 : (.constantLong RX11 139 (-9223372036854775808) : Cond) ∈ wsX11_where := kc_of 711 rfl rfl rfl
theorem kc_xWhere_1 : ∀ w ∈ wsX110, w ∈ wsX11_where := fun w h => List.mem_cons_of_mem _ (gin_wsX110 w h)
theorem kc_xWhere_2 : (.fieldLink RX11 14 "MistHeaps" "scene" "LMistHeaps$Scene;" : Cond) ∈ wsX11_where := kc_of 328 rfl rfl rfl
theorem kc_xWhere_3 : ∀ w ∈ wsX80, w ∈ wsX11_where := fun w h => List.mem_cons_of_mem _ (gin_wsX80 w h)
theorem kc_xWhere_4 : (.fieldLink RX11 101 "MistHeaps$Scene" "heapCount" "I" : Cond) ∈ wsX11_where := kc_of 173 rfl rfl rfl
theorem kc_xWhere_5 : (.fieldLink RX11 35 "MistHeaps" "goings" "LMistHeaps$Goings;" : Cond) ∈ wsX11_where := kc_of 332 rfl rfl rfl
theorem kc_xWhere_6 : (.fieldLink RX11 88 "MistHeaps$Scene" "snow" "I" : Cond) ∈ wsX11_where := kc_of 166 rfl rfl rfl
set_option maxHeartbeats 4000000 in
set_option maxRecDepth 100000 in
theorem c_xWhere (l : Launch) (dC : Nat → ClassId) (dI : Nat → Nat → Nat) (gd : Nat → Nat)    (h0 : Nat) (sc : Nat) (kp : Nat) (bl : Nat) (go : Nat) (ch : Nat) (bo : Nat) (aTp : Nat) (aHl : Nat) (aHs : Nat) (aWk : Nat) (aBk : Nat) (aFc : Nat) (bW : Nat) (bA : Nat) (bE : Nat) (bC : Nat) (gR : Nat) (gO : Nat) (gS : Nat) (ts : Nat) (nh : Nat) (n : Nat) (wz : Nat) (bz : Nat) (lk : Nat) (cl : Nat) (mi : Int32) (sn : Int32) (sg : Int32) (cdd : Int32) (szz : Int32) (att : Int32) (nmb : Int32) (ik : Int32) (x : Int32) (ed : Int64) (cHs : ClassId) (cFc : ClassId) (cbW : ClassId) (cbA : ClassId) (cbE : ClassId) (cbC : ClassId) (cR : ClassId) (fFc : Nat → Int32) (fbW : Nat → Int32) (fbA : Nat → Int32) (fbE : Nat → Int32) (fbC : Nat → Int32) (fR : Nat → Int32) (yk : Nat → Int32) (yv : Nat → Int32) (yc : Nat → Int32) (fHs : Nat → Option Nat) (yi : Nat → Nat) (ya : Nat → Nat) (tpv : Value) (cz : List pCla) (sz : Nat) (zhs : ∀ k0, k0 < n → fHs k0 = some (ya k0)) (hn8 : n ≤ 8) (zcl : cl ≤ 10) (zE : ∀ k0, k0 < 10 → ∃ e0 : Nat, e0 ≤ 100 ∧ fbE k0 = nI e0) (zC : ∀ k0, k0 < 100 → okC (fbC k0)) (zHC : HC cl sg fbW fbA fbE fbC cz ∧ WfC cz) (zyt : ∀ k0, k0 < n → hpT (yi k0) (yk k0)) : Met l yX11_where wsX11_where ({ frames := 6, cells := 0, slots := 0, locals := 125 } : Room) (va_Pc [.ref h0, .int x] (fun U => U.heap.size = sz ∧ va_P (dC, dI) vwCl [(zo13rrirrrr h0 sc kp ik bl go ch bo), (zo4rrir go gR gO (nI lk) gS), (zaI gR cR 8 fR), (zo10ririliiriririr sc aTp (nI ts) aHl (nI nh) ed mi sn aHs (nI n) aWk (nI wz) aBk (nI bz) aFc), (zaR aHs cHs 8 fHs), (zaI aFc cFc 6 fFc)] U.heap ∧ va_K (dC, dI) vwCl [(cR, .int), (cHs, .object "MistHeaps$Heap"), (cFc, .int)] U ∧ va_D (fun _ => True) [(zo13rrirrrr h0 sc kp ik bl go ch bo), (zo4rrir go gR gO (nI lk) gS), (zaI gR cR 8 fR), (zo10ririliiriririr sc aTp (nI ts) aHl (nI nh) ed mi sn aHs (nI n) aWk (nI wz) aBk (nI bz) aFc), (zaR aHs cHs 8 fHs), (zaI aFc cFc 6 fFc)] ∧ Gl gd (va_A [(zo13rrirrrr h0 sc kp ik bl go ch bo), (zo4rrir go gR gO (nI lk) gS), (zaI gR cR 8 fR), (zo10ririliiriririr sc aTp (nI ts) aHl (nI nh) ed mi sn aHs (nI n) aWk (nI wz) aBk (nI bz) aFc), (zaR aHs cHs 8 fHs), (zaI aFc cFc 6 fFc)] sz) U ∧ Gw (va_A [(zo13rrirrrr h0 sc kp ik bl go ch bo), (zo4rrir go gR gO (nI lk) gS), (zaI gR cR 8 fR), (zo10ririliiriririr sc aTp (nI ts) aHl (nI nh) ed mi sn aHs (nI n) aWk (nI wz) aBk (nI bz) aFc), (zaR aHs cHs 8 fHs), (zaI aFc cFc 6 fFc)] sz) U ∧ Fz dC dI [(zo7iirrrriviii aHl sg (nI cl) bW bA bE bC cdd tpv szz att nmb), (zaI bW cbW 10 fbW), (zaI bA cbA 10 fbA), (zaI bE cbE 10 fbE), (zaI bC cbC 100 fbC)] [(cbW, .int), (cbA, .int), (cbE, .int), (cbC, .int)] (va_A [(zo13rrirrrr h0 sc kp ik bl go ch bo), (zo4rrir go gR gO (nI lk) gS), (zaI gR cR 8 fR), (zo10ririliiriririr sc aTp (nI ts) aHl (nI nh) ed mi sn aHs (nI n) aWk (nI wz) aBk (nI bz) aFc), (zaR aHs cHs 8 fHs), (zaI aFc cFc 6 fFc)] sz) U ∧ Hs dC dI n yi ya yk yv yc (va_A [(zo13rrirrrr h0 sc kp ik bl go ch bo), (zo4rrir go gR gO (nI lk) gS), (zaI gR cR 8 fR), (zo10ririliiriririr sc aTp (nI ts) aHl (nI nh) ed mi sn aHs (nI n) aWk (nI wz) aBk (nI bz) aFc), (zaR aHs cHs 8 fHs), (zaI aFc cFc 6 fFc)] sz) U)) (va_Ql (fun (r : Int64) (u : (Nat → Int32) × (Nat → Int32)) => match u with | (fR9, fFc9) => r = whR n yk yv yc cz mi sn x) (fun (u : (Nat → Int32) × (Nat → Int32)) (t : State) => match u with | (fR9, fFc9) => va_P (dC, dI) vwCl [(zo13rrirrrr h0 sc kp ik bl go ch bo), (zo4rrir go gR gO (nI lk) gS), (zaI gR cR 8 fR9), (zo10ririliiriririr sc aTp (nI ts) aHl (nI nh) ed mi sn aHs (nI n) aWk (nI wz) aBk (nI bz) aFc), (zaR aHs cHs 8 fHs), (zaI aFc cFc 6 fFc9)] t.heap ∧ va_K (dC, dI) vwCl [(cR, .int), (cHs, .object "MistHeaps$Heap"), (cFc, .int)] t ∧ va_D (va_A [(zo13rrirrrr h0 sc kp ik bl go ch bo), (zo4rrir go gR gO (nI lk) gS), (zaI gR cR 8 fR), (zo10ririliiriririr sc aTp (nI ts) aHl (nI nh) ed mi sn aHs (nI n) aWk (nI wz) aBk (nI bz) aFc), (zaR aHs cHs 8 fHs), (zaI aFc cFc 6 fFc)] sz) [(zo13rrirrrr h0 sc kp ik bl go ch bo), (zo4rrir go gR gO (nI lk) gS), (zaI gR cR 8 fR9), (zo10ririliiriririr sc aTp (nI ts) aHl (nI nh) ed mi sn aHs (nI n) aWk (nI wz) aBk (nI bz) aFc), (zaR aHs cHs 8 fHs), (zaI aFc cFc 6 fFc9)]) (va_A [(zo13rrirrrr h0 sc kp ik bl go ch bo), (zo4rrir go gR gO (nI lk) gS), (zaI gR cR 8 fR), (zo10ririliiriririr sc aTp (nI ts) aHl (nI nh) ed mi sn aHs (nI n) aWk (nI wz) aBk (nI bz) aFc), (zaR aHs cHs 8 fHs), (zaI aFc cFc 6 fFc)] sz)) 0 0 (va_A [(zo13rrirrrr h0 sc kp ik bl go ch bo), (zo4rrir go gR gO (nI lk) gS), (zaI gR cR 8 fR), (zo10ririliiriririr sc aTp (nI ts) aHl (nI nh) ed mi sn aHs (nI n) aWk (nI wz) aBk (nI bz) aFc), (zaR aHs cHs 8 fHs), (zaI aFc cFc 6 fFc)] sz) := by
  refine met_ofQ (cc := cX11_where) (maxL := 5) (ret := (some .long)) (by decide) rfl ?_
  intro p e s m args below meth c s₁ Q B hml hv hQ
  obtain ⟨rfl, hsz, hP, hK, hD0, hG, hW_, hZ, hH_⟩ := hv
  have hx := B.exec
  have hb := B.bytes
  have hr := B.returns
  have hts := atoms_spec (ws := wsX11_where) B.pre
  have hown : s.vm.findClass RX11 = some m.cls := findClass_of_methodNamed B.named
  have hlocks := B.notSynchronized
  subst hsz
  have hD := hD0.self (sz := s.heap.size)
  generalize hAe : va_A [(zo13rrirrrr h0 sc kp ik bl go ch bo), (zo4rrir go gR gO (nI lk) gS), (zaI gR cR 8 fR), (zo10ririliiriririr sc aTp (nI ts) aHl (nI nh) ed mi sn aHs (nI n) aWk (nI wz) aBk (nI bz) aFc), (zaR aHs cHs 8 fHs), (zaI aFc cFc 6 fFc)] s.heap.size = A at hD hQ hG hW_ hZ hH_ ⊢
  have hA : ∀ q : Nat, s.heap.size ≤ q → A q := fun q h => by rw [← hAe]; exact Or.inr h
  have hS : va_S A s.heap s.heap [] := va_S.rf
  have hl := lv_entry [.ref h0, .int x] (n := 5) (Nat.le_of_ble_eq_true rfl)
  rw [lg_entry_eq]
  generalize (lg_sl [.ref h0, .int x] ++ List.replicate (5 - (lg_sl [.ref h0, .int x]).length) Slot.unset).toArray = ls at hl ⊢
  generalize hag : ([.ref h0, .int x] : List Value).toArray = args at hts hQ ⊢
  have hl : lv_has ls 5 [(0, .ref h0), (1, .int x)] := hl
  obtain ⟨H, hH⟩ : ∃ H : Heap, H = s.heap := ⟨_, rfl⟩
  rw [← hH] at hP
  rw [← hH]
  have hS : va_S A s.heap H [] := by rw [hH]; exact hS
  obtain ⟨locs, hlo⟩ : ∃ L : List Loc, L = [] := ⟨_, rfl⟩
  rw [← hlo] at hS
  rw [← hlo]
  clear hH hlo
  refine lv_iload_n hx hb dX11_where_0 rfl (lv_at hl 1 rfl) ?_
  refine lv_if_lt (tgt := 17) hx hb dX11_where_1 (by decide) (fun c_1 => ?_) (fun c_1 => ?_)
  · skip
    refine lv_ldc2 (v := (-9223372036854775808)) hx hb hown (hts (.constantLong RX11 139 (-9223372036854775808)) kc_xWhere_0) dX11_where_17 ?_
    rw [hQ]
    have hP9 := hP.sub (ws' := [(zo13rrirrrr h0 sc kp ik bl go ch bo), (zo4rrir go gR gO (nI lk) gS), (zaI gR cR 8 fR), (zo10ririliiriririr sc aTp (nI ts) aHl (nI nh) ed mi sn aHs (nI n) aWk (nI wz) aBk (nI bz) aFc), (zaR aHs cHs 8 fHs), (zaI aFc cFc 6 fFc)]) [0, 1, 2, 3, 4, 5] rfl
    have hD9 := hD.sub (ws' := [(zo13rrirrrr h0 sc kp ik bl go ch bo), (zo4rrir go gR gO (nI lk) gS), (zaI gR cR 8 fR), (zo10ririliiriririr sc aTp (nI ts) aHl (nI nh) ed mi sn aHs (nI n) aWk (nI wz) aBk (nI bz) aFc), (zaR aHs cHs 8 fHs), (zaI aFc cFc 6 fFc)]) [0, 1, 2, 3, 4, 5] (by decide) rfl
    have hK9 := hK.sub (tys' := [(cR, .int), (cHs, .object "MistHeaps$Heap"), (cFc, .int)]) [0, 1, 2] rfl
    exact W.lret (v := (-9223372036854775808)) hx hb hr (fun tQ htQ hWQ => ⟨⟨(-9223372036854775808), (fR, fFc), rfl, by first | exact wh_a (by assumption) | exact wh_c hn8 (by assumption) (by assumption), by rw [htQ]; exact hP9, va_K.moved hWQ.alike hK9, hD9⟩, hS.F htQ⟩) hS.2.2 dX11_where_20
  · skip
    refine lv_iload_n hx hb dX11_where_4 rfl (lv_at hl 1 rfl) ?_
    refine lv_iconst (v := 1) hx hb dX11_where_5 (by decide) ?_
    refine lv_aload_n hx hb dX11_where_6 rfl (lv_at hl 0 rfl) ?_
    refine va_get (D := (dC, dI)) (ci := 13) (v := .ref sc) (C := RX11) (T := TX11) (N := 7) hx hb hts kc_xWhere_1 hown hK hP 0 rfl rfl 0 (by decide) (hts (.fieldLink RX11 14 "MistHeaps" "scene" "LMistHeaps$Scene;") kc_xWhere_2) (fun _ h9 => h9) rfl dX11_where_7 ?_
    refine va_get (D := (dC, dI)) (ci := 10) (v := .int (nI n)) (C := RX8) (T := TX8) (N := 14) hx hb hts kc_xWhere_3 hown hK hP 3 rfl rfl 8 (by decide) (hts (.fieldLink RX11 101 "MistHeaps$Scene" "heapCount" "I") kc_xWhere_4) (fun _ h9 => h9) rfl dX11_where_10 ?_
    refine lv_ishl hx hb dX11_where_13 ?_
    refine lv_icmp_lt (tgt := 21) hx hb dX11_where_14 (by decide) (fun c_2 => ?_) (fun c_2 => ?_)
    · skip
      refine lv_aload_n hx hb dX11_where_21 rfl (lv_at hl 0 rfl) ?_
      refine va_get (D := (dC, dI)) (ci := 13) (v := .ref go) (C := RX11) (T := TX11) (N := 7) hx hb hts kc_xWhere_1 hown hK hP 0 rfl rfl 4 (by decide) (hts (.fieldLink RX11 35 "MistHeaps" "goings" "LMistHeaps$Goings;") kc_xWhere_5) (fun _ h9 => h9) rfl dX11_where_22 ?_
      refine lv_aload_n hx hb dX11_where_25 rfl (lv_at hl 0 rfl) ?_
      refine va_get (D := (dC, dI)) (ci := 13) (v := .ref sc) (C := RX11) (T := TX11) (N := 7) hx hb hts kc_xWhere_1 hown hK hP 0 rfl rfl 0 (by decide) (hts (.fieldLink RX11 14 "MistHeaps" "scene" "LMistHeaps$Scene;") kc_xWhere_2) (fun _ h9 => h9) rfl dX11_where_26 ?_
      refine lv_aload_n hx hb dX11_where_29 rfl (lv_at hl 0 rfl) ?_
      refine va_get (D := (dC, dI)) (ci := 13) (v := .ref sc) (C := RX11) (T := TX11) (N := 7) hx hb hts kc_xWhere_1 hown hK hP 0 rfl rfl 0 (by decide) (hts (.fieldLink RX11 14 "MistHeaps" "scene" "LMistHeaps$Scene;") kc_xWhere_2) (fun _ h9 => h9) rfl dX11_where_30 ?_
      refine va_get (D := (dC, dI)) (ci := 10) (v := .int sn) (C := RX8) (T := TX8) (N := 14) hx hb hts kc_xWhere_3 hown hK hP 3 rfl rfl 6 (by decide) (hts (.fieldLink RX11 88 "MistHeaps$Scene" "snow" "I") kc_xWhere_6) (fun _ h9 => h9) rfl dX11_where_33 ?_
      have hPc := hP.sub (ws' := [(zo4rrir go gR gO (nI lk) gS), (zaI gR cR 8 fR), (zo10ririliiriririr sc aTp (nI ts) aHl (nI nh) ed mi sn aHs (nI n) aWk (nI wz) aBk (nI bz) aFc), (zaR aHs cHs 8 fHs), (zaI aFc cFc 6 fFc)]) [1, 2, 3, 4, 5] rfl
      have hDc := hD.sub (ws' := [(zo4rrir go gR gO (nI lk) gS), (zaI gR cR 8 fR), (zo10ririliiriririr sc aTp (nI ts) aHl (nI nh) ed mi sn aHs (nI n) aWk (nI wz) aBk (nI bz) aFc), (zaR aHs cHs 8 fHs), (zaI aFc cFc 6 fFc)]) [1, 2, 3, 4, 5] (by decide) rfl
      have hKc := hK.sub (tys' := [(cR, .int), (cHs, .object "MistHeaps$Heap"), (cFc, .int)]) [0, 1, 2] rfl
      have hFc := va_free (wc := [(zo4rrir go gR gO (nI lk) gS), (zaI gR cR 8 fR), (zo10ririliiriririr sc aTp (nI ts) aHl (nI nh) ed mi sn aHs (nI n) aWk (nI wz) aBk (nI bz) aFc), (zaR aHs cHs 8 fHs), (zaI aFc cFc 6 fFc)]) hD hS hA [1, 2, 3, 4, 5] rfl
      refine va_callv (va_runV (As := [.ref sc, .int sn]) (rest := []) ⟨hx, hb, hml, hown, hts⟩ (c_measure l dC dI gd    sc go aTp aHl aHs aWk aBk aFc bW bA bE bC gR gO gS ts nh n wz bz lk cl mi sn sg cdd szz att nmb sn ed cHs cFc cbW cbA cbE cbC cR fFc fbW fbA fbE fbC fR yk yv yc fHs yi ya tpv cz H.size (zhs) (hn8) (zcl) (zE) (zC) (zHC) (zyt)) (cwV 2 hts gX11_where_X2_measure rfl rfl rfl hd_yX2_measure ⟨Nat.le_of_ble_eq_true rfl, Nat.le_of_ble_eq_true rfl⟩) ⟨fun a U g mk q => by obtain ⟨q0, q1, qP, qK, qD, qhG, qhW_, qhZ, qhH_⟩ := q; exact ⟨q0, mvz g mk a q1, mvP g mk a qP, mvK g mk a qK, qD, qhG.mv g mk a, qhW_.mv g mk a, qhZ.mv g mk a, qhH_.mv g mk a⟩, va_recv hK hP (ci := 4) (q := (RX2, TX2, 4)) (q0 := 1) rfl rfl, fun U hU hW => ⟨rfl, by rw [hU], by rw [hU]; exact hPc, va_K.moved hW.alike hKc, hDc.weaken (fun _ _ _ _ => trivial), hG.call hS hU hW (fun q h => hFc q h), hW_.call hS hU hW (fun q h => hFc q h), (hZ.sub [0, 1, 2, 3, 4] [0, 1, 2, 3] rfl rfl).call hS hU hW (fun q h => hFc q h), hH_.call hS hU hW (fun q h => hFc q h)⟩⟩ rfl rfl hl.1 rfl (lv_room (Nat.le_of_ble_eq_true rfl)) dX11_where_36 ⟨Nat.le_of_ble_eq_true rfl, Nat.le_of_ble_eq_true rfl⟩) hS (fun q _ h => hFc q h) hFc (fun u tC H1 locs htC hvm hw_4 hB hz1 hk1 hS => ?_)
      obtain ⟨fR9_5, fFc9_6⟩ := u
      try dsimp only at hw_4 hB
      obtain ⟨hP1, hK1, hD1⟩ := hB
      rw [htC] at hP1
      have hK1 := va_K.moved hvm.symm hK1
      obtain ⟨hP, hD⟩ := va_join (wr := [(zo13rrirrrr h0 sc kp ik bl go ch bo)]) (w1 := [(zo4rrir go gR gO (nI lk) gS), (zaI gR cR 8 fR9_5), (zo10ririliiriririr sc aTp (nI ts) aHl (nI nh) ed mi sn aHs (nI n) aWk (nI wz) aBk (nI bz) aFc), (zaR aHs cHs 8 fHs), (zaI aFc cFc 6 fFc9_6)]) hP hD [1, 2, 3, 4, 5] [0] rfl rfl (by decide) (by decide) hk1 hFc hP1 hD1
      have hK := (hK.sub (tys' := []) [] rfl).app hK1
      generalize H1 = H at hP hS ⊢
      have hP : va_P (dC, dI) vwCl [(zo13rrirrrr h0 sc kp ik bl go ch bo), (zo4rrir go gR gO (nI lk) gS), (zaI gR cR 8 fR9_5), (zo10ririliiriririr sc aTp (nI ts) aHl (nI nh) ed mi sn aHs (nI n) aWk (nI wz) aBk (nI bz) aFc), (zaR aHs cHs 8 fHs), (zaI aFc cFc 6 fFc9_6)] H := hP
      have hD : va_D A [(zo13rrirrrr h0 sc kp ik bl go ch bo), (zo4rrir go gR gO (nI lk) gS), (zaI gR cR 8 fR9_5), (zo10ririliiriririr sc aTp (nI ts) aHl (nI nh) ed mi sn aHs (nI n) aWk (nI wz) aBk (nI bz) aFc), (zaR aHs cHs 8 fHs), (zaI aFc cFc 6 fFc9_6)] := hD
      have hK : va_K (dC, dI) vwCl [(cR, .int), (cHs, .object "MistHeaps$Heap"), (cFc, .int)] s := hK
      refine lv_lconst (v := 0) hx hb dX11_where_39 (by decide) ?_
      refine lv_lstore_n (lv' := [(2, .long 0), (0, .ref h0), (1, .int x)]) hx hb dX11_where_40 rfl hl (by decide) rfl (fun ls hl => ?_)
      refine lv_iconst (v := 0) hx hb dX11_where_41 (by decide) ?_
      refine lv_istore (lv' := [(4, .int 0), (2, .long 0), (0, .ref h0), (1, .int x)]) hx hb dX11_where_42 hl (by decide) rfl (fun ls hl => ?_)
      have L44 : ∀ (nF : Nat) (i : Nat) (q : Int64), 36 - i < nF → (i ≤ 36) → (q = whB (fun i => sbR (fun k => apR (nI i) (yc k)) fR9_5 n) x i) → ∀ (H : Heap) (locs : List Loc), va_K (dC, dI) vwCl [(cR, .int), (cHs, .object "MistHeaps$Heap"), (cFc, .int)] s → va_P (dC, dI) vwCl [(zo13rrirrrr h0 sc kp ik bl go ch bo), (zo4rrir go gR gO (nI lk) gS), (zaI gR cR 8 fR9_5), (zo10ririliiriririr sc aTp (nI ts) aHl (nI nh) ed mi sn aHs (nI n) aWk (nI wz) aBk (nI bz) aFc), (zaR aHs cHs 8 fHs), (zaI aFc cFc 6 fFc9_6)] H → va_D A [(zo13rrirrrr h0 sc kp ik bl go ch bo), (zo4rrir go gR gO (nI lk) gS), (zaI gR cR 8 fR9_5), (zo10ririliiriririr sc aTp (nI ts) aHl (nI nh) ed mi sn aHs (nI n) aWk (nI wz) aBk (nI bz) aFc), (zaR aHs cHs 8 fHs), (zaI aFc cFc 6 fFc9_6)] → va_S A s.heap H locs → ∀ (ls : Array Slot), lv_has ls 5 [(0, .ref h0), (1, .int x), (2, .long q), (4, .int (nI i))] → W p l e ({ frames := 6, cells := 0, slots := 0, locals := 125 } : Room) s m args below meth c H locs 0 0 Q (F0 m 44 ls []) := by
        intro nF
        induction nF with
        | zero => intro i q hm; exact absurd hm (Nat.not_lt_zero _)
        | succ nF ih44 =>
          intro i q hm hii hq9 H locs hK hP hD hS ls hl
          refine lv_iload hx hb dX11_where_44 (lv_at hl 3 rfl) ?_
          refine lv_bipush (v := 36) hx hb dX11_where_46 (by decide) ?_
          refine lv_icmp_ge (tgt := 81) hx hb dX11_where_48 (by decide) (fun c_7 => ?_) (fun c_7 => ?_)
          · skip
            have c_7 : 36 ≤ i := (nI_leI (a := 36) (b := i) (by omega) (by omega)).mp c_7
            refine lv_lload_n hx hb dX11_where_81 rfl (lv_at hl 2 rfl) ?_
            rw [hQ]
            have hP9 := hP.sub (ws' := [(zo13rrirrrr h0 sc kp ik bl go ch bo), (zo4rrir go gR gO (nI lk) gS), (zaI gR cR 8 fR9_5), (zo10ririliiriririr sc aTp (nI ts) aHl (nI nh) ed mi sn aHs (nI n) aWk (nI wz) aBk (nI bz) aFc), (zaR aHs cHs 8 fHs), (zaI aFc cFc 6 fFc9_6)]) [0, 1, 2, 3, 4, 5] rfl
            have hD9 := hD.sub (ws' := [(zo13rrirrrr h0 sc kp ik bl go ch bo), (zo4rrir go gR gO (nI lk) gS), (zaI gR cR 8 fR9_5), (zo10ririliiriririr sc aTp (nI ts) aHl (nI nh) ed mi sn aHs (nI n) aWk (nI wz) aBk (nI bz) aFc), (zaR aHs cHs 8 fHs), (zaI aFc cFc 6 fFc9_6)]) [0, 1, 2, 3, 4, 5] (by decide) rfl
            have hK9 := hK.sub (tys' := [(cR, .int), (cHs, .object "MistHeaps$Heap"), (cFc, .int)]) [0, 1, 2] rfl
            exact W.lret (v := q) hx hb hr (fun tQ htQ hWQ => ⟨⟨q, (fR9_5, fFc9_6), rfl, wh_x hn8 (by assumption) (by assumption) hw_4 (wh_end hq9 (by omega)), by rw [htQ]; exact hP9, va_K.moved hWQ.alike hK9, hD9⟩, hS.F htQ⟩) hS.2.2 dX11_where_82
          · skip
            have c_7 : ¬ 36 ≤ i := fun q => c_7 ((nI_leI (a := 36) (b := i) (by omega) (by omega)).mpr q)
            refine lv_aload_n hx hb dX11_where_51 rfl (lv_at hl 0 rfl) ?_
            refine va_get (D := (dC, dI)) (ci := 13) (v := .ref go) (C := RX11) (T := TX11) (N := 7) hx hb hts kc_xWhere_1 hown hK hP 0 rfl rfl 4 (by decide) (hts (.fieldLink RX11 35 "MistHeaps" "goings" "LMistHeaps$Goings;") kc_xWhere_5) (fun _ h9 => h9) rfl dX11_where_52 ?_
            refine lv_aload_n hx hb dX11_where_55 rfl (lv_at hl 0 rfl) ?_
            refine va_get (D := (dC, dI)) (ci := 13) (v := .ref sc) (C := RX11) (T := TX11) (N := 7) hx hb hts kc_xWhere_1 hown hK hP 0 rfl rfl 0 (by decide) (hts (.fieldLink RX11 14 "MistHeaps" "scene" "LMistHeaps$Scene;") kc_xWhere_2) (fun _ h9 => h9) rfl dX11_where_56 ?_
            refine lv_iload hx hb dX11_where_59 (lv_at hl 3 rfl) ?_
            have hPc := hP.sub (ws' := [(zo4rrir go gR gO (nI lk) gS), (zaI gR cR 8 fR9_5), (zo10ririliiriririr sc aTp (nI ts) aHl (nI nh) ed mi sn aHs (nI n) aWk (nI wz) aBk (nI bz) aFc), (zaR aHs cHs 8 fHs)]) [1, 2, 3, 4] rfl
            have hKc := hK.sub (tys' := [(cR, .int), (cHs, .object "MistHeaps$Heap")]) [0, 1] rfl
            refine vp_callSi (va_runV (As := [.ref sc, .int (nI i)]) (rest := []) ⟨hx, hb, hml, hown, hts⟩ (c_seenFrom l dC dI gd  sc go aTp aHl aHs aWk aBk aFc gR gO gS ts nh n wz bz lk mi sn (nI i) ed cHs cR fR9_5 yk yv yc fHs yi ya (zhs) (hn8)) (cwV 2 hts gX11_where_X2_seenFrom rfl rfl rfl hd_yX2_seenFrom ⟨Nat.le_of_ble_eq_true rfl, Nat.le_of_ble_eq_true rfl⟩) ⟨fun a U g mk q => by obtain ⟨q0, qP, qK, qhG, qhH_⟩ := q; exact ⟨q0, mvP g mk a qP, mvK g mk a qK, qhG.mv g mk a, qhH_.mv g mk a⟩, va_recv hK hP (ci := 4) (q := (RX2, TX2, 4)) (q0 := 1) rfl rfl, fun U hU hW => ⟨rfl, by rw [hU]; exact hPc, va_K.moved hW.alike hKc, hG.callF hS hU hW, hH_.callF hS hU hW⟩⟩ rfl rfl hl.1 rfl (lv_room (Nat.le_of_ble_eq_true rfl)) dX11_where_61 ⟨Nat.le_of_ble_eq_true rfl, Nat.le_of_ble_eq_true rfl⟩).run (fun r_8 hw_9 => ?_)
            obtain rfl := hw_9
            refine lv_iload_n hx hb dX11_where_64 rfl (lv_at hl 1 rfl) ?_
            refine lv_icmp_ne (tgt := 75) hx hb dX11_where_65 (by decide) (fun c_10 => ?_) (fun c_10 => ?_)
            · skip
              refine lv_iinc (v := nI (i + 1)) (lv' := [(4, .int (nI (i + 1))), (0, .ref h0), (1, .int x), (2, .long q)]) hx hb dX11_where_75 hl (k := 3) rfl (nI_add i 1) (by decide) rfl (fun ls hl => ?_)
              refine lv_goto (tgt := 44) hx hb dX11_where_78 (by decide) ?_
              exact ih44 (i + 1) (q) (by omega) (by omega) (wh_n hq9 c_10) _ _ (hK.sub [0, 1, 2] rfl) (hP.sub [0, 1, 2, 3, 4, 5] rfl) (hD.sub [0, 1, 2, 3, 4, 5] (by decide) rfl) hS ls (lv_sub hl [1, 2, 3, 0] rfl)
            · skip
              refine lv_lload_n hx hb dX11_where_68 rfl (lv_at hl 2 rfl) ?_
              refine lv_lconst (v := 1) hx hb dX11_where_69 (by decide) ?_
              refine lv_iload hx hb dX11_where_70 (lv_at hl 3 rfl) ?_
              refine lv_lshl (v := (1 : Int64) <<< ((nI i).toInt64 &&& 63)) hx hb dX11_where_72 (rfl) ?_
              refine lv_lor hx hb dX11_where_73 ?_
              refine lv_lstore_n (lv' := [(2, .long (q ||| ((1 : Int64) <<< ((nI i).toInt64 &&& 63)))), (0, .ref h0), (1, .int x), (4, .int (nI i))]) hx hb dX11_where_74 rfl hl (by decide) rfl (fun ls hl => ?_)
              refine lv_iinc (v := nI (i + 1)) (lv' := [(4, .int (nI (i + 1))), (2, .long (q ||| ((1 : Int64) <<< ((nI i).toInt64 &&& 63)))), (0, .ref h0), (1, .int x)]) hx hb dX11_where_75 hl (k := 3) rfl (nI_add i 1) (by decide) rfl (fun ls hl => ?_)
              refine lv_goto (tgt := 44) hx hb dX11_where_78 (by decide) ?_
              exact ih44 (i + 1) (q ||| ((1 : Int64) <<< ((nI i).toInt64 &&& 63))) (by omega) (by omega) (wh_1 hq9 c_10) _ _ (hK.sub [0, 1, 2] rfl) (hP.sub [0, 1, 2, 3, 4, 5] rfl) (hD.sub [0, 1, 2, 3, 4, 5] (by decide) rfl) hS ls (lv_sub hl [2, 3, 1, 0] rfl)
      exact L44 _ (0) (0) (Nat.lt_succ_self _) (by omega) (rfl) _ _ (hK.sub [0, 1, 2] rfl) (hP.sub [0, 1, 2, 3, 4, 5] rfl) (hD.sub [0, 1, 2, 3, 4, 5] (by decide) rfl) hS ls (lv_sub hl [2, 3, 1, 0] rfl)
    · skip
      refine lv_ldc2 (v := (-9223372036854775808)) hx hb hown (hts (.constantLong RX11 139 (-9223372036854775808)) kc_xWhere_0) dX11_where_17 ?_
      rw [hQ]
      have hP9 := hP.sub (ws' := [(zo13rrirrrr h0 sc kp ik bl go ch bo), (zo4rrir go gR gO (nI lk) gS), (zaI gR cR 8 fR), (zo10ririliiriririr sc aTp (nI ts) aHl (nI nh) ed mi sn aHs (nI n) aWk (nI wz) aBk (nI bz) aFc), (zaR aHs cHs 8 fHs), (zaI aFc cFc 6 fFc)]) [0, 1, 2, 3, 4, 5] rfl
      have hD9 := hD.sub (ws' := [(zo13rrirrrr h0 sc kp ik bl go ch bo), (zo4rrir go gR gO (nI lk) gS), (zaI gR cR 8 fR), (zo10ririliiriririr sc aTp (nI ts) aHl (nI nh) ed mi sn aHs (nI n) aWk (nI wz) aBk (nI bz) aFc), (zaR aHs cHs 8 fHs), (zaI aFc cFc 6 fFc)]) [0, 1, 2, 3, 4, 5] (by decide) rfl
      have hK9 := hK.sub (tys' := [(cR, .int), (cHs, .object "MistHeaps$Heap"), (cFc, .int)]) [0, 1, 2] rfl
      exact W.lret (v := (-9223372036854775808)) hx hb hr (fun tQ htQ hWQ => ⟨⟨(-9223372036854775808), (fR, fFc), rfl, by first | exact wh_a (by assumption) | exact wh_c hn8 (by assumption) (by assumption), by rw [htQ]; exact hP9, va_K.moved hWQ.alike hK9, hD9⟩, hS.F htQ⟩) hS.2.2 dX11_where_20
end mg18a
section mg18a
theorem ggX11_steps_X8_areHeaps : GoodIn wsX11_steps wsX8_areHeaps := gga_of 719 rfl rfl rfl
theorem gX11_steps_X8_areHeaps : GoodIn wsX11_steps (wsV RX11 141 RX8 yX8_areHeaps wsX8_areHeaps) := goodIn_app (ggh_of [716, 717, 718, 64] rfl rfl rfl) ggX11_steps_X8_areHeaps
theorem ggX11_steps_X2_link : GoodIn wsX11_steps wsX2_link := gga_of 724 rfl rfl rfl
theorem gX11_steps_X2_link : GoodIn wsX11_steps (wsV RX11 145 RX2 yX2_link wsX2_link) := goodIn_app (ggh_of [721, 722, 723, 66] rfl rfl rfl) ggX11_steps_X2_link
theorem ggX11_steps_X2_fewest : GoodIn wsX11_steps wsX2_fewest := gga_of 757 rfl rfl rfl
theorem gX11_steps_X2_fewest : GoodIn wsX11_steps (wsV RX11 148 RX2 yX2_fewest wsX2_fewest) := goodIn_app (ggh_of [754, 755, 756, 66] rfl rfl rfl) ggX11_steps_X2_fewest
noncomputable def dk18b10pub_cX11_steps_0 : List (Nat × List Nat) := [(0, [42]), (1, [180, 0, 14]), (4, [27]), (5, [28]), (6, [182, 0, 141]), (9, [154, 0, 5]), (12, [2]), (13, [172]), (14, [42]), (15, [180, 0, 35]), (18, [42]), (19, [180, 0, 14]), (22, [42]), (23, [180, 0, 14]), (26, [180, 0, 88]), (29, [182, 0, 145]), (32, [42]), (33, [180, 0, 35]), (36, [27]), (37, [28]), (38, [3]), (39, [182, 0, 148]), (42, [172])]
set_option maxRecDepth 100000 in
theorem dk18b10pub_cX11_steps_0_a : btA cX11_steps dk18b10pub_cX11_steps_0 = true := by decide +kernel
theorem dX11_steps_0 : decode cX11_steps 0 = .ok (.aload_n 0, 1) := bd42 (btAt dk18b10pub_cX11_steps_0_a 0 rfl)
theorem dX11_steps_1 : decode cX11_steps 1 = .ok (.getfield 14, 3) := bd180 (a := 0) (b := 14) (btAt dk18b10pub_cX11_steps_0_a 1 rfl)
theorem dX11_steps_4 : decode cX11_steps 4 = .ok (.iload_n 1, 1) := bd27 (btAt dk18b10pub_cX11_steps_0_a 2 rfl)
theorem dX11_steps_5 : decode cX11_steps 5 = .ok (.iload_n 2, 1) := bd28 (btAt dk18b10pub_cX11_steps_0_a 3 rfl)
theorem dX11_steps_6 : decode cX11_steps 6 = .ok (.invokevirtual 141, 3) := bd182 (a := 0) (b := 141) (btAt dk18b10pub_cX11_steps_0_a 4 rfl)
theorem dX11_steps_9 : decode cX11_steps 9 = .ok (.ifCond .ne 5, 3) := bd154 (a := 0) (b := 5) (btAt dk18b10pub_cX11_steps_0_a 5 rfl)
theorem dX11_steps_12 : decode cX11_steps 12 = .ok (.iconst (-1), 1) := bd2 (btAt dk18b10pub_cX11_steps_0_a 6 rfl)
theorem dX11_steps_13 : decode cX11_steps 13 = .ok (.ireturn, 1) := bd172 (btAt dk18b10pub_cX11_steps_0_a 7 rfl)
theorem dX11_steps_14 : decode cX11_steps 14 = .ok (.aload_n 0, 1) := bd42 (btAt dk18b10pub_cX11_steps_0_a 8 rfl)
theorem dX11_steps_15 : decode cX11_steps 15 = .ok (.getfield 35, 3) := bd180 (a := 0) (b := 35) (btAt dk18b10pub_cX11_steps_0_a 9 rfl)
theorem dX11_steps_18 : decode cX11_steps 18 = .ok (.aload_n 0, 1) := bd42 (btAt dk18b10pub_cX11_steps_0_a 10 rfl)
theorem dX11_steps_19 : decode cX11_steps 19 = .ok (.getfield 14, 3) := bd180 (a := 0) (b := 14) (btAt dk18b10pub_cX11_steps_0_a 11 rfl)
theorem dX11_steps_22 : decode cX11_steps 22 = .ok (.aload_n 0, 1) := bd42 (btAt dk18b10pub_cX11_steps_0_a 12 rfl)
theorem dX11_steps_23 : decode cX11_steps 23 = .ok (.getfield 14, 3) := bd180 (a := 0) (b := 14) (btAt dk18b10pub_cX11_steps_0_a 13 rfl)
theorem dX11_steps_26 : decode cX11_steps 26 = .ok (.getfield 88, 3) := bd180 (a := 0) (b := 88) (btAt dk18b10pub_cX11_steps_0_a 14 rfl)
theorem dX11_steps_29 : decode cX11_steps 29 = .ok (.invokevirtual 145, 3) := bd182 (a := 0) (b := 145) (btAt dk18b10pub_cX11_steps_0_a 15 rfl)
theorem dX11_steps_32 : decode cX11_steps 32 = .ok (.aload_n 0, 1) := bd42 (btAt dk18b10pub_cX11_steps_0_a 16 rfl)
theorem dX11_steps_33 : decode cX11_steps 33 = .ok (.getfield 35, 3) := bd180 (a := 0) (b := 35) (btAt dk18b10pub_cX11_steps_0_a 17 rfl)
theorem dX11_steps_36 : decode cX11_steps 36 = .ok (.iload_n 1, 1) := bd27 (btAt dk18b10pub_cX11_steps_0_a 18 rfl)
theorem dX11_steps_37 : decode cX11_steps 37 = .ok (.iload_n 2, 1) := bd28 (btAt dk18b10pub_cX11_steps_0_a 19 rfl)
theorem dX11_steps_38 : decode cX11_steps 38 = .ok (.iconst 0, 1) := bd3 (btAt dk18b10pub_cX11_steps_0_a 20 rfl)
theorem dX11_steps_39 : decode cX11_steps 39 = .ok (.invokevirtual 148, 3) := bd182 (a := 0) (b := 148) (btAt dk18b10pub_cX11_steps_0_a 21 rfl)
theorem dX11_steps_42 : decode cX11_steps 42 = .ok (.ireturn, 1) := bd172 (btAt dk18b10pub_cX11_steps_0_a 22 rfl)
theorem kc_xSteps_0 : ∀ w ∈ wsX110, w ∈ wsX11_steps := fun w h => List.mem_cons_of_mem _ (gin_wsX110 w h)
theorem kc_xSteps_1 : (.fieldLink RX11 14 "MistHeaps" "scene" "LMistHeaps$Scene;" : Cond) ∈ wsX11_steps := kc_of 328 rfl rfl rfl
theorem kc_xSteps_2 : (.fieldLink RX11 35 "MistHeaps" "goings" "LMistHeaps$Goings;" : Cond) ∈ wsX11_steps := kc_of 332 rfl rfl rfl
theorem kc_xSteps_3 : ∀ w ∈ wsX80, w ∈ wsX11_steps := fun w h => List.mem_cons_of_mem _ (gin_wsX80 w h)
theorem kc_xSteps_4 : (.fieldLink RX11 88 "MistHeaps$Scene" "snow" "I" : Cond) ∈ wsX11_steps := kc_of 166 rfl rfl rfl
set_option maxHeartbeats 4000000 in
set_option maxRecDepth 100000 in
theorem c_xSteps (l : Launch) (dC : Nat → ClassId) (dI : Nat → Nat → Nat) (gd : Nat → Nat)  (kA : Nat)   (h0 : Nat) (sc : Nat) (kp : Nat) (bl : Nat) (go : Nat) (ch : Nat) (bo : Nat) (aTp : Nat) (aHl : Nat) (aHs : Nat) (aWk : Nat) (aBk : Nat) (aFc : Nat) (bW : Nat) (bA : Nat) (bE : Nat) (bC : Nat) (gR : Nat) (gO : Nat) (gS : Nat) (ts : Nat) (nh : Nat) (n : Nat) (wz : Nat) (bz : Nat) (lk : Nat) (cl : Nat) (mi : Int32) (sn : Int32) (sg : Int32) (cdd : Int32) (szz : Int32) (att : Int32) (nmb : Int32) (ik : Int32) (x : Int32) (y : Int32) (ed : Int64) (cHs : ClassId) (cFc : ClassId) (cbW : ClassId) (cbA : ClassId) (cbE : ClassId) (cbC : ClassId) (cR : ClassId) (cO : ClassId) (fFc : Nat → Int32) (fbW : Nat → Int32) (fbA : Nat → Int32) (fbE : Nat → Int32) (fbC : Nat → Int32) (fR : Nat → Int32) (fO : Nat → Int32) (yk : Nat → Int32) (yv : Nat → Int32) (yc : Nat → Int32) (fHs : Nat → Option Nat) (yi : Nat → Nat) (ya : Nat → Nat) (tpv : Value) (cz : List pCla) (sz : Nat) (zhs : ∀ k0, k0 < n → fHs k0 = some (ya k0)) (hn8 : n ≤ 8) (zcl : cl ≤ 10) (zE : ∀ k0, k0 < 10 → ∃ e0 : Nat, e0 ≤ 100 ∧ fbE k0 = nI e0) (zC : ∀ k0, k0 < 100 → okC (fbC k0)) (zyv : ∀ k0, k0 < n → ∃ v0 : Nat, v0 ≤ 9 ∧ yv k0 = nI v0) (zyc : ∀ k0, k0 < n → ∃ v0 : Nat, v0 < 36 ∧ yc k0 = nI v0) (hlk : lk ≤ 8) (zHC : HC cl sg fbW fbA fbE fbC cz ∧ WfC cz) (zyt : ∀ k0, k0 < n → hpT (yi k0) (yk k0)) : Met l yX11_steps wsX11_steps ({ frames := 7, cells := 0, slots := 0, locals := 149 } : Room) (va_Pc [.ref h0, .int x, .int y] (fun U => U.heap.size = sz ∧ va_P (dC, dI) vwCl [(zo13rrirrrr h0 sc kp ik bl go ch bo), (zo4rrir go gR gO (nI lk) gS), (zaI gR cR 8 fR), (zaI gO cO 8 fO), (zo10ririliiriririr sc aTp (nI ts) aHl (nI nh) ed mi sn aHs (nI n) aWk (nI wz) aBk (nI bz) aFc), (zaR aHs cHs 8 fHs), (zaI aFc cFc 6 fFc)] U.heap ∧ va_K (dC, dI) vwCl [(cR, .int), (cO, .int), (cHs, .object "MistHeaps$Heap"), (cFc, .int)] U ∧ va_D (fun _ => True) [(zo13rrirrrr h0 sc kp ik bl go ch bo), (zo4rrir go gR gO (nI lk) gS), (zaI gR cR 8 fR), (zaI gO cO 8 fO), (zo10ririliiriririr sc aTp (nI ts) aHl (nI nh) ed mi sn aHs (nI n) aWk (nI wz) aBk (nI bz) aFc), (zaR aHs cHs 8 fHs), (zaI aFc cFc 6 fFc)] ∧ Gl gd (va_A [(zo13rrirrrr h0 sc kp ik bl go ch bo), (zo4rrir go gR gO (nI lk) gS), (zaI gR cR 8 fR), (zaI gO cO 8 fO), (zo10ririliiriririr sc aTp (nI ts) aHl (nI nh) ed mi sn aHs (nI n) aWk (nI wz) aBk (nI bz) aFc), (zaR aHs cHs 8 fHs), (zaI aFc cFc 6 fFc)] sz) U ∧ Gw (va_A [(zo13rrirrrr h0 sc kp ik bl go ch bo), (zo4rrir go gR gO (nI lk) gS), (zaI gR cR 8 fR), (zaI gO cO 8 fO), (zo10ririliiriririr sc aTp (nI ts) aHl (nI nh) ed mi sn aHs (nI n) aWk (nI wz) aBk (nI bz) aFc), (zaR aHs cHs 8 fHs), (zaI aFc cFc 6 fFc)] sz) U ∧ Gn kA (va_A [(zo13rrirrrr h0 sc kp ik bl go ch bo), (zo4rrir go gR gO (nI lk) gS), (zaI gR cR 8 fR), (zaI gO cO 8 fO), (zo10ririliiriririr sc aTp (nI ts) aHl (nI nh) ed mi sn aHs (nI n) aWk (nI wz) aBk (nI bz) aFc), (zaR aHs cHs 8 fHs), (zaI aFc cFc 6 fFc)] sz) U ∧ Fz dC dI [(zo7iirrrriviii aHl sg (nI cl) bW bA bE bC cdd tpv szz att nmb), (zaI bW cbW 10 fbW), (zaI bA cbA 10 fbA), (zaI bE cbE 10 fbE), (zaI bC cbC 100 fbC)] [(cbW, .int), (cbA, .int), (cbE, .int), (cbC, .int)] (va_A [(zo13rrirrrr h0 sc kp ik bl go ch bo), (zo4rrir go gR gO (nI lk) gS), (zaI gR cR 8 fR), (zaI gO cO 8 fO), (zo10ririliiriririr sc aTp (nI ts) aHl (nI nh) ed mi sn aHs (nI n) aWk (nI wz) aBk (nI bz) aFc), (zaR aHs cHs 8 fHs), (zaI aFc cFc 6 fFc)] sz) U ∧ Hs dC dI n yi ya yk yv yc (va_A [(zo13rrirrrr h0 sc kp ik bl go ch bo), (zo4rrir go gR gO (nI lk) gS), (zaI gR cR 8 fR), (zaI gO cO 8 fO), (zo10ririliiriririr sc aTp (nI ts) aHl (nI nh) ed mi sn aHs (nI n) aWk (nI wz) aBk (nI bz) aFc), (zaR aHs cHs 8 fHs), (zaI aFc cFc 6 fFc)] sz) U)) (va_Qi (fun (r : Int32) (u : (Nat) × (Nat → Int32) × (Nat → Int32) × (Nat → Int32)) => match u with | (lk9, fR9, fO9, fFc9) => lk9 ≤ 8 ∧ r = stR_ n yk yv yc cz mi sn x y) (fun (u : (Nat) × (Nat → Int32) × (Nat → Int32) × (Nat → Int32)) (t : State) => match u with | (lk9, fR9, fO9, fFc9) => va_P (dC, dI) vwCl [(zo13rrirrrr h0 sc kp ik bl go ch bo), (zo4rrir go gR gO (nI lk9) gS), (zaI gR cR 8 fR9), (zaI gO cO 8 fO9), (zo10ririliiriririr sc aTp (nI ts) aHl (nI nh) ed mi sn aHs (nI n) aWk (nI wz) aBk (nI bz) aFc), (zaR aHs cHs 8 fHs), (zaI aFc cFc 6 fFc9)] t.heap ∧ va_K (dC, dI) vwCl [(cR, .int), (cO, .int), (cHs, .object "MistHeaps$Heap"), (cFc, .int)] t ∧ va_D (va_A [(zo13rrirrrr h0 sc kp ik bl go ch bo), (zo4rrir go gR gO (nI lk) gS), (zaI gR cR 8 fR), (zaI gO cO 8 fO), (zo10ririliiriririr sc aTp (nI ts) aHl (nI nh) ed mi sn aHs (nI n) aWk (nI wz) aBk (nI bz) aFc), (zaR aHs cHs 8 fHs), (zaI aFc cFc 6 fFc)] sz) [(zo13rrirrrr h0 sc kp ik bl go ch bo), (zo4rrir go gR gO (nI lk9) gS), (zaI gR cR 8 fR9), (zaI gO cO 8 fO9), (zo10ririliiriririr sc aTp (nI ts) aHl (nI nh) ed mi sn aHs (nI n) aWk (nI wz) aBk (nI bz) aFc), (zaR aHs cHs 8 fHs), (zaI aFc cFc 6 fFc9)]) (va_A [(zo13rrirrrr h0 sc kp ik bl go ch bo), (zo4rrir go gR gO (nI lk) gS), (zaI gR cR 8 fR), (zaI gO cO 8 fO), (zo10ririliiriririr sc aTp (nI ts) aHl (nI nh) ed mi sn aHs (nI n) aWk (nI wz) aBk (nI bz) aFc), (zaR aHs cHs 8 fHs), (zaI aFc cFc 6 fFc)] sz)) 0 0 (va_A [(zo13rrirrrr h0 sc kp ik bl go ch bo), (zo4rrir go gR gO (nI lk) gS), (zaI gR cR 8 fR), (zaI gO cO 8 fO), (zo10ririliiriririr sc aTp (nI ts) aHl (nI nh) ed mi sn aHs (nI n) aWk (nI wz) aBk (nI bz) aFc), (zaR aHs cHs 8 fHs), (zaI aFc cFc 6 fFc)] sz) := by
  refine met_ofQ (cc := cX11_steps) (maxL := 3) (ret := (some .int)) (by decide) rfl ?_
  intro p e s m args below meth c s₁ Q B hml hv hQ
  obtain ⟨rfl, hsz, hP, hK, hD0, hG, hW_, hN_, hZ, hH_⟩ := hv
  have hx := B.exec
  have hb := B.bytes
  have hr := B.returns
  have hts := atoms_spec (ws := wsX11_steps) B.pre
  have hown : s.vm.findClass RX11 = some m.cls := findClass_of_methodNamed B.named
  have hlocks := B.notSynchronized
  subst hsz
  have hD := hD0.self (sz := s.heap.size)
  generalize hAe : va_A [(zo13rrirrrr h0 sc kp ik bl go ch bo), (zo4rrir go gR gO (nI lk) gS), (zaI gR cR 8 fR), (zaI gO cO 8 fO), (zo10ririliiriririr sc aTp (nI ts) aHl (nI nh) ed mi sn aHs (nI n) aWk (nI wz) aBk (nI bz) aFc), (zaR aHs cHs 8 fHs), (zaI aFc cFc 6 fFc)] s.heap.size = A at hD hQ hG hW_ hN_ hZ hH_ ⊢
  have hA : ∀ q : Nat, s.heap.size ≤ q → A q := fun q h => by rw [← hAe]; exact Or.inr h
  have hS : va_S A s.heap s.heap [] := va_S.rf
  have hl := lv_entry [.ref h0, .int x, .int y] (n := 3) (Nat.le_of_ble_eq_true rfl)
  rw [lg_entry_eq]
  generalize (lg_sl [.ref h0, .int x, .int y] ++ List.replicate (3 - (lg_sl [.ref h0, .int x, .int y]).length) Slot.unset).toArray = ls at hl ⊢
  generalize hag : ([.ref h0, .int x, .int y] : List Value).toArray = args at hts hQ ⊢
  have hl : lv_has ls 3 [(0, .ref h0), (1, .int x), (2, .int y)] := hl
  obtain ⟨H, hH⟩ : ∃ H : Heap, H = s.heap := ⟨_, rfl⟩
  rw [← hH] at hP
  rw [← hH]
  have hS : va_S A s.heap H [] := by rw [hH]; exact hS
  obtain ⟨locs, hlo⟩ : ∃ L : List Loc, L = [] := ⟨_, rfl⟩
  rw [← hlo] at hS
  rw [← hlo]
  clear hH hlo
  refine lv_aload_n hx hb dX11_steps_0 rfl (lv_at hl 0 rfl) ?_
  refine va_get (D := (dC, dI)) (ci := 13) (v := .ref sc) (C := RX11) (T := TX11) (N := 7) hx hb hts kc_xSteps_0 hown hK hP 0 rfl rfl 0 (by decide) (hts (.fieldLink RX11 14 "MistHeaps" "scene" "LMistHeaps$Scene;") kc_xSteps_1) (fun _ h9 => h9) rfl dX11_steps_1 ?_
  refine lv_iload_n hx hb dX11_steps_4 rfl (lv_at hl 1 rfl) ?_
  refine lv_iload_n hx hb dX11_steps_5 rfl (lv_at hl 2 rfl) ?_
  have hPc := hP.sub (ws' := [(zo10ririliiriririr sc aTp (nI ts) aHl (nI nh) ed mi sn aHs (nI n) aWk (nI wz) aBk (nI bz) aFc), (zaR aHs cHs 8 fHs)]) [4, 5] rfl
  have hKc := hK.sub (tys' := [(cHs, .object "MistHeaps$Heap")]) [2] rfl
  refine vp_callSi (va_runV (As := [.int x, .int y]) (rest := []) ⟨hx, hb, hml, hown, hts⟩ (c_areHeaps l dC dI sc aTp aHl aHs aWk aBk aFc ts nh n wz bz mi sn x y ed cHs fHs ya (zhs) (hn8)) (cwV 2 hts gX11_steps_X8_areHeaps rfl rfl rfl hd_yX8_areHeaps ⟨Nat.le_of_ble_eq_true rfl, Nat.le_of_ble_eq_true rfl⟩) ⟨fun a U g mk q => by obtain ⟨q0, qP, qK⟩ := q; exact ⟨q0, mvP g mk a qP, mvK g mk a qK⟩, va_recv hK hP (ci := 10) (q := (RX8, TX8, 14)) (q0 := 4) rfl rfl, fun U hU hW => ⟨rfl, by rw [hU]; exact hPc, va_K.moved hW.alike hKc⟩⟩ rfl rfl hl.1 rfl (lv_room (Nat.le_of_ble_eq_true rfl)) dX11_steps_6 ⟨Nat.le_of_ble_eq_true rfl, Nat.le_of_ble_eq_true rfl⟩).run (fun r_1 hw_2 => ?_)
  rcases hw_2 with ⟨rfl, j1, j2, hj1, hj2, rfl, rfl⟩ | ⟨rfl, hno⟩
  · skip
    refine lv_if_ne (tgt := 14) hx hb dX11_steps_9 (by decide) (fun _ => ?_) (fun c_3 => absurd c_3 (by decide))
    refine lv_aload_n hx hb dX11_steps_14 rfl (lv_at hl 0 rfl) ?_
    refine va_get (D := (dC, dI)) (ci := 13) (v := .ref go) (C := RX11) (T := TX11) (N := 7) hx hb hts kc_xSteps_0 hown hK hP 0 rfl rfl 4 (by decide) (hts (.fieldLink RX11 35 "MistHeaps" "goings" "LMistHeaps$Goings;") kc_xSteps_2) (fun _ h9 => h9) rfl dX11_steps_15 ?_
    refine lv_aload_n hx hb dX11_steps_18 rfl (lv_at hl 0 rfl) ?_
    refine va_get (D := (dC, dI)) (ci := 13) (v := .ref sc) (C := RX11) (T := TX11) (N := 7) hx hb hts kc_xSteps_0 hown hK hP 0 rfl rfl 0 (by decide) (hts (.fieldLink RX11 14 "MistHeaps" "scene" "LMistHeaps$Scene;") kc_xSteps_1) (fun _ h9 => h9) rfl dX11_steps_19 ?_
    refine lv_aload_n hx hb dX11_steps_22 rfl (lv_at hl 0 rfl) ?_
    refine va_get (D := (dC, dI)) (ci := 13) (v := .ref sc) (C := RX11) (T := TX11) (N := 7) hx hb hts kc_xSteps_0 hown hK hP 0 rfl rfl 0 (by decide) (hts (.fieldLink RX11 14 "MistHeaps" "scene" "LMistHeaps$Scene;") kc_xSteps_1) (fun _ h9 => h9) rfl dX11_steps_23 ?_
    refine va_get (D := (dC, dI)) (ci := 10) (v := .int sn) (C := RX8) (T := TX8) (N := 14) hx hb hts kc_xSteps_3 hown hK hP 4 rfl rfl 6 (by decide) (hts (.fieldLink RX11 88 "MistHeaps$Scene" "snow" "I") kc_xSteps_4) (fun _ h9 => h9) rfl dX11_steps_26 ?_
    have hPc := hP.sub (ws' := [(zo4rrir go gR gO (nI lk) gS), (zaI gR cR 8 fR), (zaI gO cO 8 fO), (zo10ririliiriririr sc aTp (nI ts) aHl (nI nh) ed mi sn aHs (nI n) aWk (nI wz) aBk (nI bz) aFc), (zaR aHs cHs 8 fHs), (zaI aFc cFc 6 fFc)]) [1, 2, 3, 4, 5, 6] rfl
    have hDc := hD.sub (ws' := [(zo4rrir go gR gO (nI lk) gS), (zaI gR cR 8 fR), (zaI gO cO 8 fO), (zo10ririliiriririr sc aTp (nI ts) aHl (nI nh) ed mi sn aHs (nI n) aWk (nI wz) aBk (nI bz) aFc), (zaR aHs cHs 8 fHs), (zaI aFc cFc 6 fFc)]) [1, 2, 3, 4, 5, 6] (by decide) rfl
    have hKc := hK.sub (tys' := [(cR, .int), (cO, .int), (cHs, .object "MistHeaps$Heap"), (cFc, .int)]) [0, 1, 2, 3] rfl
    have hFc := va_free (wc := [(zo4rrir go gR gO (nI lk) gS), (zaI gR cR 8 fR), (zaI gO cO 8 fO), (zo10ririliiriririr sc aTp (nI ts) aHl (nI nh) ed mi sn aHs (nI n) aWk (nI wz) aBk (nI bz) aFc), (zaR aHs cHs 8 fHs), (zaI aFc cFc 6 fFc)]) hD hS hA [1, 2, 3, 4, 5, 6] rfl
    refine va_callv (va_runV (As := [.ref sc, .int sn]) (rest := []) ⟨hx, hb, hml, hown, hts⟩ (c_link l dC dI gd  kA   sc go aTp aHl aHs aWk aBk aFc bW bA bE bC gR gO gS ts nh n wz bz lk cl mi sn sg cdd szz att nmb sn ed cHs cFc cbW cbA cbE cbC cR cO fFc fbW fbA fbE fbC fR fO yk yv yc fHs yi ya tpv cz H.size (zhs) (hn8) (zcl) (zE) (zC) (zyv) (zyc) (zHC) (zyt)) (cwV 2 hts gX11_steps_X2_link rfl rfl rfl hd_yX2_link ⟨Nat.le_of_ble_eq_true rfl, Nat.le_of_ble_eq_true rfl⟩) ⟨fun a U g mk q => by obtain ⟨q0, q1, qP, qK, qD, qhG, qhW_, qhN_, qhZ, qhH_⟩ := q; exact ⟨q0, mvz g mk a q1, mvP g mk a qP, mvK g mk a qK, qD, qhG.mv g mk a, qhW_.mv g mk a, qhN_.mv g mk a, qhZ.mv g mk a, qhH_.mv g mk a⟩, va_recv hK hP (ci := 4) (q := (RX2, TX2, 4)) (q0 := 1) rfl rfl, fun U hU hW => ⟨rfl, by rw [hU], by rw [hU]; exact hPc, va_K.moved hW.alike hKc, hDc.weaken (fun _ _ _ _ => trivial), hG.call hS hU hW (fun q h => hFc q h), hW_.call hS hU hW (fun q h => hFc q h), hN_.call hS hU hW (fun q h => hFc q h), (hZ.sub [0, 1, 2, 3, 4] [0, 1, 2, 3] rfl rfl).call hS hU hW (fun q h => hFc q h), hH_.call hS hU hW (fun q h => hFc q h)⟩⟩ rfl rfl hl.1 rfl (lv_room (Nat.le_of_ble_eq_true rfl)) dX11_steps_29 ⟨Nat.le_of_ble_eq_true rfl, Nat.le_of_ble_eq_true rfl⟩) hS (fun q _ h => hFc q h) hFc (fun u tC H1 locs htC hvm hw_5 hB hz1 hk1 hS => ?_)
    obtain ⟨lk9_6, fR9_7, fO9_8, fFc9_9⟩ := u
    try dsimp only at hw_5 hB
    obtain ⟨hP1, hK1, hD1⟩ := hB
    rw [htC] at hP1
    have hK1 := va_K.moved hvm.symm hK1
    obtain ⟨hP, hD⟩ := va_join (wr := [(zo13rrirrrr h0 sc kp ik bl go ch bo)]) (w1 := [(zo4rrir go gR gO (nI lk9_6) gS), (zaI gR cR 8 fR9_7), (zaI gO cO 8 fO9_8), (zo10ririliiriririr sc aTp (nI ts) aHl (nI nh) ed mi sn aHs (nI n) aWk (nI wz) aBk (nI bz) aFc), (zaR aHs cHs 8 fHs), (zaI aFc cFc 6 fFc9_9)]) hP hD [1, 2, 3, 4, 5, 6] [0] rfl rfl (by decide) (by decide) hk1 hFc hP1 hD1
    have hK := (hK.sub (tys' := []) [] rfl).app hK1
    generalize H1 = H at hP hS ⊢
    have hP : va_P (dC, dI) vwCl [(zo13rrirrrr h0 sc kp ik bl go ch bo), (zo4rrir go gR gO (nI lk9_6) gS), (zaI gR cR 8 fR9_7), (zaI gO cO 8 fO9_8), (zo10ririliiriririr sc aTp (nI ts) aHl (nI nh) ed mi sn aHs (nI n) aWk (nI wz) aBk (nI bz) aFc), (zaR aHs cHs 8 fHs), (zaI aFc cFc 6 fFc9_9)] H := hP
    have hD : va_D A [(zo13rrirrrr h0 sc kp ik bl go ch bo), (zo4rrir go gR gO (nI lk9_6) gS), (zaI gR cR 8 fR9_7), (zaI gO cO 8 fO9_8), (zo10ririliiriririr sc aTp (nI ts) aHl (nI nh) ed mi sn aHs (nI n) aWk (nI wz) aBk (nI bz) aFc), (zaR aHs cHs 8 fHs), (zaI aFc cFc 6 fFc9_9)] := hD
    have hK : va_K (dC, dI) vwCl [(cR, .int), (cO, .int), (cHs, .object "MistHeaps$Heap"), (cFc, .int)] s := hK
    obtain ⟨elk, hlR, hlO⟩ := hw_5
    obtain rfl := elk.symm
    refine lv_aload_n hx hb dX11_steps_32 rfl (lv_at hl 0 rfl) ?_
    refine va_get (D := (dC, dI)) (ci := 13) (v := .ref go) (C := RX11) (T := TX11) (N := 7) hx hb hts kc_xSteps_0 hown hK hP 0 rfl rfl 4 (by decide) (hts (.fieldLink RX11 35 "MistHeaps" "goings" "LMistHeaps$Goings;") kc_xSteps_2) (fun _ h9 => h9) rfl dX11_steps_33 ?_
    refine lv_iload_n hx hb dX11_steps_36 rfl (lv_at hl 1 rfl) ?_
    refine lv_iload_n hx hb dX11_steps_37 rfl (lv_at hl 2 rfl) ?_
    refine lv_iconst (v := 0) hx hb dX11_steps_38 (by decide) ?_
    have hPc := hP.sub (ws' := [(zo4rrir go gR gO (nI n) gS), (zaI gO cO 8 fO9_8)]) [1, 3] rfl
    have hKc := hK.sub (tys' := [(cO, .int)]) [1] rfl
    refine vp_callSi (va_runV (As := [.int (nI j1), .int (nI j2), .int 0]) (rest := []) ⟨hx, hb, hml, hown, hts⟩ (c_fewest l dC dI go gR gO gS n (nI j1) (nI j2) 0 cO fO9_8 (by omega)) (cwV 3 hts gX11_steps_X2_fewest rfl rfl rfl hd_yX2_fewest ⟨Nat.le_of_ble_eq_true rfl, Nat.le_of_ble_eq_true rfl⟩) ⟨fun a U g mk q => by obtain ⟨q0, qP, qK⟩ := q; exact ⟨q0, mvP g mk a qP, mvK g mk a qK⟩, va_recv hK hP (ci := 4) (q := (RX2, TX2, 4)) (q0 := 1) rfl rfl, fun U hU hW => ⟨rfl, by rw [hU]; exact hPc, va_K.moved hW.alike hKc⟩⟩ rfl rfl hl.1 rfl (lv_room (Nat.le_of_ble_eq_true rfl)) dX11_steps_39 ⟨Nat.le_of_ble_eq_true rfl, Nat.le_of_ble_eq_true rfl⟩).run (fun r_10 hw_11 => ?_)
    obtain rfl := hw_11
    rw [hQ]
    have hP9 := hP.sub (ws' := [(zo13rrirrrr h0 sc kp ik bl go ch bo), (zo4rrir go gR gO (nI n) gS), (zaI gR cR 8 fR9_7), (zaI gO cO 8 fO9_8), (zo10ririliiriririr sc aTp (nI ts) aHl (nI nh) ed mi sn aHs (nI n) aWk (nI wz) aBk (nI bz) aFc), (zaR aHs cHs 8 fHs), (zaI aFc cFc 6 fFc9_9)]) [0, 1, 2, 3, 4, 5, 6] rfl
    have hD9 := hD.sub (ws' := [(zo13rrirrrr h0 sc kp ik bl go ch bo), (zo4rrir go gR gO (nI n) gS), (zaI gR cR 8 fR9_7), (zaI gO cO 8 fO9_8), (zo10ririliiriririr sc aTp (nI ts) aHl (nI nh) ed mi sn aHs (nI n) aWk (nI wz) aBk (nI bz) aFc), (zaR aHs cHs 8 fHs), (zaI aFc cFc 6 fFc9_9)]) [0, 1, 2, 3, 4, 5, 6] (by decide) rfl
    have hK9 := hK.sub (tys' := [(cR, .int), (cO, .int), (cHs, .object "MistHeaps$Heap"), (cFc, .int)]) [0, 1, 2, 3] rfl
    exact W.iret (v := fwR fO9_8 n (nI j1) (nI j2) 0) hx hb hr (fun tQ htQ hWQ => ⟨⟨(fwR fO9_8 n (nI j1) (nI j2) 0), (n, fR9_7, fO9_8, fFc9_9), rfl, ⟨by omega, st_x hn8 hj1 hj2 hlO.B⟩, by rw [htQ]; exact hP9, va_K.moved hWQ.alike hK9, hD9⟩, hS.F htQ⟩) hS.2.2 dX11_steps_42
  · skip
    refine lv_if_ne (tgt := 14) hx hb dX11_steps_9 (by decide) (fun c_12 => absurd c_12 (by decide)) (fun _ => ?_)
    refine lv_iconst (v := (-1)) hx hb dX11_steps_12 (by decide) ?_
    rw [hQ]
    have hP9 := hP.sub (ws' := [(zo13rrirrrr h0 sc kp ik bl go ch bo), (zo4rrir go gR gO (nI lk) gS), (zaI gR cR 8 fR), (zaI gO cO 8 fO), (zo10ririliiriririr sc aTp (nI ts) aHl (nI nh) ed mi sn aHs (nI n) aWk (nI wz) aBk (nI bz) aFc), (zaR aHs cHs 8 fHs), (zaI aFc cFc 6 fFc)]) [0, 1, 2, 3, 4, 5, 6] rfl
    have hD9 := hD.sub (ws' := [(zo13rrirrrr h0 sc kp ik bl go ch bo), (zo4rrir go gR gO (nI lk) gS), (zaI gR cR 8 fR), (zaI gO cO 8 fO), (zo10ririliiriririr sc aTp (nI ts) aHl (nI nh) ed mi sn aHs (nI n) aWk (nI wz) aBk (nI bz) aFc), (zaR aHs cHs 8 fHs), (zaI aFc cFc 6 fFc)]) [0, 1, 2, 3, 4, 5, 6] (by decide) rfl
    have hK9 := hK.sub (tys' := [(cR, .int), (cO, .int), (cHs, .object "MistHeaps$Heap"), (cFc, .int)]) [0, 1, 2, 3] rfl
    exact W.iret (v := (-1)) hx hb hr (fun tQ htQ hWQ => ⟨⟨(-1), (lk, fR, fO, fFc), rfl, ⟨hlk, two_no hno⟩, by rw [htQ]; exact hP9, va_K.moved hWQ.alike hK9, hD9⟩, hS.F htQ⟩) hS.2.2 dX11_steps_13
end mg18a
section mg18a
theorem ggX11_via_X8_areHeaps : GoodIn wsX11_via wsX8_areHeaps := gga_of 719 rfl rfl rfl
theorem gX11_via_X8_areHeaps : GoodIn wsX11_via (wsV RX11 141 RX8 yX8_areHeaps wsX8_areHeaps) := goodIn_app (ggh_of [716, 717, 718, 64] rfl rfl rfl) ggX11_via_X8_areHeaps
theorem ggX11_via_X2_link : GoodIn wsX11_via wsX2_link := gga_of 724 rfl rfl rfl
theorem gX11_via_X2_link : GoodIn wsX11_via (wsV RX11 145 RX2 yX2_link wsX2_link) := goodIn_app (ggh_of [721, 722, 723, 66] rfl rfl rfl) ggX11_via_X2_link
theorem ggX11_via_X2_first : GoodIn wsX11_via wsX2_first := gga_of 769 rfl rfl rfl
theorem gX11_via_X2_first : GoodIn wsX11_via (wsV RX11 152 RX2 yX2_first wsX2_first) := goodIn_app (ggh_of [766, 767, 768, 66] rfl rfl rfl) ggX11_via_X2_first
noncomputable def dk18b11pub_cX11_via_0 : List (Nat × List Nat) := [(0, [42]), (1, [180, 0, 14]), (4, [27]), (5, [28]), (6, [182, 0, 141]), (9, [154, 0, 5]), (12, [2]), (13, [172]), (14, [42]), (15, [180, 0, 35]), (18, [42]), (19, [180, 0, 14]), (22, [42]), (23, [180, 0, 14]), (26, [180, 0, 88]), (29, [182, 0, 145]), (32, [42]), (33, [180, 0, 35]), (36, [27]), (37, [28]), (38, [182, 0, 152]), (41, [172])]
set_option maxRecDepth 100000 in
theorem dk18b11pub_cX11_via_0_a : btA cX11_via dk18b11pub_cX11_via_0 = true := by decide +kernel
theorem dX11_via_0 : decode cX11_via 0 = .ok (.aload_n 0, 1) := bd42 (btAt dk18b11pub_cX11_via_0_a 0 rfl)
theorem dX11_via_1 : decode cX11_via 1 = .ok (.getfield 14, 3) := bd180 (a := 0) (b := 14) (btAt dk18b11pub_cX11_via_0_a 1 rfl)
theorem dX11_via_4 : decode cX11_via 4 = .ok (.iload_n 1, 1) := bd27 (btAt dk18b11pub_cX11_via_0_a 2 rfl)
theorem dX11_via_5 : decode cX11_via 5 = .ok (.iload_n 2, 1) := bd28 (btAt dk18b11pub_cX11_via_0_a 3 rfl)
theorem dX11_via_6 : decode cX11_via 6 = .ok (.invokevirtual 141, 3) := bd182 (a := 0) (b := 141) (btAt dk18b11pub_cX11_via_0_a 4 rfl)
theorem dX11_via_9 : decode cX11_via 9 = .ok (.ifCond .ne 5, 3) := bd154 (a := 0) (b := 5) (btAt dk18b11pub_cX11_via_0_a 5 rfl)
theorem dX11_via_12 : decode cX11_via 12 = .ok (.iconst (-1), 1) := bd2 (btAt dk18b11pub_cX11_via_0_a 6 rfl)
theorem dX11_via_13 : decode cX11_via 13 = .ok (.ireturn, 1) := bd172 (btAt dk18b11pub_cX11_via_0_a 7 rfl)
theorem dX11_via_14 : decode cX11_via 14 = .ok (.aload_n 0, 1) := bd42 (btAt dk18b11pub_cX11_via_0_a 8 rfl)
theorem dX11_via_15 : decode cX11_via 15 = .ok (.getfield 35, 3) := bd180 (a := 0) (b := 35) (btAt dk18b11pub_cX11_via_0_a 9 rfl)
theorem dX11_via_18 : decode cX11_via 18 = .ok (.aload_n 0, 1) := bd42 (btAt dk18b11pub_cX11_via_0_a 10 rfl)
theorem dX11_via_19 : decode cX11_via 19 = .ok (.getfield 14, 3) := bd180 (a := 0) (b := 14) (btAt dk18b11pub_cX11_via_0_a 11 rfl)
theorem dX11_via_22 : decode cX11_via 22 = .ok (.aload_n 0, 1) := bd42 (btAt dk18b11pub_cX11_via_0_a 12 rfl)
theorem dX11_via_23 : decode cX11_via 23 = .ok (.getfield 14, 3) := bd180 (a := 0) (b := 14) (btAt dk18b11pub_cX11_via_0_a 13 rfl)
theorem dX11_via_26 : decode cX11_via 26 = .ok (.getfield 88, 3) := bd180 (a := 0) (b := 88) (btAt dk18b11pub_cX11_via_0_a 14 rfl)
theorem dX11_via_29 : decode cX11_via 29 = .ok (.invokevirtual 145, 3) := bd182 (a := 0) (b := 145) (btAt dk18b11pub_cX11_via_0_a 15 rfl)
theorem dX11_via_32 : decode cX11_via 32 = .ok (.aload_n 0, 1) := bd42 (btAt dk18b11pub_cX11_via_0_a 16 rfl)
theorem dX11_via_33 : decode cX11_via 33 = .ok (.getfield 35, 3) := bd180 (a := 0) (b := 35) (btAt dk18b11pub_cX11_via_0_a 17 rfl)
theorem dX11_via_36 : decode cX11_via 36 = .ok (.iload_n 1, 1) := bd27 (btAt dk18b11pub_cX11_via_0_a 18 rfl)
theorem dX11_via_37 : decode cX11_via 37 = .ok (.iload_n 2, 1) := bd28 (btAt dk18b11pub_cX11_via_0_a 19 rfl)
theorem dX11_via_38 : decode cX11_via 38 = .ok (.invokevirtual 152, 3) := bd182 (a := 0) (b := 152) (btAt dk18b11pub_cX11_via_0_a 20 rfl)
theorem dX11_via_41 : decode cX11_via 41 = .ok (.ireturn, 1) := bd172 (btAt dk18b11pub_cX11_via_0_a 21 rfl)
theorem kc_xVia_0 : ∀ w ∈ wsX110, w ∈ wsX11_via := fun w h => List.mem_cons_of_mem _ (gin_wsX110 w h)
theorem kc_xVia_1 : (.fieldLink RX11 14 "MistHeaps" "scene" "LMistHeaps$Scene;" : Cond) ∈ wsX11_via := kc_of 328 rfl rfl rfl
theorem kc_xVia_2 : (.fieldLink RX11 35 "MistHeaps" "goings" "LMistHeaps$Goings;" : Cond) ∈ wsX11_via := kc_of 332 rfl rfl rfl
theorem kc_xVia_3 : ∀ w ∈ wsX80, w ∈ wsX11_via := fun w h => List.mem_cons_of_mem _ (gin_wsX80 w h)
theorem kc_xVia_4 : (.fieldLink RX11 88 "MistHeaps$Scene" "snow" "I" : Cond) ∈ wsX11_via := kc_of 166 rfl rfl rfl
set_option maxHeartbeats 4000000 in
set_option maxRecDepth 100000 in
theorem c_xVia (l : Launch) (dC : Nat → ClassId) (dI : Nat → Nat → Nat) (gd : Nat → Nat)  (kA : Nat)   (h0 : Nat) (sc : Nat) (kp : Nat) (bl : Nat) (go : Nat) (ch : Nat) (bo : Nat) (aTp : Nat) (aHl : Nat) (aHs : Nat) (aWk : Nat) (aBk : Nat) (aFc : Nat) (bW : Nat) (bA : Nat) (bE : Nat) (bC : Nat) (gR : Nat) (gO : Nat) (gS : Nat) (ts : Nat) (nh : Nat) (n : Nat) (wz : Nat) (bz : Nat) (lk : Nat) (cl : Nat) (mi : Int32) (sn : Int32) (sg : Int32) (cdd : Int32) (szz : Int32) (att : Int32) (nmb : Int32) (ik : Int32) (x : Int32) (y : Int32) (ed : Int64) (cHs : ClassId) (cFc : ClassId) (cbW : ClassId) (cbA : ClassId) (cbE : ClassId) (cbC : ClassId) (cR : ClassId) (cO : ClassId) (fFc : Nat → Int32) (fbW : Nat → Int32) (fbA : Nat → Int32) (fbE : Nat → Int32) (fbC : Nat → Int32) (fR : Nat → Int32) (fO : Nat → Int32) (yk : Nat → Int32) (yv : Nat → Int32) (yc : Nat → Int32) (fHs : Nat → Option Nat) (yi : Nat → Nat) (ya : Nat → Nat) (tpv : Value) (cz : List pCla) (sz : Nat) (zhs : ∀ k0, k0 < n → fHs k0 = some (ya k0)) (hn8 : n ≤ 8) (zcl : cl ≤ 10) (zE : ∀ k0, k0 < 10 → ∃ e0 : Nat, e0 ≤ 100 ∧ fbE k0 = nI e0) (zC : ∀ k0, k0 < 100 → okC (fbC k0)) (zyv : ∀ k0, k0 < n → ∃ v0 : Nat, v0 ≤ 9 ∧ yv k0 = nI v0) (zyc : ∀ k0, k0 < n → ∃ v0 : Nat, v0 < 36 ∧ yc k0 = nI v0) (hlk : lk ≤ 8) (zHC : HC cl sg fbW fbA fbE fbC cz ∧ WfC cz) (zyt : ∀ k0, k0 < n → hpT (yi k0) (yk k0)) : Met l yX11_via wsX11_via ({ frames := 7, cells := 0, slots := 0, locals := 149 } : Room) (va_Pc [.ref h0, .int x, .int y] (fun U => U.heap.size = sz ∧ va_P (dC, dI) vwCl [(zo13rrirrrr h0 sc kp ik bl go ch bo), (zo4rrir go gR gO (nI lk) gS), (zaI gR cR 8 fR), (zaI gO cO 8 fO), (zo10ririliiriririr sc aTp (nI ts) aHl (nI nh) ed mi sn aHs (nI n) aWk (nI wz) aBk (nI bz) aFc), (zaR aHs cHs 8 fHs), (zaI aFc cFc 6 fFc)] U.heap ∧ va_K (dC, dI) vwCl [(cR, .int), (cO, .int), (cHs, .object "MistHeaps$Heap"), (cFc, .int)] U ∧ va_D (fun _ => True) [(zo13rrirrrr h0 sc kp ik bl go ch bo), (zo4rrir go gR gO (nI lk) gS), (zaI gR cR 8 fR), (zaI gO cO 8 fO), (zo10ririliiriririr sc aTp (nI ts) aHl (nI nh) ed mi sn aHs (nI n) aWk (nI wz) aBk (nI bz) aFc), (zaR aHs cHs 8 fHs), (zaI aFc cFc 6 fFc)] ∧ Gl gd (va_A [(zo13rrirrrr h0 sc kp ik bl go ch bo), (zo4rrir go gR gO (nI lk) gS), (zaI gR cR 8 fR), (zaI gO cO 8 fO), (zo10ririliiriririr sc aTp (nI ts) aHl (nI nh) ed mi sn aHs (nI n) aWk (nI wz) aBk (nI bz) aFc), (zaR aHs cHs 8 fHs), (zaI aFc cFc 6 fFc)] sz) U ∧ Gw (va_A [(zo13rrirrrr h0 sc kp ik bl go ch bo), (zo4rrir go gR gO (nI lk) gS), (zaI gR cR 8 fR), (zaI gO cO 8 fO), (zo10ririliiriririr sc aTp (nI ts) aHl (nI nh) ed mi sn aHs (nI n) aWk (nI wz) aBk (nI bz) aFc), (zaR aHs cHs 8 fHs), (zaI aFc cFc 6 fFc)] sz) U ∧ Gn kA (va_A [(zo13rrirrrr h0 sc kp ik bl go ch bo), (zo4rrir go gR gO (nI lk) gS), (zaI gR cR 8 fR), (zaI gO cO 8 fO), (zo10ririliiriririr sc aTp (nI ts) aHl (nI nh) ed mi sn aHs (nI n) aWk (nI wz) aBk (nI bz) aFc), (zaR aHs cHs 8 fHs), (zaI aFc cFc 6 fFc)] sz) U ∧ Fz dC dI [(zo7iirrrriviii aHl sg (nI cl) bW bA bE bC cdd tpv szz att nmb), (zaI bW cbW 10 fbW), (zaI bA cbA 10 fbA), (zaI bE cbE 10 fbE), (zaI bC cbC 100 fbC)] [(cbW, .int), (cbA, .int), (cbE, .int), (cbC, .int)] (va_A [(zo13rrirrrr h0 sc kp ik bl go ch bo), (zo4rrir go gR gO (nI lk) gS), (zaI gR cR 8 fR), (zaI gO cO 8 fO), (zo10ririliiriririr sc aTp (nI ts) aHl (nI nh) ed mi sn aHs (nI n) aWk (nI wz) aBk (nI bz) aFc), (zaR aHs cHs 8 fHs), (zaI aFc cFc 6 fFc)] sz) U ∧ Hs dC dI n yi ya yk yv yc (va_A [(zo13rrirrrr h0 sc kp ik bl go ch bo), (zo4rrir go gR gO (nI lk) gS), (zaI gR cR 8 fR), (zaI gO cO 8 fO), (zo10ririliiriririr sc aTp (nI ts) aHl (nI nh) ed mi sn aHs (nI n) aWk (nI wz) aBk (nI bz) aFc), (zaR aHs cHs 8 fHs), (zaI aFc cFc 6 fFc)] sz) U)) (va_Qi (fun (r : Int32) (u : (Nat) × (Nat → Int32) × (Nat → Int32) × (Nat → Int32)) => match u with | (lk9, fR9, fO9, fFc9) => lk9 ≤ 8 ∧ r = viR_ n yk yv yc cz mi sn x y) (fun (u : (Nat) × (Nat → Int32) × (Nat → Int32) × (Nat → Int32)) (t : State) => match u with | (lk9, fR9, fO9, fFc9) => va_P (dC, dI) vwCl [(zo13rrirrrr h0 sc kp ik bl go ch bo), (zo4rrir go gR gO (nI lk9) gS), (zaI gR cR 8 fR9), (zaI gO cO 8 fO9), (zo10ririliiriririr sc aTp (nI ts) aHl (nI nh) ed mi sn aHs (nI n) aWk (nI wz) aBk (nI bz) aFc), (zaR aHs cHs 8 fHs), (zaI aFc cFc 6 fFc9)] t.heap ∧ va_K (dC, dI) vwCl [(cR, .int), (cO, .int), (cHs, .object "MistHeaps$Heap"), (cFc, .int)] t ∧ va_D (va_A [(zo13rrirrrr h0 sc kp ik bl go ch bo), (zo4rrir go gR gO (nI lk) gS), (zaI gR cR 8 fR), (zaI gO cO 8 fO), (zo10ririliiriririr sc aTp (nI ts) aHl (nI nh) ed mi sn aHs (nI n) aWk (nI wz) aBk (nI bz) aFc), (zaR aHs cHs 8 fHs), (zaI aFc cFc 6 fFc)] sz) [(zo13rrirrrr h0 sc kp ik bl go ch bo), (zo4rrir go gR gO (nI lk9) gS), (zaI gR cR 8 fR9), (zaI gO cO 8 fO9), (zo10ririliiriririr sc aTp (nI ts) aHl (nI nh) ed mi sn aHs (nI n) aWk (nI wz) aBk (nI bz) aFc), (zaR aHs cHs 8 fHs), (zaI aFc cFc 6 fFc9)]) (va_A [(zo13rrirrrr h0 sc kp ik bl go ch bo), (zo4rrir go gR gO (nI lk) gS), (zaI gR cR 8 fR), (zaI gO cO 8 fO), (zo10ririliiriririr sc aTp (nI ts) aHl (nI nh) ed mi sn aHs (nI n) aWk (nI wz) aBk (nI bz) aFc), (zaR aHs cHs 8 fHs), (zaI aFc cFc 6 fFc)] sz)) 0 0 (va_A [(zo13rrirrrr h0 sc kp ik bl go ch bo), (zo4rrir go gR gO (nI lk) gS), (zaI gR cR 8 fR), (zaI gO cO 8 fO), (zo10ririliiriririr sc aTp (nI ts) aHl (nI nh) ed mi sn aHs (nI n) aWk (nI wz) aBk (nI bz) aFc), (zaR aHs cHs 8 fHs), (zaI aFc cFc 6 fFc)] sz) := by
  refine met_ofQ (cc := cX11_via) (maxL := 3) (ret := (some .int)) (by decide) rfl ?_
  intro p e s m args below meth c s₁ Q B hml hv hQ
  obtain ⟨rfl, hsz, hP, hK, hD0, hG, hW_, hN_, hZ, hH_⟩ := hv
  have hx := B.exec
  have hb := B.bytes
  have hr := B.returns
  have hts := atoms_spec (ws := wsX11_via) B.pre
  have hown : s.vm.findClass RX11 = some m.cls := findClass_of_methodNamed B.named
  have hlocks := B.notSynchronized
  subst hsz
  have hD := hD0.self (sz := s.heap.size)
  generalize hAe : va_A [(zo13rrirrrr h0 sc kp ik bl go ch bo), (zo4rrir go gR gO (nI lk) gS), (zaI gR cR 8 fR), (zaI gO cO 8 fO), (zo10ririliiriririr sc aTp (nI ts) aHl (nI nh) ed mi sn aHs (nI n) aWk (nI wz) aBk (nI bz) aFc), (zaR aHs cHs 8 fHs), (zaI aFc cFc 6 fFc)] s.heap.size = A at hD hQ hG hW_ hN_ hZ hH_ ⊢
  have hA : ∀ q : Nat, s.heap.size ≤ q → A q := fun q h => by rw [← hAe]; exact Or.inr h
  have hS : va_S A s.heap s.heap [] := va_S.rf
  have hl := lv_entry [.ref h0, .int x, .int y] (n := 3) (Nat.le_of_ble_eq_true rfl)
  rw [lg_entry_eq]
  generalize (lg_sl [.ref h0, .int x, .int y] ++ List.replicate (3 - (lg_sl [.ref h0, .int x, .int y]).length) Slot.unset).toArray = ls at hl ⊢
  generalize hag : ([.ref h0, .int x, .int y] : List Value).toArray = args at hts hQ ⊢
  have hl : lv_has ls 3 [(0, .ref h0), (1, .int x), (2, .int y)] := hl
  obtain ⟨H, hH⟩ : ∃ H : Heap, H = s.heap := ⟨_, rfl⟩
  rw [← hH] at hP
  rw [← hH]
  have hS : va_S A s.heap H [] := by rw [hH]; exact hS
  obtain ⟨locs, hlo⟩ : ∃ L : List Loc, L = [] := ⟨_, rfl⟩
  rw [← hlo] at hS
  rw [← hlo]
  clear hH hlo
  refine lv_aload_n hx hb dX11_via_0 rfl (lv_at hl 0 rfl) ?_
  refine va_get (D := (dC, dI)) (ci := 13) (v := .ref sc) (C := RX11) (T := TX11) (N := 7) hx hb hts kc_xVia_0 hown hK hP 0 rfl rfl 0 (by decide) (hts (.fieldLink RX11 14 "MistHeaps" "scene" "LMistHeaps$Scene;") kc_xVia_1) (fun _ h9 => h9) rfl dX11_via_1 ?_
  refine lv_iload_n hx hb dX11_via_4 rfl (lv_at hl 1 rfl) ?_
  refine lv_iload_n hx hb dX11_via_5 rfl (lv_at hl 2 rfl) ?_
  have hPc := hP.sub (ws' := [(zo10ririliiriririr sc aTp (nI ts) aHl (nI nh) ed mi sn aHs (nI n) aWk (nI wz) aBk (nI bz) aFc), (zaR aHs cHs 8 fHs)]) [4, 5] rfl
  have hKc := hK.sub (tys' := [(cHs, .object "MistHeaps$Heap")]) [2] rfl
  refine vp_callSi (va_runV (As := [.int x, .int y]) (rest := []) ⟨hx, hb, hml, hown, hts⟩ (c_areHeaps l dC dI sc aTp aHl aHs aWk aBk aFc ts nh n wz bz mi sn x y ed cHs fHs ya (zhs) (hn8)) (cwV 2 hts gX11_via_X8_areHeaps rfl rfl rfl hd_yX8_areHeaps ⟨Nat.le_of_ble_eq_true rfl, Nat.le_of_ble_eq_true rfl⟩) ⟨fun a U g mk q => by obtain ⟨q0, qP, qK⟩ := q; exact ⟨q0, mvP g mk a qP, mvK g mk a qK⟩, va_recv hK hP (ci := 10) (q := (RX8, TX8, 14)) (q0 := 4) rfl rfl, fun U hU hW => ⟨rfl, by rw [hU]; exact hPc, va_K.moved hW.alike hKc⟩⟩ rfl rfl hl.1 rfl (lv_room (Nat.le_of_ble_eq_true rfl)) dX11_via_6 ⟨Nat.le_of_ble_eq_true rfl, Nat.le_of_ble_eq_true rfl⟩).run (fun r_1 hw_2 => ?_)
  rcases hw_2 with ⟨rfl, j1, j2, hj1, hj2, rfl, rfl⟩ | ⟨rfl, hno⟩
  · skip
    refine lv_if_ne (tgt := 14) hx hb dX11_via_9 (by decide) (fun _ => ?_) (fun c_3 => absurd c_3 (by decide))
    refine lv_aload_n hx hb dX11_via_14 rfl (lv_at hl 0 rfl) ?_
    refine va_get (D := (dC, dI)) (ci := 13) (v := .ref go) (C := RX11) (T := TX11) (N := 7) hx hb hts kc_xVia_0 hown hK hP 0 rfl rfl 4 (by decide) (hts (.fieldLink RX11 35 "MistHeaps" "goings" "LMistHeaps$Goings;") kc_xVia_2) (fun _ h9 => h9) rfl dX11_via_15 ?_
    refine lv_aload_n hx hb dX11_via_18 rfl (lv_at hl 0 rfl) ?_
    refine va_get (D := (dC, dI)) (ci := 13) (v := .ref sc) (C := RX11) (T := TX11) (N := 7) hx hb hts kc_xVia_0 hown hK hP 0 rfl rfl 0 (by decide) (hts (.fieldLink RX11 14 "MistHeaps" "scene" "LMistHeaps$Scene;") kc_xVia_1) (fun _ h9 => h9) rfl dX11_via_19 ?_
    refine lv_aload_n hx hb dX11_via_22 rfl (lv_at hl 0 rfl) ?_
    refine va_get (D := (dC, dI)) (ci := 13) (v := .ref sc) (C := RX11) (T := TX11) (N := 7) hx hb hts kc_xVia_0 hown hK hP 0 rfl rfl 0 (by decide) (hts (.fieldLink RX11 14 "MistHeaps" "scene" "LMistHeaps$Scene;") kc_xVia_1) (fun _ h9 => h9) rfl dX11_via_23 ?_
    refine va_get (D := (dC, dI)) (ci := 10) (v := .int sn) (C := RX8) (T := TX8) (N := 14) hx hb hts kc_xVia_3 hown hK hP 4 rfl rfl 6 (by decide) (hts (.fieldLink RX11 88 "MistHeaps$Scene" "snow" "I") kc_xVia_4) (fun _ h9 => h9) rfl dX11_via_26 ?_
    have hPc := hP.sub (ws' := [(zo4rrir go gR gO (nI lk) gS), (zaI gR cR 8 fR), (zaI gO cO 8 fO), (zo10ririliiriririr sc aTp (nI ts) aHl (nI nh) ed mi sn aHs (nI n) aWk (nI wz) aBk (nI bz) aFc), (zaR aHs cHs 8 fHs), (zaI aFc cFc 6 fFc)]) [1, 2, 3, 4, 5, 6] rfl
    have hDc := hD.sub (ws' := [(zo4rrir go gR gO (nI lk) gS), (zaI gR cR 8 fR), (zaI gO cO 8 fO), (zo10ririliiriririr sc aTp (nI ts) aHl (nI nh) ed mi sn aHs (nI n) aWk (nI wz) aBk (nI bz) aFc), (zaR aHs cHs 8 fHs), (zaI aFc cFc 6 fFc)]) [1, 2, 3, 4, 5, 6] (by decide) rfl
    have hKc := hK.sub (tys' := [(cR, .int), (cO, .int), (cHs, .object "MistHeaps$Heap"), (cFc, .int)]) [0, 1, 2, 3] rfl
    have hFc := va_free (wc := [(zo4rrir go gR gO (nI lk) gS), (zaI gR cR 8 fR), (zaI gO cO 8 fO), (zo10ririliiriririr sc aTp (nI ts) aHl (nI nh) ed mi sn aHs (nI n) aWk (nI wz) aBk (nI bz) aFc), (zaR aHs cHs 8 fHs), (zaI aFc cFc 6 fFc)]) hD hS hA [1, 2, 3, 4, 5, 6] rfl
    refine va_callv (va_runV (As := [.ref sc, .int sn]) (rest := []) ⟨hx, hb, hml, hown, hts⟩ (c_link l dC dI gd  kA   sc go aTp aHl aHs aWk aBk aFc bW bA bE bC gR gO gS ts nh n wz bz lk cl mi sn sg cdd szz att nmb sn ed cHs cFc cbW cbA cbE cbC cR cO fFc fbW fbA fbE fbC fR fO yk yv yc fHs yi ya tpv cz H.size (zhs) (hn8) (zcl) (zE) (zC) (zyv) (zyc) (zHC) (zyt)) (cwV 2 hts gX11_via_X2_link rfl rfl rfl hd_yX2_link ⟨Nat.le_of_ble_eq_true rfl, Nat.le_of_ble_eq_true rfl⟩) ⟨fun a U g mk q => by obtain ⟨q0, q1, qP, qK, qD, qhG, qhW_, qhN_, qhZ, qhH_⟩ := q; exact ⟨q0, mvz g mk a q1, mvP g mk a qP, mvK g mk a qK, qD, qhG.mv g mk a, qhW_.mv g mk a, qhN_.mv g mk a, qhZ.mv g mk a, qhH_.mv g mk a⟩, va_recv hK hP (ci := 4) (q := (RX2, TX2, 4)) (q0 := 1) rfl rfl, fun U hU hW => ⟨rfl, by rw [hU], by rw [hU]; exact hPc, va_K.moved hW.alike hKc, hDc.weaken (fun _ _ _ _ => trivial), hG.call hS hU hW (fun q h => hFc q h), hW_.call hS hU hW (fun q h => hFc q h), hN_.call hS hU hW (fun q h => hFc q h), (hZ.sub [0, 1, 2, 3, 4] [0, 1, 2, 3] rfl rfl).call hS hU hW (fun q h => hFc q h), hH_.call hS hU hW (fun q h => hFc q h)⟩⟩ rfl rfl hl.1 rfl (lv_room (Nat.le_of_ble_eq_true rfl)) dX11_via_29 ⟨Nat.le_of_ble_eq_true rfl, Nat.le_of_ble_eq_true rfl⟩) hS (fun q _ h => hFc q h) hFc (fun u tC H1 locs htC hvm hw_5 hB hz1 hk1 hS => ?_)
    obtain ⟨lk9_6, fR9_7, fO9_8, fFc9_9⟩ := u
    try dsimp only at hw_5 hB
    obtain ⟨hP1, hK1, hD1⟩ := hB
    rw [htC] at hP1
    have hK1 := va_K.moved hvm.symm hK1
    obtain ⟨hP, hD⟩ := va_join (wr := [(zo13rrirrrr h0 sc kp ik bl go ch bo)]) (w1 := [(zo4rrir go gR gO (nI lk9_6) gS), (zaI gR cR 8 fR9_7), (zaI gO cO 8 fO9_8), (zo10ririliiriririr sc aTp (nI ts) aHl (nI nh) ed mi sn aHs (nI n) aWk (nI wz) aBk (nI bz) aFc), (zaR aHs cHs 8 fHs), (zaI aFc cFc 6 fFc9_9)]) hP hD [1, 2, 3, 4, 5, 6] [0] rfl rfl (by decide) (by decide) hk1 hFc hP1 hD1
    have hK := (hK.sub (tys' := []) [] rfl).app hK1
    generalize H1 = H at hP hS ⊢
    have hP : va_P (dC, dI) vwCl [(zo13rrirrrr h0 sc kp ik bl go ch bo), (zo4rrir go gR gO (nI lk9_6) gS), (zaI gR cR 8 fR9_7), (zaI gO cO 8 fO9_8), (zo10ririliiriririr sc aTp (nI ts) aHl (nI nh) ed mi sn aHs (nI n) aWk (nI wz) aBk (nI bz) aFc), (zaR aHs cHs 8 fHs), (zaI aFc cFc 6 fFc9_9)] H := hP
    have hD : va_D A [(zo13rrirrrr h0 sc kp ik bl go ch bo), (zo4rrir go gR gO (nI lk9_6) gS), (zaI gR cR 8 fR9_7), (zaI gO cO 8 fO9_8), (zo10ririliiriririr sc aTp (nI ts) aHl (nI nh) ed mi sn aHs (nI n) aWk (nI wz) aBk (nI bz) aFc), (zaR aHs cHs 8 fHs), (zaI aFc cFc 6 fFc9_9)] := hD
    have hK : va_K (dC, dI) vwCl [(cR, .int), (cO, .int), (cHs, .object "MistHeaps$Heap"), (cFc, .int)] s := hK
    obtain ⟨elk, hlR, hlO⟩ := hw_5
    obtain rfl := elk.symm
    refine lv_aload_n hx hb dX11_via_32 rfl (lv_at hl 0 rfl) ?_
    refine va_get (D := (dC, dI)) (ci := 13) (v := .ref go) (C := RX11) (T := TX11) (N := 7) hx hb hts kc_xVia_0 hown hK hP 0 rfl rfl 4 (by decide) (hts (.fieldLink RX11 35 "MistHeaps" "goings" "LMistHeaps$Goings;") kc_xVia_2) (fun _ h9 => h9) rfl dX11_via_33 ?_
    refine lv_iload_n hx hb dX11_via_36 rfl (lv_at hl 1 rfl) ?_
    refine lv_iload_n hx hb dX11_via_37 rfl (lv_at hl 2 rfl) ?_
    have hPc := hP.sub (ws' := [(zo4rrir go gR gO (nI n) gS), (zaI gO cO 8 fO9_8)]) [1, 3] rfl
    have hKc := hK.sub (tys' := [(cO, .int)]) [1] rfl
    refine vp_callSi (va_runV (As := [.int (nI j1), .int (nI j2)]) (rest := []) ⟨hx, hb, hml, hown, hts⟩ (c_first l dC dI go gR gO gS n j1 j2 cO fO9_8 (by omega) (by omega)) (cwV 2 hts gX11_via_X2_first rfl rfl rfl hd_yX2_first ⟨Nat.le_of_ble_eq_true rfl, Nat.le_of_ble_eq_true rfl⟩) ⟨fun a U g mk q => by obtain ⟨q0, qP, qK⟩ := q; exact ⟨q0, mvP g mk a qP, mvK g mk a qK⟩, va_recv hK hP (ci := 4) (q := (RX2, TX2, 4)) (q0 := 1) rfl rfl, fun U hU hW => ⟨rfl, by rw [hU]; exact hPc, va_K.moved hW.alike hKc⟩⟩ rfl rfl hl.1 rfl (lv_room (Nat.le_of_ble_eq_true rfl)) dX11_via_38 ⟨Nat.le_of_ble_eq_true rfl, Nat.le_of_ble_eq_true rfl⟩).run (fun r_10 hw_11 => ?_)
    obtain rfl := hw_11
    rw [hQ]
    have hP9 := hP.sub (ws' := [(zo13rrirrrr h0 sc kp ik bl go ch bo), (zo4rrir go gR gO (nI n) gS), (zaI gR cR 8 fR9_7), (zaI gO cO 8 fO9_8), (zo10ririliiriririr sc aTp (nI ts) aHl (nI nh) ed mi sn aHs (nI n) aWk (nI wz) aBk (nI bz) aFc), (zaR aHs cHs 8 fHs), (zaI aFc cFc 6 fFc9_9)]) [0, 1, 2, 3, 4, 5, 6] rfl
    have hD9 := hD.sub (ws' := [(zo13rrirrrr h0 sc kp ik bl go ch bo), (zo4rrir go gR gO (nI n) gS), (zaI gR cR 8 fR9_7), (zaI gO cO 8 fO9_8), (zo10ririliiriririr sc aTp (nI ts) aHl (nI nh) ed mi sn aHs (nI n) aWk (nI wz) aBk (nI bz) aFc), (zaR aHs cHs 8 fHs), (zaI aFc cFc 6 fFc9_9)]) [0, 1, 2, 3, 4, 5, 6] (by decide) rfl
    have hK9 := hK.sub (tys' := [(cR, .int), (cO, .int), (cHs, .object "MistHeaps$Heap"), (cFc, .int)]) [0, 1, 2, 3] rfl
    exact W.iret (v := vxR fO9_8 n j1 (nI j2)) hx hb hr (fun tQ htQ hWQ => ⟨⟨(vxR fO9_8 n j1 (nI j2)), (n, fR9_7, fO9_8, fFc9_9), rfl, ⟨by omega, vi_x hn8 hj1 hj2 hlO⟩, by rw [htQ]; exact hP9, va_K.moved hWQ.alike hK9, hD9⟩, hS.F htQ⟩) hS.2.2 dX11_via_41
  · skip
    refine lv_if_ne (tgt := 14) hx hb dX11_via_9 (by decide) (fun c_12 => absurd c_12 (by decide)) (fun _ => ?_)
    refine lv_iconst (v := (-1)) hx hb dX11_via_12 (by decide) ?_
    rw [hQ]
    have hP9 := hP.sub (ws' := [(zo13rrirrrr h0 sc kp ik bl go ch bo), (zo4rrir go gR gO (nI lk) gS), (zaI gR cR 8 fR), (zaI gO cO 8 fO), (zo10ririliiriririr sc aTp (nI ts) aHl (nI nh) ed mi sn aHs (nI n) aWk (nI wz) aBk (nI bz) aFc), (zaR aHs cHs 8 fHs), (zaI aFc cFc 6 fFc)]) [0, 1, 2, 3, 4, 5, 6] rfl
    have hD9 := hD.sub (ws' := [(zo13rrirrrr h0 sc kp ik bl go ch bo), (zo4rrir go gR gO (nI lk) gS), (zaI gR cR 8 fR), (zaI gO cO 8 fO), (zo10ririliiriririr sc aTp (nI ts) aHl (nI nh) ed mi sn aHs (nI n) aWk (nI wz) aBk (nI bz) aFc), (zaR aHs cHs 8 fHs), (zaI aFc cFc 6 fFc)]) [0, 1, 2, 3, 4, 5, 6] (by decide) rfl
    have hK9 := hK.sub (tys' := [(cR, .int), (cO, .int), (cHs, .object "MistHeaps$Heap"), (cFc, .int)]) [0, 1, 2, 3] rfl
    exact W.iret (v := (-1)) hx hb hr (fun tQ htQ hWQ => ⟨⟨(-1), (lk, fR, fO, fFc), rfl, ⟨hlk, two_no hno⟩, by rw [htQ]; exact hP9, va_K.moved hWQ.alike hK9, hD9⟩, hS.F htQ⟩) hS.2.2 dX11_via_13
end mg18a
section mg18a
theorem ggX11_cuts_X8_areHeaps : GoodIn wsX11_cuts wsX8_areHeaps := gga_of 719 rfl rfl rfl
theorem gX11_cuts_X8_areHeaps : GoodIn wsX11_cuts (wsV RX11 141 RX8 yX8_areHeaps wsX8_areHeaps) := goodIn_app (ggh_of [716, 717, 718, 64] rfl rfl rfl) ggX11_cuts_X8_areHeaps
theorem ggX11_cuts_X2_link : GoodIn wsX11_cuts wsX2_link := gga_of 724 rfl rfl rfl
theorem gX11_cuts_X2_link : GoodIn wsX11_cuts (wsV RX11 145 RX2 yX2_link wsX2_link) := goodIn_app (ggh_of [721, 722, 723, 66] rfl rfl rfl) ggX11_cuts_X2_link
theorem ggX11_cuts_X2_breaks : GoodIn wsX11_cuts wsX2_breaks := gga_of 782 rfl rfl rfl
theorem gX11_cuts_X2_breaks : GoodIn wsX11_cuts (wsV RX11 156 RX2 yX2_breaks wsX2_breaks) := goodIn_app (ggh_of [779, 780, 781, 66] rfl rfl rfl) ggX11_cuts_X2_breaks
noncomputable def dk18b12pub_cX11_cuts_0 : List (Nat × List Nat) := [(0, [42]), (1, [180, 0, 14]), (4, [27]), (5, [28]), (6, [182, 0, 141]), (9, [154, 0, 5]), (12, [2]), (13, [172]), (14, [42]), (15, [180, 0, 35]), (18, [42]), (19, [180, 0, 14]), (22, [42]), (23, [180, 0, 14]), (26, [180, 0, 88]), (29, [182, 0, 145]), (32, [42]), (33, [180, 0, 35]), (36, [27]), (37, [28]), (38, [182, 0, 156]), (41, [172])]
set_option maxRecDepth 100000 in
theorem dk18b12pub_cX11_cuts_0_a : btA cX11_cuts dk18b12pub_cX11_cuts_0 = true := by decide +kernel
theorem dX11_cuts_0 : decode cX11_cuts 0 = .ok (.aload_n 0, 1) := bd42 (btAt dk18b12pub_cX11_cuts_0_a 0 rfl)
theorem dX11_cuts_1 : decode cX11_cuts 1 = .ok (.getfield 14, 3) := bd180 (a := 0) (b := 14) (btAt dk18b12pub_cX11_cuts_0_a 1 rfl)
theorem dX11_cuts_4 : decode cX11_cuts 4 = .ok (.iload_n 1, 1) := bd27 (btAt dk18b12pub_cX11_cuts_0_a 2 rfl)
theorem dX11_cuts_5 : decode cX11_cuts 5 = .ok (.iload_n 2, 1) := bd28 (btAt dk18b12pub_cX11_cuts_0_a 3 rfl)
theorem dX11_cuts_6 : decode cX11_cuts 6 = .ok (.invokevirtual 141, 3) := bd182 (a := 0) (b := 141) (btAt dk18b12pub_cX11_cuts_0_a 4 rfl)
theorem dX11_cuts_9 : decode cX11_cuts 9 = .ok (.ifCond .ne 5, 3) := bd154 (a := 0) (b := 5) (btAt dk18b12pub_cX11_cuts_0_a 5 rfl)
theorem dX11_cuts_12 : decode cX11_cuts 12 = .ok (.iconst (-1), 1) := bd2 (btAt dk18b12pub_cX11_cuts_0_a 6 rfl)
theorem dX11_cuts_13 : decode cX11_cuts 13 = .ok (.ireturn, 1) := bd172 (btAt dk18b12pub_cX11_cuts_0_a 7 rfl)
theorem dX11_cuts_14 : decode cX11_cuts 14 = .ok (.aload_n 0, 1) := bd42 (btAt dk18b12pub_cX11_cuts_0_a 8 rfl)
theorem dX11_cuts_15 : decode cX11_cuts 15 = .ok (.getfield 35, 3) := bd180 (a := 0) (b := 35) (btAt dk18b12pub_cX11_cuts_0_a 9 rfl)
theorem dX11_cuts_18 : decode cX11_cuts 18 = .ok (.aload_n 0, 1) := bd42 (btAt dk18b12pub_cX11_cuts_0_a 10 rfl)
theorem dX11_cuts_19 : decode cX11_cuts 19 = .ok (.getfield 14, 3) := bd180 (a := 0) (b := 14) (btAt dk18b12pub_cX11_cuts_0_a 11 rfl)
theorem dX11_cuts_22 : decode cX11_cuts 22 = .ok (.aload_n 0, 1) := bd42 (btAt dk18b12pub_cX11_cuts_0_a 12 rfl)
theorem dX11_cuts_23 : decode cX11_cuts 23 = .ok (.getfield 14, 3) := bd180 (a := 0) (b := 14) (btAt dk18b12pub_cX11_cuts_0_a 13 rfl)
theorem dX11_cuts_26 : decode cX11_cuts 26 = .ok (.getfield 88, 3) := bd180 (a := 0) (b := 88) (btAt dk18b12pub_cX11_cuts_0_a 14 rfl)
theorem dX11_cuts_29 : decode cX11_cuts 29 = .ok (.invokevirtual 145, 3) := bd182 (a := 0) (b := 145) (btAt dk18b12pub_cX11_cuts_0_a 15 rfl)
theorem dX11_cuts_32 : decode cX11_cuts 32 = .ok (.aload_n 0, 1) := bd42 (btAt dk18b12pub_cX11_cuts_0_a 16 rfl)
theorem dX11_cuts_33 : decode cX11_cuts 33 = .ok (.getfield 35, 3) := bd180 (a := 0) (b := 35) (btAt dk18b12pub_cX11_cuts_0_a 17 rfl)
theorem dX11_cuts_36 : decode cX11_cuts 36 = .ok (.iload_n 1, 1) := bd27 (btAt dk18b12pub_cX11_cuts_0_a 18 rfl)
theorem dX11_cuts_37 : decode cX11_cuts 37 = .ok (.iload_n 2, 1) := bd28 (btAt dk18b12pub_cX11_cuts_0_a 19 rfl)
theorem dX11_cuts_38 : decode cX11_cuts 38 = .ok (.invokevirtual 156, 3) := bd182 (a := 0) (b := 156) (btAt dk18b12pub_cX11_cuts_0_a 20 rfl)
theorem dX11_cuts_41 : decode cX11_cuts 41 = .ok (.ireturn, 1) := bd172 (btAt dk18b12pub_cX11_cuts_0_a 21 rfl)
theorem kc_xCuts_0 : ∀ w ∈ wsX110, w ∈ wsX11_cuts := fun w h => List.mem_cons_of_mem _ (gin_wsX110 w h)
theorem kc_xCuts_1 : (.fieldLink RX11 14 "MistHeaps" "scene" "LMistHeaps$Scene;" : Cond) ∈ wsX11_cuts := kc_of 328 rfl rfl rfl
theorem kc_xCuts_2 : (.fieldLink RX11 35 "MistHeaps" "goings" "LMistHeaps$Goings;" : Cond) ∈ wsX11_cuts := kc_of 332 rfl rfl rfl
theorem kc_xCuts_3 : ∀ w ∈ wsX80, w ∈ wsX11_cuts := fun w h => List.mem_cons_of_mem _ (gin_wsX80 w h)
theorem kc_xCuts_4 : (.fieldLink RX11 88 "MistHeaps$Scene" "snow" "I" : Cond) ∈ wsX11_cuts := kc_of 166 rfl rfl rfl
set_option maxHeartbeats 4000000 in
set_option maxRecDepth 100000 in
theorem c_xCuts (l : Launch) (dC : Nat → ClassId) (dI : Nat → Nat → Nat) (gd : Nat → Nat)  (kA : Nat)   (h0 : Nat) (sc : Nat) (kp : Nat) (bl : Nat) (go : Nat) (ch : Nat) (bo : Nat) (aTp : Nat) (aHl : Nat) (aHs : Nat) (aWk : Nat) (aBk : Nat) (aFc : Nat) (bW : Nat) (bA : Nat) (bE : Nat) (bC : Nat) (gR : Nat) (gO : Nat) (gS : Nat) (ts : Nat) (nh : Nat) (n : Nat) (wz : Nat) (bz : Nat) (lk : Nat) (cl : Nat) (mi : Int32) (sn : Int32) (sg : Int32) (cdd : Int32) (szz : Int32) (att : Int32) (nmb : Int32) (ik : Int32) (x : Int32) (y : Int32) (ed : Int64) (cHs : ClassId) (cFc : ClassId) (cbW : ClassId) (cbA : ClassId) (cbE : ClassId) (cbC : ClassId) (cR : ClassId) (cO : ClassId) (fFc : Nat → Int32) (fbW : Nat → Int32) (fbA : Nat → Int32) (fbE : Nat → Int32) (fbC : Nat → Int32) (fR : Nat → Int32) (fO : Nat → Int32) (yk : Nat → Int32) (yv : Nat → Int32) (yc : Nat → Int32) (fHs : Nat → Option Nat) (yi : Nat → Nat) (ya : Nat → Nat) (tpv : Value) (cz : List pCla) (sz : Nat) (zhs : ∀ k0, k0 < n → fHs k0 = some (ya k0)) (hn8 : n ≤ 8) (zcl : cl ≤ 10) (zE : ∀ k0, k0 < 10 → ∃ e0 : Nat, e0 ≤ 100 ∧ fbE k0 = nI e0) (zC : ∀ k0, k0 < 100 → okC (fbC k0)) (zyv : ∀ k0, k0 < n → ∃ v0 : Nat, v0 ≤ 9 ∧ yv k0 = nI v0) (zyc : ∀ k0, k0 < n → ∃ v0 : Nat, v0 < 36 ∧ yc k0 = nI v0) (hlk : lk ≤ 8) (zHC : HC cl sg fbW fbA fbE fbC cz ∧ WfC cz) (zyt : ∀ k0, k0 < n → hpT (yi k0) (yk k0)) : Met l yX11_cuts wsX11_cuts ({ frames := 7, cells := 0, slots := 0, locals := 149 } : Room) (va_Pc [.ref h0, .int x, .int y] (fun U => U.heap.size = sz ∧ va_P (dC, dI) vwCl [(zo13rrirrrr h0 sc kp ik bl go ch bo), (zo4rrir go gR gO (nI lk) gS), (zaI gR cR 8 fR), (zaI gO cO 8 fO), (zo10ririliiriririr sc aTp (nI ts) aHl (nI nh) ed mi sn aHs (nI n) aWk (nI wz) aBk (nI bz) aFc), (zaR aHs cHs 8 fHs), (zaI aFc cFc 6 fFc)] U.heap ∧ va_K (dC, dI) vwCl [(cR, .int), (cO, .int), (cHs, .object "MistHeaps$Heap"), (cFc, .int)] U ∧ va_D (fun _ => True) [(zo13rrirrrr h0 sc kp ik bl go ch bo), (zo4rrir go gR gO (nI lk) gS), (zaI gR cR 8 fR), (zaI gO cO 8 fO), (zo10ririliiriririr sc aTp (nI ts) aHl (nI nh) ed mi sn aHs (nI n) aWk (nI wz) aBk (nI bz) aFc), (zaR aHs cHs 8 fHs), (zaI aFc cFc 6 fFc)] ∧ Gl gd (va_A [(zo13rrirrrr h0 sc kp ik bl go ch bo), (zo4rrir go gR gO (nI lk) gS), (zaI gR cR 8 fR), (zaI gO cO 8 fO), (zo10ririliiriririr sc aTp (nI ts) aHl (nI nh) ed mi sn aHs (nI n) aWk (nI wz) aBk (nI bz) aFc), (zaR aHs cHs 8 fHs), (zaI aFc cFc 6 fFc)] sz) U ∧ Gw (va_A [(zo13rrirrrr h0 sc kp ik bl go ch bo), (zo4rrir go gR gO (nI lk) gS), (zaI gR cR 8 fR), (zaI gO cO 8 fO), (zo10ririliiriririr sc aTp (nI ts) aHl (nI nh) ed mi sn aHs (nI n) aWk (nI wz) aBk (nI bz) aFc), (zaR aHs cHs 8 fHs), (zaI aFc cFc 6 fFc)] sz) U ∧ Gn kA (va_A [(zo13rrirrrr h0 sc kp ik bl go ch bo), (zo4rrir go gR gO (nI lk) gS), (zaI gR cR 8 fR), (zaI gO cO 8 fO), (zo10ririliiriririr sc aTp (nI ts) aHl (nI nh) ed mi sn aHs (nI n) aWk (nI wz) aBk (nI bz) aFc), (zaR aHs cHs 8 fHs), (zaI aFc cFc 6 fFc)] sz) U ∧ Fz dC dI [(zo7iirrrriviii aHl sg (nI cl) bW bA bE bC cdd tpv szz att nmb), (zaI bW cbW 10 fbW), (zaI bA cbA 10 fbA), (zaI bE cbE 10 fbE), (zaI bC cbC 100 fbC)] [(cbW, .int), (cbA, .int), (cbE, .int), (cbC, .int)] (va_A [(zo13rrirrrr h0 sc kp ik bl go ch bo), (zo4rrir go gR gO (nI lk) gS), (zaI gR cR 8 fR), (zaI gO cO 8 fO), (zo10ririliiriririr sc aTp (nI ts) aHl (nI nh) ed mi sn aHs (nI n) aWk (nI wz) aBk (nI bz) aFc), (zaR aHs cHs 8 fHs), (zaI aFc cFc 6 fFc)] sz) U ∧ Hs dC dI n yi ya yk yv yc (va_A [(zo13rrirrrr h0 sc kp ik bl go ch bo), (zo4rrir go gR gO (nI lk) gS), (zaI gR cR 8 fR), (zaI gO cO 8 fO), (zo10ririliiriririr sc aTp (nI ts) aHl (nI nh) ed mi sn aHs (nI n) aWk (nI wz) aBk (nI bz) aFc), (zaR aHs cHs 8 fHs), (zaI aFc cFc 6 fFc)] sz) U)) (va_Qi (fun (r : Int32) (u : (Nat) × (Nat → Int32) × (Nat → Int32) × (Nat → Int32)) => match u with | (lk9, fR9, fO9, fFc9) => lk9 ≤ 8 ∧ r = cuR_ n yk yv yc cz mi sn x y) (fun (u : (Nat) × (Nat → Int32) × (Nat → Int32) × (Nat → Int32)) (t : State) => match u with | (lk9, fR9, fO9, fFc9) => va_P (dC, dI) vwCl [(zo13rrirrrr h0 sc kp ik bl go ch bo), (zo4rrir go gR gO (nI lk9) gS), (zaI gR cR 8 fR9), (zaI gO cO 8 fO9), (zo10ririliiriririr sc aTp (nI ts) aHl (nI nh) ed mi sn aHs (nI n) aWk (nI wz) aBk (nI bz) aFc), (zaR aHs cHs 8 fHs), (zaI aFc cFc 6 fFc9)] t.heap ∧ va_K (dC, dI) vwCl [(cR, .int), (cO, .int), (cHs, .object "MistHeaps$Heap"), (cFc, .int)] t ∧ va_D (va_A [(zo13rrirrrr h0 sc kp ik bl go ch bo), (zo4rrir go gR gO (nI lk) gS), (zaI gR cR 8 fR), (zaI gO cO 8 fO), (zo10ririliiriririr sc aTp (nI ts) aHl (nI nh) ed mi sn aHs (nI n) aWk (nI wz) aBk (nI bz) aFc), (zaR aHs cHs 8 fHs), (zaI aFc cFc 6 fFc)] sz) [(zo13rrirrrr h0 sc kp ik bl go ch bo), (zo4rrir go gR gO (nI lk9) gS), (zaI gR cR 8 fR9), (zaI gO cO 8 fO9), (zo10ririliiriririr sc aTp (nI ts) aHl (nI nh) ed mi sn aHs (nI n) aWk (nI wz) aBk (nI bz) aFc), (zaR aHs cHs 8 fHs), (zaI aFc cFc 6 fFc9)]) (va_A [(zo13rrirrrr h0 sc kp ik bl go ch bo), (zo4rrir go gR gO (nI lk) gS), (zaI gR cR 8 fR), (zaI gO cO 8 fO), (zo10ririliiriririr sc aTp (nI ts) aHl (nI nh) ed mi sn aHs (nI n) aWk (nI wz) aBk (nI bz) aFc), (zaR aHs cHs 8 fHs), (zaI aFc cFc 6 fFc)] sz)) 0 0 (va_A [(zo13rrirrrr h0 sc kp ik bl go ch bo), (zo4rrir go gR gO (nI lk) gS), (zaI gR cR 8 fR), (zaI gO cO 8 fO), (zo10ririliiriririr sc aTp (nI ts) aHl (nI nh) ed mi sn aHs (nI n) aWk (nI wz) aBk (nI bz) aFc), (zaR aHs cHs 8 fHs), (zaI aFc cFc 6 fFc)] sz) := by
  refine met_ofQ (cc := cX11_cuts) (maxL := 3) (ret := (some .int)) (by decide) rfl ?_
  intro p e s m args below meth c s₁ Q B hml hv hQ
  obtain ⟨rfl, hsz, hP, hK, hD0, hG, hW_, hN_, hZ, hH_⟩ := hv
  have hx := B.exec
  have hb := B.bytes
  have hr := B.returns
  have hts := atoms_spec (ws := wsX11_cuts) B.pre
  have hown : s.vm.findClass RX11 = some m.cls := findClass_of_methodNamed B.named
  have hlocks := B.notSynchronized
  subst hsz
  have hD := hD0.self (sz := s.heap.size)
  generalize hAe : va_A [(zo13rrirrrr h0 sc kp ik bl go ch bo), (zo4rrir go gR gO (nI lk) gS), (zaI gR cR 8 fR), (zaI gO cO 8 fO), (zo10ririliiriririr sc aTp (nI ts) aHl (nI nh) ed mi sn aHs (nI n) aWk (nI wz) aBk (nI bz) aFc), (zaR aHs cHs 8 fHs), (zaI aFc cFc 6 fFc)] s.heap.size = A at hD hQ hG hW_ hN_ hZ hH_ ⊢
  have hA : ∀ q : Nat, s.heap.size ≤ q → A q := fun q h => by rw [← hAe]; exact Or.inr h
  have hS : va_S A s.heap s.heap [] := va_S.rf
  have hl := lv_entry [.ref h0, .int x, .int y] (n := 3) (Nat.le_of_ble_eq_true rfl)
  rw [lg_entry_eq]
  generalize (lg_sl [.ref h0, .int x, .int y] ++ List.replicate (3 - (lg_sl [.ref h0, .int x, .int y]).length) Slot.unset).toArray = ls at hl ⊢
  generalize hag : ([.ref h0, .int x, .int y] : List Value).toArray = args at hts hQ ⊢
  have hl : lv_has ls 3 [(0, .ref h0), (1, .int x), (2, .int y)] := hl
  obtain ⟨H, hH⟩ : ∃ H : Heap, H = s.heap := ⟨_, rfl⟩
  rw [← hH] at hP
  rw [← hH]
  have hS : va_S A s.heap H [] := by rw [hH]; exact hS
  obtain ⟨locs, hlo⟩ : ∃ L : List Loc, L = [] := ⟨_, rfl⟩
  rw [← hlo] at hS
  rw [← hlo]
  clear hH hlo
  refine lv_aload_n hx hb dX11_cuts_0 rfl (lv_at hl 0 rfl) ?_
  refine va_get (D := (dC, dI)) (ci := 13) (v := .ref sc) (C := RX11) (T := TX11) (N := 7) hx hb hts kc_xCuts_0 hown hK hP 0 rfl rfl 0 (by decide) (hts (.fieldLink RX11 14 "MistHeaps" "scene" "LMistHeaps$Scene;") kc_xCuts_1) (fun _ h9 => h9) rfl dX11_cuts_1 ?_
  refine lv_iload_n hx hb dX11_cuts_4 rfl (lv_at hl 1 rfl) ?_
  refine lv_iload_n hx hb dX11_cuts_5 rfl (lv_at hl 2 rfl) ?_
  have hPc := hP.sub (ws' := [(zo10ririliiriririr sc aTp (nI ts) aHl (nI nh) ed mi sn aHs (nI n) aWk (nI wz) aBk (nI bz) aFc), (zaR aHs cHs 8 fHs)]) [4, 5] rfl
  have hKc := hK.sub (tys' := [(cHs, .object "MistHeaps$Heap")]) [2] rfl
  refine vp_callSi (va_runV (As := [.int x, .int y]) (rest := []) ⟨hx, hb, hml, hown, hts⟩ (c_areHeaps l dC dI sc aTp aHl aHs aWk aBk aFc ts nh n wz bz mi sn x y ed cHs fHs ya (zhs) (hn8)) (cwV 2 hts gX11_cuts_X8_areHeaps rfl rfl rfl hd_yX8_areHeaps ⟨Nat.le_of_ble_eq_true rfl, Nat.le_of_ble_eq_true rfl⟩) ⟨fun a U g mk q => by obtain ⟨q0, qP, qK⟩ := q; exact ⟨q0, mvP g mk a qP, mvK g mk a qK⟩, va_recv hK hP (ci := 10) (q := (RX8, TX8, 14)) (q0 := 4) rfl rfl, fun U hU hW => ⟨rfl, by rw [hU]; exact hPc, va_K.moved hW.alike hKc⟩⟩ rfl rfl hl.1 rfl (lv_room (Nat.le_of_ble_eq_true rfl)) dX11_cuts_6 ⟨Nat.le_of_ble_eq_true rfl, Nat.le_of_ble_eq_true rfl⟩).run (fun r_1 hw_2 => ?_)
  rcases hw_2 with ⟨rfl, j1, j2, hj1, hj2, rfl, rfl⟩ | ⟨rfl, hno⟩
  · skip
    refine lv_if_ne (tgt := 14) hx hb dX11_cuts_9 (by decide) (fun _ => ?_) (fun c_3 => absurd c_3 (by decide))
    refine lv_aload_n hx hb dX11_cuts_14 rfl (lv_at hl 0 rfl) ?_
    refine va_get (D := (dC, dI)) (ci := 13) (v := .ref go) (C := RX11) (T := TX11) (N := 7) hx hb hts kc_xCuts_0 hown hK hP 0 rfl rfl 4 (by decide) (hts (.fieldLink RX11 35 "MistHeaps" "goings" "LMistHeaps$Goings;") kc_xCuts_2) (fun _ h9 => h9) rfl dX11_cuts_15 ?_
    refine lv_aload_n hx hb dX11_cuts_18 rfl (lv_at hl 0 rfl) ?_
    refine va_get (D := (dC, dI)) (ci := 13) (v := .ref sc) (C := RX11) (T := TX11) (N := 7) hx hb hts kc_xCuts_0 hown hK hP 0 rfl rfl 0 (by decide) (hts (.fieldLink RX11 14 "MistHeaps" "scene" "LMistHeaps$Scene;") kc_xCuts_1) (fun _ h9 => h9) rfl dX11_cuts_19 ?_
    refine lv_aload_n hx hb dX11_cuts_22 rfl (lv_at hl 0 rfl) ?_
    refine va_get (D := (dC, dI)) (ci := 13) (v := .ref sc) (C := RX11) (T := TX11) (N := 7) hx hb hts kc_xCuts_0 hown hK hP 0 rfl rfl 0 (by decide) (hts (.fieldLink RX11 14 "MistHeaps" "scene" "LMistHeaps$Scene;") kc_xCuts_1) (fun _ h9 => h9) rfl dX11_cuts_23 ?_
    refine va_get (D := (dC, dI)) (ci := 10) (v := .int sn) (C := RX8) (T := TX8) (N := 14) hx hb hts kc_xCuts_3 hown hK hP 4 rfl rfl 6 (by decide) (hts (.fieldLink RX11 88 "MistHeaps$Scene" "snow" "I") kc_xCuts_4) (fun _ h9 => h9) rfl dX11_cuts_26 ?_
    have hPc := hP.sub (ws' := [(zo4rrir go gR gO (nI lk) gS), (zaI gR cR 8 fR), (zaI gO cO 8 fO), (zo10ririliiriririr sc aTp (nI ts) aHl (nI nh) ed mi sn aHs (nI n) aWk (nI wz) aBk (nI bz) aFc), (zaR aHs cHs 8 fHs), (zaI aFc cFc 6 fFc)]) [1, 2, 3, 4, 5, 6] rfl
    have hDc := hD.sub (ws' := [(zo4rrir go gR gO (nI lk) gS), (zaI gR cR 8 fR), (zaI gO cO 8 fO), (zo10ririliiriririr sc aTp (nI ts) aHl (nI nh) ed mi sn aHs (nI n) aWk (nI wz) aBk (nI bz) aFc), (zaR aHs cHs 8 fHs), (zaI aFc cFc 6 fFc)]) [1, 2, 3, 4, 5, 6] (by decide) rfl
    have hKc := hK.sub (tys' := [(cR, .int), (cO, .int), (cHs, .object "MistHeaps$Heap"), (cFc, .int)]) [0, 1, 2, 3] rfl
    have hFc := va_free (wc := [(zo4rrir go gR gO (nI lk) gS), (zaI gR cR 8 fR), (zaI gO cO 8 fO), (zo10ririliiriririr sc aTp (nI ts) aHl (nI nh) ed mi sn aHs (nI n) aWk (nI wz) aBk (nI bz) aFc), (zaR aHs cHs 8 fHs), (zaI aFc cFc 6 fFc)]) hD hS hA [1, 2, 3, 4, 5, 6] rfl
    refine va_callv (va_runV (As := [.ref sc, .int sn]) (rest := []) ⟨hx, hb, hml, hown, hts⟩ (c_link l dC dI gd  kA   sc go aTp aHl aHs aWk aBk aFc bW bA bE bC gR gO gS ts nh n wz bz lk cl mi sn sg cdd szz att nmb sn ed cHs cFc cbW cbA cbE cbC cR cO fFc fbW fbA fbE fbC fR fO yk yv yc fHs yi ya tpv cz H.size (zhs) (hn8) (zcl) (zE) (zC) (zyv) (zyc) (zHC) (zyt)) (cwV 2 hts gX11_cuts_X2_link rfl rfl rfl hd_yX2_link ⟨Nat.le_of_ble_eq_true rfl, Nat.le_of_ble_eq_true rfl⟩) ⟨fun a U g mk q => by obtain ⟨q0, q1, qP, qK, qD, qhG, qhW_, qhN_, qhZ, qhH_⟩ := q; exact ⟨q0, mvz g mk a q1, mvP g mk a qP, mvK g mk a qK, qD, qhG.mv g mk a, qhW_.mv g mk a, qhN_.mv g mk a, qhZ.mv g mk a, qhH_.mv g mk a⟩, va_recv hK hP (ci := 4) (q := (RX2, TX2, 4)) (q0 := 1) rfl rfl, fun U hU hW => ⟨rfl, by rw [hU], by rw [hU]; exact hPc, va_K.moved hW.alike hKc, hDc.weaken (fun _ _ _ _ => trivial), hG.call hS hU hW (fun q h => hFc q h), hW_.call hS hU hW (fun q h => hFc q h), hN_.call hS hU hW (fun q h => hFc q h), (hZ.sub [0, 1, 2, 3, 4] [0, 1, 2, 3] rfl rfl).call hS hU hW (fun q h => hFc q h), hH_.call hS hU hW (fun q h => hFc q h)⟩⟩ rfl rfl hl.1 rfl (lv_room (Nat.le_of_ble_eq_true rfl)) dX11_cuts_29 ⟨Nat.le_of_ble_eq_true rfl, Nat.le_of_ble_eq_true rfl⟩) hS (fun q _ h => hFc q h) hFc (fun u tC H1 locs htC hvm hw_5 hB hz1 hk1 hS => ?_)
    obtain ⟨lk9_6, fR9_7, fO9_8, fFc9_9⟩ := u
    try dsimp only at hw_5 hB
    obtain ⟨hP1, hK1, hD1⟩ := hB
    rw [htC] at hP1
    have hK1 := va_K.moved hvm.symm hK1
    obtain ⟨hP, hD⟩ := va_join (wr := [(zo13rrirrrr h0 sc kp ik bl go ch bo)]) (w1 := [(zo4rrir go gR gO (nI lk9_6) gS), (zaI gR cR 8 fR9_7), (zaI gO cO 8 fO9_8), (zo10ririliiriririr sc aTp (nI ts) aHl (nI nh) ed mi sn aHs (nI n) aWk (nI wz) aBk (nI bz) aFc), (zaR aHs cHs 8 fHs), (zaI aFc cFc 6 fFc9_9)]) hP hD [1, 2, 3, 4, 5, 6] [0] rfl rfl (by decide) (by decide) hk1 hFc hP1 hD1
    have hK := (hK.sub (tys' := []) [] rfl).app hK1
    generalize H1 = H at hP hS ⊢
    have hP : va_P (dC, dI) vwCl [(zo13rrirrrr h0 sc kp ik bl go ch bo), (zo4rrir go gR gO (nI lk9_6) gS), (zaI gR cR 8 fR9_7), (zaI gO cO 8 fO9_8), (zo10ririliiriririr sc aTp (nI ts) aHl (nI nh) ed mi sn aHs (nI n) aWk (nI wz) aBk (nI bz) aFc), (zaR aHs cHs 8 fHs), (zaI aFc cFc 6 fFc9_9)] H := hP
    have hD : va_D A [(zo13rrirrrr h0 sc kp ik bl go ch bo), (zo4rrir go gR gO (nI lk9_6) gS), (zaI gR cR 8 fR9_7), (zaI gO cO 8 fO9_8), (zo10ririliiriririr sc aTp (nI ts) aHl (nI nh) ed mi sn aHs (nI n) aWk (nI wz) aBk (nI bz) aFc), (zaR aHs cHs 8 fHs), (zaI aFc cFc 6 fFc9_9)] := hD
    have hK : va_K (dC, dI) vwCl [(cR, .int), (cO, .int), (cHs, .object "MistHeaps$Heap"), (cFc, .int)] s := hK
    obtain ⟨elk, hlR, hlO⟩ := hw_5
    obtain rfl := elk.symm
    refine lv_aload_n hx hb dX11_cuts_32 rfl (lv_at hl 0 rfl) ?_
    refine va_get (D := (dC, dI)) (ci := 13) (v := .ref go) (C := RX11) (T := TX11) (N := 7) hx hb hts kc_xCuts_0 hown hK hP 0 rfl rfl 4 (by decide) (hts (.fieldLink RX11 35 "MistHeaps" "goings" "LMistHeaps$Goings;") kc_xCuts_2) (fun _ h9 => h9) rfl dX11_cuts_33 ?_
    refine lv_iload_n hx hb dX11_cuts_36 rfl (lv_at hl 1 rfl) ?_
    refine lv_iload_n hx hb dX11_cuts_37 rfl (lv_at hl 2 rfl) ?_
    have hPc := hP.sub (ws' := [(zo4rrir go gR gO (nI n) gS), (zaI gO cO 8 fO9_8)]) [1, 3] rfl
    have hKc := hK.sub (tys' := [(cO, .int)]) [1] rfl
    refine vp_callSi (va_runV (As := [.int (nI j1), .int (nI j2)]) (rest := []) ⟨hx, hb, hml, hown, hts⟩ (c_breaks l dC dI go gR gO gS n j1 j2 cO fO9_8 (by omega) (by omega) (by omega)) (cwV 2 hts gX11_cuts_X2_breaks rfl rfl rfl hd_yX2_breaks ⟨Nat.le_of_ble_eq_true rfl, Nat.le_of_ble_eq_true rfl⟩) ⟨fun a U g mk q => by obtain ⟨q0, qP, qK⟩ := q; exact ⟨q0, mvP g mk a qP, mvK g mk a qK⟩, va_recv hK hP (ci := 4) (q := (RX2, TX2, 4)) (q0 := 1) rfl rfl, fun U hU hW => ⟨rfl, by rw [hU]; exact hPc, va_K.moved hW.alike hKc⟩⟩ rfl rfl hl.1 rfl (lv_room (Nat.le_of_ble_eq_true rfl)) dX11_cuts_38 ⟨Nat.le_of_ble_eq_true rfl, Nat.le_of_ble_eq_true rfl⟩).run (fun r_10 hw_11 => ?_)
    obtain rfl := hw_11
    rw [hQ]
    have hP9 := hP.sub (ws' := [(zo13rrirrrr h0 sc kp ik bl go ch bo), (zo4rrir go gR gO (nI n) gS), (zaI gR cR 8 fR9_7), (zaI gO cO 8 fO9_8), (zo10ririliiriririr sc aTp (nI ts) aHl (nI nh) ed mi sn aHs (nI n) aWk (nI wz) aBk (nI bz) aFc), (zaR aHs cHs 8 fHs), (zaI aFc cFc 6 fFc9_9)]) [0, 1, 2, 3, 4, 5, 6] rfl
    have hD9 := hD.sub (ws' := [(zo13rrirrrr h0 sc kp ik bl go ch bo), (zo4rrir go gR gO (nI n) gS), (zaI gR cR 8 fR9_7), (zaI gO cO 8 fO9_8), (zo10ririliiriririr sc aTp (nI ts) aHl (nI nh) ed mi sn aHs (nI n) aWk (nI wz) aBk (nI bz) aFc), (zaR aHs cHs 8 fHs), (zaI aFc cFc 6 fFc9_9)]) [0, 1, 2, 3, 4, 5, 6] (by decide) rfl
    have hK9 := hK.sub (tys' := [(cR, .int), (cO, .int), (cHs, .object "MistHeaps$Heap"), (cFc, .int)]) [0, 1, 2, 3] rfl
    exact W.iret (v := cxR fO9_8 n j1 j2) hx hb hr (fun tQ htQ hWQ => ⟨⟨(cxR fO9_8 n j1 j2), (n, fR9_7, fO9_8, fFc9_9), rfl, ⟨by omega, cu_x hn8 hj1 hj2 hlO⟩, by rw [htQ]; exact hP9, va_K.moved hWQ.alike hK9, hD9⟩, hS.F htQ⟩) hS.2.2 dX11_cuts_41
  · skip
    refine lv_if_ne (tgt := 14) hx hb dX11_cuts_9 (by decide) (fun c_12 => absurd c_12 (by decide)) (fun _ => ?_)
    refine lv_iconst (v := (-1)) hx hb dX11_cuts_12 (by decide) ?_
    rw [hQ]
    have hP9 := hP.sub (ws' := [(zo13rrirrrr h0 sc kp ik bl go ch bo), (zo4rrir go gR gO (nI lk) gS), (zaI gR cR 8 fR), (zaI gO cO 8 fO), (zo10ririliiriririr sc aTp (nI ts) aHl (nI nh) ed mi sn aHs (nI n) aWk (nI wz) aBk (nI bz) aFc), (zaR aHs cHs 8 fHs), (zaI aFc cFc 6 fFc)]) [0, 1, 2, 3, 4, 5, 6] rfl
    have hD9 := hD.sub (ws' := [(zo13rrirrrr h0 sc kp ik bl go ch bo), (zo4rrir go gR gO (nI lk) gS), (zaI gR cR 8 fR), (zaI gO cO 8 fO), (zo10ririliiriririr sc aTp (nI ts) aHl (nI nh) ed mi sn aHs (nI n) aWk (nI wz) aBk (nI bz) aFc), (zaR aHs cHs 8 fHs), (zaI aFc cFc 6 fFc)]) [0, 1, 2, 3, 4, 5, 6] (by decide) rfl
    have hK9 := hK.sub (tys' := [(cR, .int), (cO, .int), (cHs, .object "MistHeaps$Heap"), (cFc, .int)]) [0, 1, 2, 3] rfl
    exact W.iret (v := (-1)) hx hb hr (fun tQ htQ hWQ => ⟨⟨(-1), (lk, fR, fO, fFc), rfl, ⟨hlk, two_no hno⟩, by rw [htQ]; exact hP9, va_K.moved hWQ.alike hK9, hD9⟩, hS.F htQ⟩) hS.2.2 dX11_cuts_13
end mg18a
section mg18a
theorem ggX11_bears_X8_areHeaps : GoodIn wsX11_bears wsX8_areHeaps := gga_of 719 rfl rfl rfl
theorem gX11_bears_X8_areHeaps : GoodIn wsX11_bears (wsV RX11 141 RX8 yX8_areHeaps wsX8_areHeaps) := goodIn_app (ggh_of [716, 717, 718, 64] rfl rfl rfl) ggX11_bears_X8_areHeaps
theorem ggX11_bears_X2_link : GoodIn wsX11_bears wsX2_link := gga_of 724 rfl rfl rfl
theorem gX11_bears_X2_link : GoodIn wsX11_bears (wsV RX11 145 RX2 yX2_link wsX2_link) := goodIn_app (ggh_of [721, 722, 723, 66] rfl rfl rfl) ggX11_bears_X2_link
theorem ggX11_bears_X2_fewest : GoodIn wsX11_bears wsX2_fewest := gga_of 757 rfl rfl rfl
theorem gX11_bears_X2_fewest : GoodIn wsX11_bears (wsV RX11 148 RX2 yX2_fewest wsX2_fewest) := goodIn_app (ggh_of [754, 755, 756, 66] rfl rfl rfl) ggX11_bears_X2_fewest
theorem ggX11_looked_X2_link : GoodIn wsX11_looked wsX2_link := gga_of 724 rfl rfl rfl
theorem gX11_looked_X2_link : GoodIn wsX11_looked (wsV RX11 145 RX2 yX2_link wsX2_link) := goodIn_app (ggh_of [721, 722, 723, 66] rfl rfl rfl) ggX11_looked_X2_link
theorem ggX11_looked_X2_isGoing : GoodIn wsX11_looked wsX2_isGoing := gga_of 774 rfl rfl rfl
theorem gX11_looked_X2_isGoing : GoodIn wsX11_looked (wsV RX11 227 RX2 yX2_isGoing wsX2_isGoing) := goodIn_app (ggh_of [910, 772, 773, 66] rfl rfl rfl) ggX11_looked_X2_isGoing
theorem ggX11_build_X8_areHeaps : GoodIn wsX11_build wsX8_areHeaps := gga_of 719 rfl rfl rfl
theorem gX11_build_X8_areHeaps : GoodIn wsX11_build (wsV RX11 141 RX8 yX8_areHeaps wsX8_areHeaps) := goodIn_app (ggh_of [716, 717, 718, 64] rfl rfl rfl) ggX11_build_X8_areHeaps
theorem ggX11_build_X2_bestCell : GoodIn wsX11_build wsX2_bestCell := gga_of 794 rfl rfl rfl
theorem gX11_build_X2_bestCell : GoodIn wsX11_build (wsV RX11 159 RX2 yX2_bestCell wsX2_bestCell) := goodIn_app (ggh_of [791, 792, 793, 66] rfl rfl rfl) ggX11_build_X2_bestCell
theorem ggX11_build_X2_join : GoodIn wsX11_build wsX2_join := gga_of 800 rfl rfl rfl
theorem gX11_build_X2_join : GoodIn wsX11_build (wsV RX11 163 RX2 yX2_join wsX2_join) := goodIn_app (ggh_of [801, 798, 799, 66] rfl rfl rfl) ggX11_build_X2_join
theorem ggX11_build_X2_fewest : GoodIn wsX11_build wsX2_fewest := gga_of 757 rfl rfl rfl
theorem gX11_build_X2_fewest : GoodIn wsX11_build (wsV RX11 148 RX2 yX2_fewest wsX2_fewest) := goodIn_app (ggh_of [754, 755, 756, 66] rfl rfl rfl) ggX11_build_X2_fewest
theorem ggX11_drift_X11_isCell : GoodIn wsX11_drift wsX11_isCell := gga_of 549 rfl rfl rfl
theorem gX11_drift_X11_isCell : GoodIn wsX11_drift (va_wsS RX11 94 yX11_isCell wsX11_isCell) := goodIn_app (ggh_of [547, 548, 63] rfl rfl rfl) ggX11_drift_X11_isCell
theorem ggX11_drift_X8_driftOn : GoodIn wsX11_drift wsX8_driftOn := gga_of 809 rfl rfl rfl
theorem gX11_drift_X8_driftOn : GoodIn wsX11_drift (wsV RX11 166 RX8 yX8_driftOn wsX8_driftOn) := goodIn_app (ggh_of [806, 807, 808, 64] rfl rfl rfl) ggX11_drift_X8_driftOn
noncomputable def dk18cpub_cX11_bears_0 : List (Nat × List Nat) := [(0, [42]), (1, [180, 0, 14]), (4, [27]), (5, [28]), (6, [182, 0, 141]), (9, [154, 0, 5]), (12, [2]), (13, [172]), (14, [16, 9]), (16, [62]), (17, [29]), (18, [155, 0, 38]), (21, [42]), (22, [180, 0, 35]), (25, [42]), (26, [180, 0, 14]), (29, [29]), (30, [182, 0, 145]), (33, [42]), (34, [180, 0, 35]), (37, [27]), (38, [28]), (39, [3]), (40, [182, 0, 148]), (43, [16, 251]), (45, [159, 0, 5]), (48, [29]), (49, [172]), (50, [132, 3, 255]), (53, [167, 255, 220]), (56, [16, 251]), (58, [172])]
set_option maxRecDepth 100000 in
theorem dk18cpub_cX11_bears_0_a : btA cX11_bears dk18cpub_cX11_bears_0 = true := by decide +kernel
theorem dX11_bears_0 : decode cX11_bears 0 = .ok (.aload_n 0, 1) := bd42 (btAt dk18cpub_cX11_bears_0_a 0 rfl)
theorem dX11_bears_1 : decode cX11_bears 1 = .ok (.getfield 14, 3) := bd180 (a := 0) (b := 14) (btAt dk18cpub_cX11_bears_0_a 1 rfl)
theorem dX11_bears_4 : decode cX11_bears 4 = .ok (.iload_n 1, 1) := bd27 (btAt dk18cpub_cX11_bears_0_a 2 rfl)
theorem dX11_bears_5 : decode cX11_bears 5 = .ok (.iload_n 2, 1) := bd28 (btAt dk18cpub_cX11_bears_0_a 3 rfl)
theorem dX11_bears_6 : decode cX11_bears 6 = .ok (.invokevirtual 141, 3) := bd182 (a := 0) (b := 141) (btAt dk18cpub_cX11_bears_0_a 4 rfl)
theorem dX11_bears_9 : decode cX11_bears 9 = .ok (.ifCond .ne 5, 3) := bd154 (a := 0) (b := 5) (btAt dk18cpub_cX11_bears_0_a 5 rfl)
theorem dX11_bears_12 : decode cX11_bears 12 = .ok (.iconst (-1), 1) := bd2 (btAt dk18cpub_cX11_bears_0_a 6 rfl)
theorem dX11_bears_13 : decode cX11_bears 13 = .ok (.ireturn, 1) := bd172 (btAt dk18cpub_cX11_bears_0_a 7 rfl)
theorem dX11_bears_14 : decode cX11_bears 14 = .ok (.bipush 9, 2) := bd16 (a := 9) (btAt dk18cpub_cX11_bears_0_a 8 rfl)
theorem dX11_bears_16 : decode cX11_bears 16 = .ok (.istore_n 3, 1) := bd62 (btAt dk18cpub_cX11_bears_0_a 9 rfl)
theorem dX11_bears_17 : decode cX11_bears 17 = .ok (.iload_n 3, 1) := bd29 (btAt dk18cpub_cX11_bears_0_a 10 rfl)
theorem dX11_bears_18 : decode cX11_bears 18 = .ok (.ifCond .lt 38, 3) := bd155 (a := 0) (b := 38) (btAt dk18cpub_cX11_bears_0_a 11 rfl)
theorem dX11_bears_21 : decode cX11_bears 21 = .ok (.aload_n 0, 1) := bd42 (btAt dk18cpub_cX11_bears_0_a 12 rfl)
theorem dX11_bears_22 : decode cX11_bears 22 = .ok (.getfield 35, 3) := bd180 (a := 0) (b := 35) (btAt dk18cpub_cX11_bears_0_a 13 rfl)
theorem dX11_bears_25 : decode cX11_bears 25 = .ok (.aload_n 0, 1) := bd42 (btAt dk18cpub_cX11_bears_0_a 14 rfl)
theorem dX11_bears_26 : decode cX11_bears 26 = .ok (.getfield 14, 3) := bd180 (a := 0) (b := 14) (btAt dk18cpub_cX11_bears_0_a 15 rfl)
theorem dX11_bears_29 : decode cX11_bears 29 = .ok (.iload_n 3, 1) := bd29 (btAt dk18cpub_cX11_bears_0_a 16 rfl)
theorem dX11_bears_30 : decode cX11_bears 30 = .ok (.invokevirtual 145, 3) := bd182 (a := 0) (b := 145) (btAt dk18cpub_cX11_bears_0_a 17 rfl)
theorem dX11_bears_33 : decode cX11_bears 33 = .ok (.aload_n 0, 1) := bd42 (btAt dk18cpub_cX11_bears_0_a 18 rfl)
theorem dX11_bears_34 : decode cX11_bears 34 = .ok (.getfield 35, 3) := bd180 (a := 0) (b := 35) (btAt dk18cpub_cX11_bears_0_a 19 rfl)
theorem dX11_bears_37 : decode cX11_bears 37 = .ok (.iload_n 1, 1) := bd27 (btAt dk18cpub_cX11_bears_0_a 20 rfl)
theorem dX11_bears_38 : decode cX11_bears 38 = .ok (.iload_n 2, 1) := bd28 (btAt dk18cpub_cX11_bears_0_a 21 rfl)
theorem dX11_bears_39 : decode cX11_bears 39 = .ok (.iconst 0, 1) := bd3 (btAt dk18cpub_cX11_bears_0_a 22 rfl)
theorem dX11_bears_40 : decode cX11_bears 40 = .ok (.invokevirtual 148, 3) := bd182 (a := 0) (b := 148) (btAt dk18cpub_cX11_bears_0_a 23 rfl)
theorem dX11_bears_43 : decode cX11_bears 43 = .ok (.bipush (-5), 2) := bd16 (a := 251) (btAt dk18cpub_cX11_bears_0_a 24 rfl)
theorem dX11_bears_45 : decode cX11_bears 45 = .ok (.if_icmp .eq 5, 3) := bd159 (a := 0) (b := 5) (btAt dk18cpub_cX11_bears_0_a 25 rfl)
theorem dX11_bears_48 : decode cX11_bears 48 = .ok (.iload_n 3, 1) := bd29 (btAt dk18cpub_cX11_bears_0_a 26 rfl)
theorem dX11_bears_49 : decode cX11_bears 49 = .ok (.ireturn, 1) := bd172 (btAt dk18cpub_cX11_bears_0_a 27 rfl)
theorem dX11_bears_50 : decode cX11_bears 50 = .ok (.iinc 3 (-1), 3) := bd132 (a := 3) (b := 255) (btAt dk18cpub_cX11_bears_0_a 28 rfl)
theorem dX11_bears_53 : decode cX11_bears 53 = .ok (.goto (-36), 3) := bd167 (a := 255) (b := 220) (btAt dk18cpub_cX11_bears_0_a 29 rfl)
theorem dX11_bears_56 : decode cX11_bears 56 = .ok (.bipush (-5), 2) := bd16 (a := 251) (btAt dk18cpub_cX11_bears_0_a 30 rfl)
theorem dX11_bears_58 : decode cX11_bears 58 = .ok (.ireturn, 1) := bd172 (btAt dk18cpub_cX11_bears_0_a 31 rfl)
noncomputable def dk18cpub_cX11_looked_0 : List (Nat × List Nat) := [(0, [42]), (1, [180, 0, 35]), (4, [42]), (5, [180, 0, 14]), (8, [42]), (9, [180, 0, 14]), (12, [180, 0, 88]), (15, [182, 0, 145]), (18, [4]), (19, [60]), (20, [27]), (21, [42]), (22, [180, 0, 14]), (25, [180, 0, 221]), (28, [162, 0, 49]), (31, [42]), (32, [180, 0, 35]), (35, [42]), (36, [180, 0, 14]), (39, [180, 0, 224]), (42, [27]), (43, [4]), (44, [100]), (45, [46]), (46, [42]), (47, [180, 0, 14]), (50, [180, 0, 224]), (53, [27]), (54, [46]), (55, [182, 0, 227]), (58, [154, 0, 13]), (61, [42]), (62, [180, 0, 14]), (65, [180, 0, 224]), (68, [27]), (69, [46]), (71, [132, 1, 1]), (74, [167, 255, 202]), (77, [16, 251]), (79, [172])]
set_option maxRecDepth 100000 in
theorem dk18cpub_cX11_looked_0_a : btA cX11_looked dk18cpub_cX11_looked_0 = true := by decide +kernel
theorem dX11_looked_0 : decode cX11_looked 0 = .ok (.aload_n 0, 1) := bd42 (btAt dk18cpub_cX11_looked_0_a 0 rfl)
theorem dX11_looked_1 : decode cX11_looked 1 = .ok (.getfield 35, 3) := bd180 (a := 0) (b := 35) (btAt dk18cpub_cX11_looked_0_a 1 rfl)
theorem dX11_looked_4 : decode cX11_looked 4 = .ok (.aload_n 0, 1) := bd42 (btAt dk18cpub_cX11_looked_0_a 2 rfl)
theorem dX11_looked_5 : decode cX11_looked 5 = .ok (.getfield 14, 3) := bd180 (a := 0) (b := 14) (btAt dk18cpub_cX11_looked_0_a 3 rfl)
theorem dX11_looked_8 : decode cX11_looked 8 = .ok (.aload_n 0, 1) := bd42 (btAt dk18cpub_cX11_looked_0_a 4 rfl)
theorem dX11_looked_9 : decode cX11_looked 9 = .ok (.getfield 14, 3) := bd180 (a := 0) (b := 14) (btAt dk18cpub_cX11_looked_0_a 5 rfl)
theorem dX11_looked_12 : decode cX11_looked 12 = .ok (.getfield 88, 3) := bd180 (a := 0) (b := 88) (btAt dk18cpub_cX11_looked_0_a 6 rfl)
theorem dX11_looked_15 : decode cX11_looked 15 = .ok (.invokevirtual 145, 3) := bd182 (a := 0) (b := 145) (btAt dk18cpub_cX11_looked_0_a 7 rfl)
theorem dX11_looked_18 : decode cX11_looked 18 = .ok (.iconst 1, 1) := bd4 (btAt dk18cpub_cX11_looked_0_a 8 rfl)
theorem dX11_looked_19 : decode cX11_looked 19 = .ok (.istore_n 1, 1) := bd60 (btAt dk18cpub_cX11_looked_0_a 9 rfl)
theorem dX11_looked_20 : decode cX11_looked 20 = .ok (.iload_n 1, 1) := bd27 (btAt dk18cpub_cX11_looked_0_a 10 rfl)
theorem dX11_looked_21 : decode cX11_looked 21 = .ok (.aload_n 0, 1) := bd42 (btAt dk18cpub_cX11_looked_0_a 11 rfl)
theorem dX11_looked_22 : decode cX11_looked 22 = .ok (.getfield 14, 3) := bd180 (a := 0) (b := 14) (btAt dk18cpub_cX11_looked_0_a 12 rfl)
theorem dX11_looked_25 : decode cX11_looked 25 = .ok (.getfield 221, 3) := bd180 (a := 0) (b := 221) (btAt dk18cpub_cX11_looked_0_a 13 rfl)
theorem dX11_looked_28 : decode cX11_looked 28 = .ok (.if_icmp .ge 49, 3) := bd162 (a := 0) (b := 49) (btAt dk18cpub_cX11_looked_0_a 14 rfl)
theorem dX11_looked_31 : decode cX11_looked 31 = .ok (.aload_n 0, 1) := bd42 (btAt dk18cpub_cX11_looked_0_a 15 rfl)
theorem dX11_looked_32 : decode cX11_looked 32 = .ok (.getfield 35, 3) := bd180 (a := 0) (b := 35) (btAt dk18cpub_cX11_looked_0_a 16 rfl)
theorem dX11_looked_35 : decode cX11_looked 35 = .ok (.aload_n 0, 1) := bd42 (btAt dk18cpub_cX11_looked_0_a 17 rfl)
theorem dX11_looked_36 : decode cX11_looked 36 = .ok (.getfield 14, 3) := bd180 (a := 0) (b := 14) (btAt dk18cpub_cX11_looked_0_a 18 rfl)
theorem dX11_looked_39 : decode cX11_looked 39 = .ok (.getfield 224, 3) := bd180 (a := 0) (b := 224) (btAt dk18cpub_cX11_looked_0_a 19 rfl)
theorem dX11_looked_42 : decode cX11_looked 42 = .ok (.iload_n 1, 1) := bd27 (btAt dk18cpub_cX11_looked_0_a 20 rfl)
theorem dX11_looked_43 : decode cX11_looked 43 = .ok (.iconst 1, 1) := bd4 (btAt dk18cpub_cX11_looked_0_a 21 rfl)
theorem dX11_looked_44 : decode cX11_looked 44 = .ok (.isub, 1) := bd100 (btAt dk18cpub_cX11_looked_0_a 22 rfl)
theorem dX11_looked_45 : decode cX11_looked 45 = .ok (.iaload, 1) := bd46 (btAt dk18cpub_cX11_looked_0_a 23 rfl)
theorem dX11_looked_46 : decode cX11_looked 46 = .ok (.aload_n 0, 1) := bd42 (btAt dk18cpub_cX11_looked_0_a 24 rfl)
theorem dX11_looked_47 : decode cX11_looked 47 = .ok (.getfield 14, 3) := bd180 (a := 0) (b := 14) (btAt dk18cpub_cX11_looked_0_a 25 rfl)
theorem dX11_looked_50 : decode cX11_looked 50 = .ok (.getfield 224, 3) := bd180 (a := 0) (b := 224) (btAt dk18cpub_cX11_looked_0_a 26 rfl)
theorem dX11_looked_53 : decode cX11_looked 53 = .ok (.iload_n 1, 1) := bd27 (btAt dk18cpub_cX11_looked_0_a 27 rfl)
theorem dX11_looked_54 : decode cX11_looked 54 = .ok (.iaload, 1) := bd46 (btAt dk18cpub_cX11_looked_0_a 28 rfl)
theorem dX11_looked_55 : decode cX11_looked 55 = .ok (.invokevirtual 227, 3) := bd182 (a := 0) (b := 227) (btAt dk18cpub_cX11_looked_0_a 29 rfl)
theorem dX11_looked_58 : decode cX11_looked 58 = .ok (.ifCond .ne 13, 3) := bd154 (a := 0) (b := 13) (btAt dk18cpub_cX11_looked_0_a 30 rfl)
theorem dX11_looked_61 : decode cX11_looked 61 = .ok (.aload_n 0, 1) := bd42 (btAt dk18cpub_cX11_looked_0_a 31 rfl)
theorem dX11_looked_62 : decode cX11_looked 62 = .ok (.getfield 14, 3) := bd180 (a := 0) (b := 14) (btAt dk18cpub_cX11_looked_0_a 32 rfl)
theorem dX11_looked_65 : decode cX11_looked 65 = .ok (.getfield 224, 3) := bd180 (a := 0) (b := 224) (btAt dk18cpub_cX11_looked_0_a 33 rfl)
theorem dX11_looked_68 : decode cX11_looked 68 = .ok (.iload_n 1, 1) := bd27 (btAt dk18cpub_cX11_looked_0_a 34 rfl)
theorem dX11_looked_69 : decode cX11_looked 69 = .ok (.iaload, 1) := bd46 (btAt dk18cpub_cX11_looked_0_a 35 rfl)
theorem dX11_looked_71 : decode cX11_looked 71 = .ok (.iinc 1 1, 3) := bd132 (a := 1) (b := 1) (btAt dk18cpub_cX11_looked_0_a 36 rfl)
theorem dX11_looked_74 : decode cX11_looked 74 = .ok (.goto (-54), 3) := bd167 (a := 255) (b := 202) (btAt dk18cpub_cX11_looked_0_a 37 rfl)
theorem dX11_looked_77 : decode cX11_looked 77 = .ok (.bipush (-5), 2) := bd16 (a := 251) (btAt dk18cpub_cX11_looked_0_a 38 rfl)
theorem dX11_looked_79 : decode cX11_looked 79 = .ok (.ireturn, 1) := bd172 (btAt dk18cpub_cX11_looked_0_a 39 rfl)
noncomputable def dk18cpub_cX11_looked_40 : List (Nat × List Nat) := [(70, [172])]
set_option maxRecDepth 100000 in
theorem dk18cpub_cX11_looked_40_a : btA cX11_looked dk18cpub_cX11_looked_40 = true := by decide +kernel
theorem dX11_looked_70 : decode cX11_looked 70 = .ok (.ireturn, 1) := bd172 (btAt dk18cpub_cX11_looked_40_a 0 rfl)
noncomputable def dk18cpub_cX11_build_0 : List (Nat × List Nat) := [(0, [42]), (1, [180, 0, 14]), (4, [27]), (5, [28]), (6, [182, 0, 141]), (9, [153, 0, 12]), (12, [29]), (13, [155, 0, 8]), (16, [29]), (17, [4]), (18, [164, 0, 5]), (21, [2]), (22, [172]), (23, [42]), (24, [180, 0, 35]), (27, [42]), (28, [180, 0, 14]), (31, [27]), (32, [28]), (33, [182, 0, 159]), (36, [54, 4]), (38, [21, 4]), (40, [16, 251]), (42, [159, 0, 7]), (45, [29]), (46, [154, 0, 6]), (49, [21, 4]), (51, [172]), (52, [42]), (53, [180, 0, 35]), (56, [42]), (57, [180, 0, 14]), (60, [21, 4]), (62, [182, 0, 163]), (65, [42]), (66, [180, 0, 35]), (69, [27]), (70, [28]), (71, [3]), (72, [182, 0, 148])]
set_option maxRecDepth 100000 in
theorem dk18cpub_cX11_build_0_a : btA cX11_build dk18cpub_cX11_build_0 = true := by decide +kernel
theorem dX11_build_0 : decode cX11_build 0 = .ok (.aload_n 0, 1) := bd42 (btAt dk18cpub_cX11_build_0_a 0 rfl)
theorem dX11_build_1 : decode cX11_build 1 = .ok (.getfield 14, 3) := bd180 (a := 0) (b := 14) (btAt dk18cpub_cX11_build_0_a 1 rfl)
theorem dX11_build_4 : decode cX11_build 4 = .ok (.iload_n 1, 1) := bd27 (btAt dk18cpub_cX11_build_0_a 2 rfl)
theorem dX11_build_5 : decode cX11_build 5 = .ok (.iload_n 2, 1) := bd28 (btAt dk18cpub_cX11_build_0_a 3 rfl)
theorem dX11_build_6 : decode cX11_build 6 = .ok (.invokevirtual 141, 3) := bd182 (a := 0) (b := 141) (btAt dk18cpub_cX11_build_0_a 4 rfl)
theorem dX11_build_9 : decode cX11_build 9 = .ok (.ifCond .eq 12, 3) := bd153 (a := 0) (b := 12) (btAt dk18cpub_cX11_build_0_a 5 rfl)
theorem dX11_build_12 : decode cX11_build 12 = .ok (.iload_n 3, 1) := bd29 (btAt dk18cpub_cX11_build_0_a 6 rfl)
theorem dX11_build_13 : decode cX11_build 13 = .ok (.ifCond .lt 8, 3) := bd155 (a := 0) (b := 8) (btAt dk18cpub_cX11_build_0_a 7 rfl)
theorem dX11_build_16 : decode cX11_build 16 = .ok (.iload_n 3, 1) := bd29 (btAt dk18cpub_cX11_build_0_a 8 rfl)
theorem dX11_build_17 : decode cX11_build 17 = .ok (.iconst 1, 1) := bd4 (btAt dk18cpub_cX11_build_0_a 9 rfl)
theorem dX11_build_18 : decode cX11_build 18 = .ok (.if_icmp .le 5, 3) := bd164 (a := 0) (b := 5) (btAt dk18cpub_cX11_build_0_a 10 rfl)
theorem dX11_build_21 : decode cX11_build 21 = .ok (.iconst (-1), 1) := bd2 (btAt dk18cpub_cX11_build_0_a 11 rfl)
theorem dX11_build_22 : decode cX11_build 22 = .ok (.ireturn, 1) := bd172 (btAt dk18cpub_cX11_build_0_a 12 rfl)
theorem dX11_build_23 : decode cX11_build 23 = .ok (.aload_n 0, 1) := bd42 (btAt dk18cpub_cX11_build_0_a 13 rfl)
theorem dX11_build_24 : decode cX11_build 24 = .ok (.getfield 35, 3) := bd180 (a := 0) (b := 35) (btAt dk18cpub_cX11_build_0_a 14 rfl)
theorem dX11_build_27 : decode cX11_build 27 = .ok (.aload_n 0, 1) := bd42 (btAt dk18cpub_cX11_build_0_a 15 rfl)
theorem dX11_build_28 : decode cX11_build 28 = .ok (.getfield 14, 3) := bd180 (a := 0) (b := 14) (btAt dk18cpub_cX11_build_0_a 16 rfl)
theorem dX11_build_31 : decode cX11_build 31 = .ok (.iload_n 1, 1) := bd27 (btAt dk18cpub_cX11_build_0_a 17 rfl)
theorem dX11_build_32 : decode cX11_build 32 = .ok (.iload_n 2, 1) := bd28 (btAt dk18cpub_cX11_build_0_a 18 rfl)
theorem dX11_build_33 : decode cX11_build 33 = .ok (.invokevirtual 159, 3) := bd182 (a := 0) (b := 159) (btAt dk18cpub_cX11_build_0_a 19 rfl)
theorem dX11_build_36 : decode cX11_build 36 = .ok (.istore 4, 2) := bd54 (a := 4) (btAt dk18cpub_cX11_build_0_a 20 rfl)
theorem dX11_build_38 : decode cX11_build 38 = .ok (.iload 4, 2) := bd21 (a := 4) (btAt dk18cpub_cX11_build_0_a 21 rfl)
theorem dX11_build_40 : decode cX11_build 40 = .ok (.bipush (-5), 2) := bd16 (a := 251) (btAt dk18cpub_cX11_build_0_a 22 rfl)
theorem dX11_build_42 : decode cX11_build 42 = .ok (.if_icmp .eq 7, 3) := bd159 (a := 0) (b := 7) (btAt dk18cpub_cX11_build_0_a 23 rfl)
theorem dX11_build_45 : decode cX11_build 45 = .ok (.iload_n 3, 1) := bd29 (btAt dk18cpub_cX11_build_0_a 24 rfl)
theorem dX11_build_46 : decode cX11_build 46 = .ok (.ifCond .ne 6, 3) := bd154 (a := 0) (b := 6) (btAt dk18cpub_cX11_build_0_a 25 rfl)
theorem dX11_build_49 : decode cX11_build 49 = .ok (.iload 4, 2) := bd21 (a := 4) (btAt dk18cpub_cX11_build_0_a 26 rfl)
theorem dX11_build_51 : decode cX11_build 51 = .ok (.ireturn, 1) := bd172 (btAt dk18cpub_cX11_build_0_a 27 rfl)
theorem dX11_build_52 : decode cX11_build 52 = .ok (.aload_n 0, 1) := bd42 (btAt dk18cpub_cX11_build_0_a 28 rfl)
theorem dX11_build_53 : decode cX11_build 53 = .ok (.getfield 35, 3) := bd180 (a := 0) (b := 35) (btAt dk18cpub_cX11_build_0_a 29 rfl)
theorem dX11_build_56 : decode cX11_build 56 = .ok (.aload_n 0, 1) := bd42 (btAt dk18cpub_cX11_build_0_a 30 rfl)
theorem dX11_build_57 : decode cX11_build 57 = .ok (.getfield 14, 3) := bd180 (a := 0) (b := 14) (btAt dk18cpub_cX11_build_0_a 31 rfl)
theorem dX11_build_60 : decode cX11_build 60 = .ok (.iload 4, 2) := bd21 (a := 4) (btAt dk18cpub_cX11_build_0_a 32 rfl)
theorem dX11_build_62 : decode cX11_build 62 = .ok (.invokevirtual 163, 3) := bd182 (a := 0) (b := 163) (btAt dk18cpub_cX11_build_0_a 33 rfl)
theorem dX11_build_65 : decode cX11_build 65 = .ok (.aload_n 0, 1) := bd42 (btAt dk18cpub_cX11_build_0_a 34 rfl)
theorem dX11_build_66 : decode cX11_build 66 = .ok (.getfield 35, 3) := bd180 (a := 0) (b := 35) (btAt dk18cpub_cX11_build_0_a 35 rfl)
theorem dX11_build_69 : decode cX11_build 69 = .ok (.iload_n 1, 1) := bd27 (btAt dk18cpub_cX11_build_0_a 36 rfl)
theorem dX11_build_70 : decode cX11_build 70 = .ok (.iload_n 2, 1) := bd28 (btAt dk18cpub_cX11_build_0_a 37 rfl)
theorem dX11_build_71 : decode cX11_build 71 = .ok (.iconst 0, 1) := bd3 (btAt dk18cpub_cX11_build_0_a 38 rfl)
theorem dX11_build_72 : decode cX11_build 72 = .ok (.invokevirtual 148, 3) := bd182 (a := 0) (b := 148) (btAt dk18cpub_cX11_build_0_a 39 rfl)
noncomputable def dk18cpub_cX11_build_40 : List (Nat × List Nat) := [(75, [172])]
set_option maxRecDepth 100000 in
theorem dk18cpub_cX11_build_40_a : btA cX11_build dk18cpub_cX11_build_40 = true := by decide +kernel
theorem dX11_build_75 : decode cX11_build 75 = .ok (.ireturn, 1) := bd172 (btAt dk18cpub_cX11_build_40_a 0 rfl)
noncomputable def dk18cpub_cX11_drift_0 : List (Nat × List Nat) := [(0, [27]), (1, [184, 0, 94]), (4, [153, 0, 14]), (7, [42]), (8, [180, 0, 14]), (11, [27]), (12, [182, 0, 166]), (15, [167, 0, 4]), (18, [2]), (19, [172])]
set_option maxRecDepth 100000 in
theorem dk18cpub_cX11_drift_0_a : btA cX11_drift dk18cpub_cX11_drift_0 = true := by decide +kernel
theorem dX11_drift_0 : decode cX11_drift 0 = .ok (.iload_n 1, 1) := bd27 (btAt dk18cpub_cX11_drift_0_a 0 rfl)
theorem dX11_drift_1 : decode cX11_drift 1 = .ok (.invokestatic 94, 3) := bd184 (a := 0) (b := 94) (btAt dk18cpub_cX11_drift_0_a 1 rfl)
theorem dX11_drift_4 : decode cX11_drift 4 = .ok (.ifCond .eq 14, 3) := bd153 (a := 0) (b := 14) (btAt dk18cpub_cX11_drift_0_a 2 rfl)
theorem dX11_drift_7 : decode cX11_drift 7 = .ok (.aload_n 0, 1) := bd42 (btAt dk18cpub_cX11_drift_0_a 3 rfl)
theorem dX11_drift_8 : decode cX11_drift 8 = .ok (.getfield 14, 3) := bd180 (a := 0) (b := 14) (btAt dk18cpub_cX11_drift_0_a 4 rfl)
theorem dX11_drift_11 : decode cX11_drift 11 = .ok (.iload_n 1, 1) := bd27 (btAt dk18cpub_cX11_drift_0_a 5 rfl)
theorem dX11_drift_12 : decode cX11_drift 12 = .ok (.invokevirtual 166, 3) := bd182 (a := 0) (b := 166) (btAt dk18cpub_cX11_drift_0_a 6 rfl)
theorem dX11_drift_15 : decode cX11_drift 15 = .ok (.goto 4, 3) := bd167 (a := 0) (b := 4) (btAt dk18cpub_cX11_drift_0_a 7 rfl)
theorem dX11_drift_18 : decode cX11_drift 18 = .ok (.iconst (-1), 1) := bd2 (btAt dk18cpub_cX11_drift_0_a 8 rfl)
theorem dX11_drift_19 : decode cX11_drift 19 = .ok (.ireturn, 1) := bd172 (btAt dk18cpub_cX11_drift_0_a 9 rfl)
theorem kc_xBears_0 : ∀ w ∈ wsX110, w ∈ wsX11_bears := fun w h => List.mem_cons_of_mem _ (gin_wsX110 w h)
theorem kc_xBears_1 : (.fieldLink RX11 14 "MistHeaps" "scene" "LMistHeaps$Scene;" : Cond) ∈ wsX11_bears := kc_of 328 rfl rfl rfl
theorem kc_xBears_2 : (.fieldLink RX11 35 "MistHeaps" "goings" "LMistHeaps$Goings;" : Cond) ∈ wsX11_bears := kc_of 332 rfl rfl rfl
set_option maxHeartbeats 4000000 in
set_option maxRecDepth 100000 in
theorem c_xBears (l : Launch) (dC : Nat → ClassId) (dI : Nat → Nat → Nat) (gd : Nat → Nat)  (kA : Nat)   (h0 : Nat) (sc : Nat) (kp : Nat) (bl : Nat) (go : Nat) (ch : Nat) (bo : Nat) (aTp : Nat) (aHl : Nat) (aHs : Nat) (aWk : Nat) (aBk : Nat) (aFc : Nat) (bW : Nat) (bA : Nat) (bE : Nat) (bC : Nat) (gR : Nat) (gO : Nat) (gS : Nat) (ts : Nat) (nh : Nat) (n : Nat) (wz : Nat) (bz : Nat) (lk : Nat) (cl : Nat) (mi : Int32) (sn : Int32) (sg : Int32) (cdd : Int32) (szz : Int32) (att : Int32) (nmb : Int32) (ik : Int32) (x : Int32) (y : Int32) (ed : Int64) (cHs : ClassId) (cFc : ClassId) (cbW : ClassId) (cbA : ClassId) (cbE : ClassId) (cbC : ClassId) (cR : ClassId) (cO : ClassId) (fFc : Nat → Int32) (fbW : Nat → Int32) (fbA : Nat → Int32) (fbE : Nat → Int32) (fbC : Nat → Int32) (fR : Nat → Int32) (fO : Nat → Int32) (yk : Nat → Int32) (yv : Nat → Int32) (yc : Nat → Int32) (fHs : Nat → Option Nat) (yi : Nat → Nat) (ya : Nat → Nat) (tpv : Value) (cz : List pCla) (sz : Nat) (zhs : ∀ k0, k0 < n → fHs k0 = some (ya k0)) (hn8 : n ≤ 8) (zcl : cl ≤ 10) (zE : ∀ k0, k0 < 10 → ∃ e0 : Nat, e0 ≤ 100 ∧ fbE k0 = nI e0) (zC : ∀ k0, k0 < 100 → okC (fbC k0)) (zyv : ∀ k0, k0 < n → ∃ v0 : Nat, v0 ≤ 9 ∧ yv k0 = nI v0) (zyc : ∀ k0, k0 < n → ∃ v0 : Nat, v0 < 36 ∧ yc k0 = nI v0) (hlk : lk ≤ 8) (zHC : HC cl sg fbW fbA fbE fbC cz ∧ WfC cz) (zyt : ∀ k0, k0 < n → hpT (yi k0) (yk k0)) : Met l yX11_bears wsX11_bears ({ frames := 7, cells := 0, slots := 0, locals := 149 } : Room) (va_Pc [.ref h0, .int x, .int y] (fun U => U.heap.size = sz ∧ va_P (dC, dI) vwCl [(zo13rrirrrr h0 sc kp ik bl go ch bo), (zo4rrir go gR gO (nI lk) gS), (zaI gR cR 8 fR), (zaI gO cO 8 fO), (zo10ririliiriririr sc aTp (nI ts) aHl (nI nh) ed mi sn aHs (nI n) aWk (nI wz) aBk (nI bz) aFc), (zaR aHs cHs 8 fHs), (zaI aFc cFc 6 fFc)] U.heap ∧ va_K (dC, dI) vwCl [(cR, .int), (cO, .int), (cHs, .object "MistHeaps$Heap"), (cFc, .int)] U ∧ va_D (fun _ => True) [(zo13rrirrrr h0 sc kp ik bl go ch bo), (zo4rrir go gR gO (nI lk) gS), (zaI gR cR 8 fR), (zaI gO cO 8 fO), (zo10ririliiriririr sc aTp (nI ts) aHl (nI nh) ed mi sn aHs (nI n) aWk (nI wz) aBk (nI bz) aFc), (zaR aHs cHs 8 fHs), (zaI aFc cFc 6 fFc)] ∧ Gl gd (va_A [(zo13rrirrrr h0 sc kp ik bl go ch bo), (zo4rrir go gR gO (nI lk) gS), (zaI gR cR 8 fR), (zaI gO cO 8 fO), (zo10ririliiriririr sc aTp (nI ts) aHl (nI nh) ed mi sn aHs (nI n) aWk (nI wz) aBk (nI bz) aFc), (zaR aHs cHs 8 fHs), (zaI aFc cFc 6 fFc)] sz) U ∧ Gw (va_A [(zo13rrirrrr h0 sc kp ik bl go ch bo), (zo4rrir go gR gO (nI lk) gS), (zaI gR cR 8 fR), (zaI gO cO 8 fO), (zo10ririliiriririr sc aTp (nI ts) aHl (nI nh) ed mi sn aHs (nI n) aWk (nI wz) aBk (nI bz) aFc), (zaR aHs cHs 8 fHs), (zaI aFc cFc 6 fFc)] sz) U ∧ Gn kA (va_A [(zo13rrirrrr h0 sc kp ik bl go ch bo), (zo4rrir go gR gO (nI lk) gS), (zaI gR cR 8 fR), (zaI gO cO 8 fO), (zo10ririliiriririr sc aTp (nI ts) aHl (nI nh) ed mi sn aHs (nI n) aWk (nI wz) aBk (nI bz) aFc), (zaR aHs cHs 8 fHs), (zaI aFc cFc 6 fFc)] sz) U ∧ Fz dC dI [(zo7iirrrriviii aHl sg (nI cl) bW bA bE bC cdd tpv szz att nmb), (zaI bW cbW 10 fbW), (zaI bA cbA 10 fbA), (zaI bE cbE 10 fbE), (zaI bC cbC 100 fbC)] [(cbW, .int), (cbA, .int), (cbE, .int), (cbC, .int)] (va_A [(zo13rrirrrr h0 sc kp ik bl go ch bo), (zo4rrir go gR gO (nI lk) gS), (zaI gR cR 8 fR), (zaI gO cO 8 fO), (zo10ririliiriririr sc aTp (nI ts) aHl (nI nh) ed mi sn aHs (nI n) aWk (nI wz) aBk (nI bz) aFc), (zaR aHs cHs 8 fHs), (zaI aFc cFc 6 fFc)] sz) U ∧ Hs dC dI n yi ya yk yv yc (va_A [(zo13rrirrrr h0 sc kp ik bl go ch bo), (zo4rrir go gR gO (nI lk) gS), (zaI gR cR 8 fR), (zaI gO cO 8 fO), (zo10ririliiriririr sc aTp (nI ts) aHl (nI nh) ed mi sn aHs (nI n) aWk (nI wz) aBk (nI bz) aFc), (zaR aHs cHs 8 fHs), (zaI aFc cFc 6 fFc)] sz) U)) (va_Qi (fun (r : Int32) (u : (Nat) × (Nat → Int32) × (Nat → Int32) × (Nat → Int32)) => match u with | (lk9, fR9, fO9, fFc9) => lk9 ≤ 8 ∧ r = beR_ n yk yv yc cz mi x y) (fun (u : (Nat) × (Nat → Int32) × (Nat → Int32) × (Nat → Int32)) (t : State) => match u with | (lk9, fR9, fO9, fFc9) => va_P (dC, dI) vwCl [(zo13rrirrrr h0 sc kp ik bl go ch bo), (zo4rrir go gR gO (nI lk9) gS), (zaI gR cR 8 fR9), (zaI gO cO 8 fO9), (zo10ririliiriririr sc aTp (nI ts) aHl (nI nh) ed mi sn aHs (nI n) aWk (nI wz) aBk (nI bz) aFc), (zaR aHs cHs 8 fHs), (zaI aFc cFc 6 fFc9)] t.heap ∧ va_K (dC, dI) vwCl [(cR, .int), (cO, .int), (cHs, .object "MistHeaps$Heap"), (cFc, .int)] t ∧ va_D (va_A [(zo13rrirrrr h0 sc kp ik bl go ch bo), (zo4rrir go gR gO (nI lk) gS), (zaI gR cR 8 fR), (zaI gO cO 8 fO), (zo10ririliiriririr sc aTp (nI ts) aHl (nI nh) ed mi sn aHs (nI n) aWk (nI wz) aBk (nI bz) aFc), (zaR aHs cHs 8 fHs), (zaI aFc cFc 6 fFc)] sz) [(zo13rrirrrr h0 sc kp ik bl go ch bo), (zo4rrir go gR gO (nI lk9) gS), (zaI gR cR 8 fR9), (zaI gO cO 8 fO9), (zo10ririliiriririr sc aTp (nI ts) aHl (nI nh) ed mi sn aHs (nI n) aWk (nI wz) aBk (nI bz) aFc), (zaR aHs cHs 8 fHs), (zaI aFc cFc 6 fFc9)]) (va_A [(zo13rrirrrr h0 sc kp ik bl go ch bo), (zo4rrir go gR gO (nI lk) gS), (zaI gR cR 8 fR), (zaI gO cO 8 fO), (zo10ririliiriririr sc aTp (nI ts) aHl (nI nh) ed mi sn aHs (nI n) aWk (nI wz) aBk (nI bz) aFc), (zaR aHs cHs 8 fHs), (zaI aFc cFc 6 fFc)] sz)) 0 0 (va_A [(zo13rrirrrr h0 sc kp ik bl go ch bo), (zo4rrir go gR gO (nI lk) gS), (zaI gR cR 8 fR), (zaI gO cO 8 fO), (zo10ririliiriririr sc aTp (nI ts) aHl (nI nh) ed mi sn aHs (nI n) aWk (nI wz) aBk (nI bz) aFc), (zaR aHs cHs 8 fHs), (zaI aFc cFc 6 fFc)] sz) := by
  refine met_ofQ (cc := cX11_bears) (maxL := 4) (ret := (some .int)) (by decide) rfl ?_
  intro p e s m args below meth c s₁ Q B hml hv hQ
  obtain ⟨rfl, hsz, hP, hK, hD0, hG, hW_, hN_, hZ, hH_⟩ := hv
  have hx := B.exec
  have hb := B.bytes
  have hr := B.returns
  have hts := atoms_spec (ws := wsX11_bears) B.pre
  have hown : s.vm.findClass RX11 = some m.cls := findClass_of_methodNamed B.named
  have hlocks := B.notSynchronized
  subst hsz
  have hD := hD0.self (sz := s.heap.size)
  generalize hAe : va_A [(zo13rrirrrr h0 sc kp ik bl go ch bo), (zo4rrir go gR gO (nI lk) gS), (zaI gR cR 8 fR), (zaI gO cO 8 fO), (zo10ririliiriririr sc aTp (nI ts) aHl (nI nh) ed mi sn aHs (nI n) aWk (nI wz) aBk (nI bz) aFc), (zaR aHs cHs 8 fHs), (zaI aFc cFc 6 fFc)] s.heap.size = A at hD hQ hG hW_ hN_ hZ hH_ ⊢
  have hA : ∀ q : Nat, s.heap.size ≤ q → A q := fun q h => by rw [← hAe]; exact Or.inr h
  have hS : va_S A s.heap s.heap [] := va_S.rf
  have hl := lv_entry [.ref h0, .int x, .int y] (n := 4) (Nat.le_of_ble_eq_true rfl)
  rw [lg_entry_eq]
  generalize (lg_sl [.ref h0, .int x, .int y] ++ List.replicate (4 - (lg_sl [.ref h0, .int x, .int y]).length) Slot.unset).toArray = ls at hl ⊢
  generalize hag : ([.ref h0, .int x, .int y] : List Value).toArray = args at hts hQ ⊢
  have hl : lv_has ls 4 [(0, .ref h0), (1, .int x), (2, .int y)] := hl
  obtain ⟨H, hH⟩ : ∃ H : Heap, H = s.heap := ⟨_, rfl⟩
  rw [← hH] at hP
  rw [← hH]
  have hS : va_S A s.heap H [] := by rw [hH]; exact hS
  obtain ⟨locs, hlo⟩ : ∃ L : List Loc, L = [] := ⟨_, rfl⟩
  rw [← hlo] at hS
  rw [← hlo]
  clear hH hlo
  refine lv_aload_n hx hb dX11_bears_0 rfl (lv_at hl 0 rfl) ?_
  refine va_get (D := (dC, dI)) (ci := 13) (v := .ref sc) (C := RX11) (T := TX11) (N := 7) hx hb hts kc_xBears_0 hown hK hP 0 rfl rfl 0 (by decide) (hts (.fieldLink RX11 14 "MistHeaps" "scene" "LMistHeaps$Scene;") kc_xBears_1) (fun _ h9 => h9) rfl dX11_bears_1 ?_
  refine lv_iload_n hx hb dX11_bears_4 rfl (lv_at hl 1 rfl) ?_
  refine lv_iload_n hx hb dX11_bears_5 rfl (lv_at hl 2 rfl) ?_
  have hPc := hP.sub (ws' := [(zo10ririliiriririr sc aTp (nI ts) aHl (nI nh) ed mi sn aHs (nI n) aWk (nI wz) aBk (nI bz) aFc), (zaR aHs cHs 8 fHs)]) [4, 5] rfl
  have hKc := hK.sub (tys' := [(cHs, .object "MistHeaps$Heap")]) [2] rfl
  refine vp_callSi (va_runV (As := [.int x, .int y]) (rest := []) ⟨hx, hb, hml, hown, hts⟩ (c_areHeaps l dC dI sc aTp aHl aHs aWk aBk aFc ts nh n wz bz mi sn x y ed cHs fHs ya (zhs) (hn8)) (cwV 2 hts gX11_bears_X8_areHeaps rfl rfl rfl hd_yX8_areHeaps ⟨Nat.le_of_ble_eq_true rfl, Nat.le_of_ble_eq_true rfl⟩) ⟨fun a U g mk q => by obtain ⟨q0, qP, qK⟩ := q; exact ⟨q0, mvP g mk a qP, mvK g mk a qK⟩, va_recv hK hP (ci := 10) (q := (RX8, TX8, 14)) (q0 := 4) rfl rfl, fun U hU hW => ⟨rfl, by rw [hU]; exact hPc, va_K.moved hW.alike hKc⟩⟩ rfl rfl hl.1 rfl (lv_room (Nat.le_of_ble_eq_true rfl)) dX11_bears_6 ⟨Nat.le_of_ble_eq_true rfl, Nat.le_of_ble_eq_true rfl⟩).run (fun r_1 hw_2 => ?_)
  rcases hw_2 with ⟨rfl, j1, j2, hj1, hj2, rfl, rfl⟩ | ⟨rfl, hno⟩
  · skip
    refine lv_if_ne (tgt := 14) hx hb dX11_bears_9 (by decide) (fun _ => ?_) (fun c_3 => absurd c_3 (by decide))
    obtain ⟨A9, hA0⟩ : ∃ A : Int32, A = beF (fun k => ¬ fsR (gRow n yk yv yc cz mi (nI k)) n (nI j1) (nI j2) 0 = -5) 10 := ⟨_, rfl⟩
    have hA9 := hA0
    refine lv_bipush (v := 9) hx hb dX11_bears_14 (by decide) ?_
    refine lv_istore_n (lv' := [(3, .int 9), (0, .ref h0), (1, .int (nI j1)), (2, .int (nI j2))]) hx hb dX11_bears_16 rfl hl (by decide) rfl (fun ls hl => ?_)
    refine lv_iload_n hx hb dX11_bears_17 rfl (lv_at hl 0 rfl) ?_
    refine lv_if_lt (tgt := 56) hx hb dX11_bears_18 (by decide) (fun c_4 => absurd c_4 (by decide)) (fun _ => ?_)
    refine lv_aload_n hx hb dX11_bears_21 rfl (lv_at hl 1 rfl) ?_
    refine va_get (D := (dC, dI)) (ci := 13) (v := .ref go) (C := RX11) (T := TX11) (N := 7) hx hb hts kc_xBears_0 hown hK hP 0 rfl rfl 4 (by decide) (hts (.fieldLink RX11 35 "MistHeaps" "goings" "LMistHeaps$Goings;") kc_xBears_2) (fun _ h9 => h9) rfl dX11_bears_22 ?_
    refine lv_aload_n hx hb dX11_bears_25 rfl (lv_at hl 1 rfl) ?_
    refine va_get (D := (dC, dI)) (ci := 13) (v := .ref sc) (C := RX11) (T := TX11) (N := 7) hx hb hts kc_xBears_0 hown hK hP 0 rfl rfl 0 (by decide) (hts (.fieldLink RX11 14 "MistHeaps" "scene" "LMistHeaps$Scene;") kc_xBears_1) (fun _ h9 => h9) rfl dX11_bears_26 ?_
    refine lv_iload_n hx hb dX11_bears_29 rfl (lv_at hl 0 rfl) ?_
    have hPc := hP.sub (ws' := [(zo4rrir go gR gO (nI lk) gS), (zaI gR cR 8 fR), (zaI gO cO 8 fO), (zo10ririliiriririr sc aTp (nI ts) aHl (nI nh) ed mi sn aHs (nI n) aWk (nI wz) aBk (nI bz) aFc), (zaR aHs cHs 8 fHs), (zaI aFc cFc 6 fFc)]) [1, 2, 3, 4, 5, 6] rfl
    have hDc := hD.sub (ws' := [(zo4rrir go gR gO (nI lk) gS), (zaI gR cR 8 fR), (zaI gO cO 8 fO), (zo10ririliiriririr sc aTp (nI ts) aHl (nI nh) ed mi sn aHs (nI n) aWk (nI wz) aBk (nI bz) aFc), (zaR aHs cHs 8 fHs), (zaI aFc cFc 6 fFc)]) [1, 2, 3, 4, 5, 6] (by decide) rfl
    have hKc := hK.sub (tys' := [(cR, .int), (cO, .int), (cHs, .object "MistHeaps$Heap"), (cFc, .int)]) [0, 1, 2, 3] rfl
    have hFc := va_free (wc := [(zo4rrir go gR gO (nI lk) gS), (zaI gR cR 8 fR), (zaI gO cO 8 fO), (zo10ririliiriririr sc aTp (nI ts) aHl (nI nh) ed mi sn aHs (nI n) aWk (nI wz) aBk (nI bz) aFc), (zaR aHs cHs 8 fHs), (zaI aFc cFc 6 fFc)]) hD hS hA [1, 2, 3, 4, 5, 6] rfl
    refine va_callv (va_runV (As := [.ref sc, .int 9]) (rest := []) ⟨hx, hb, hml, hown, hts⟩ (c_link l dC dI gd  kA   sc go aTp aHl aHs aWk aBk aFc bW bA bE bC gR gO gS ts nh n wz bz lk cl mi sn sg cdd szz att nmb 9 ed cHs cFc cbW cbA cbE cbC cR cO fFc fbW fbA fbE fbC fR fO yk yv yc fHs yi ya tpv cz H.size (zhs) (hn8) (zcl) (zE) (zC) (zyv) (zyc) (zHC) (zyt)) (cwV 2 hts gX11_bears_X2_link rfl rfl rfl hd_yX2_link ⟨Nat.le_of_ble_eq_true rfl, Nat.le_of_ble_eq_true rfl⟩) ⟨fun a U g mk q => by obtain ⟨q0, q1, qP, qK, qD, qhG, qhW_, qhN_, qhZ, qhH_⟩ := q; exact ⟨q0, mvz g mk a q1, mvP g mk a qP, mvK g mk a qK, qD, qhG.mv g mk a, qhW_.mv g mk a, qhN_.mv g mk a, qhZ.mv g mk a, qhH_.mv g mk a⟩, va_recv hK hP (ci := 4) (q := (RX2, TX2, 4)) (q0 := 1) rfl rfl, fun U hU hW => ⟨rfl, by rw [hU], by rw [hU]; exact hPc, va_K.moved hW.alike hKc, hDc.weaken (fun _ _ _ _ => trivial), hG.call hS hU hW (fun q h => hFc q h), hW_.call hS hU hW (fun q h => hFc q h), hN_.call hS hU hW (fun q h => hFc q h), (hZ.sub [0, 1, 2, 3, 4] [0, 1, 2, 3] rfl rfl).call hS hU hW (fun q h => hFc q h), hH_.call hS hU hW (fun q h => hFc q h)⟩⟩ rfl rfl hl.1 rfl (lv_room (Nat.le_of_ble_eq_true rfl)) dX11_bears_30 ⟨Nat.le_of_ble_eq_true rfl, Nat.le_of_ble_eq_true rfl⟩) hS (fun q _ h => hFc q h) hFc (fun u tC H1 locs htC hvm hw_6 hB hz1 hk1 hS => ?_)
    obtain ⟨lk9_7, fR9_8, fO9_9, fFc9_10⟩ := u
    try dsimp only at hw_6 hB
    obtain ⟨hP1, hK1, hD1⟩ := hB
    rw [htC] at hP1
    have hK1 := va_K.moved hvm.symm hK1
    obtain ⟨hP, hD⟩ := va_join (wr := [(zo13rrirrrr h0 sc kp ik bl go ch bo)]) (w1 := [(zo4rrir go gR gO (nI lk9_7) gS), (zaI gR cR 8 fR9_8), (zaI gO cO 8 fO9_9), (zo10ririliiriririr sc aTp (nI ts) aHl (nI nh) ed mi sn aHs (nI n) aWk (nI wz) aBk (nI bz) aFc), (zaR aHs cHs 8 fHs), (zaI aFc cFc 6 fFc9_10)]) hP hD [1, 2, 3, 4, 5, 6] [0] rfl rfl (by decide) (by decide) hk1 hFc hP1 hD1
    have hK := (hK.sub (tys' := []) [] rfl).app hK1
    generalize H1 = H at hP hS ⊢
    have hP : va_P (dC, dI) vwCl [(zo13rrirrrr h0 sc kp ik bl go ch bo), (zo4rrir go gR gO (nI lk9_7) gS), (zaI gR cR 8 fR9_8), (zaI gO cO 8 fO9_9), (zo10ririliiriririr sc aTp (nI ts) aHl (nI nh) ed mi sn aHs (nI n) aWk (nI wz) aBk (nI bz) aFc), (zaR aHs cHs 8 fHs), (zaI aFc cFc 6 fFc9_10)] H := hP
    have hD : va_D A [(zo13rrirrrr h0 sc kp ik bl go ch bo), (zo4rrir go gR gO (nI lk9_7) gS), (zaI gR cR 8 fR9_8), (zaI gO cO 8 fO9_9), (zo10ririliiriririr sc aTp (nI ts) aHl (nI nh) ed mi sn aHs (nI n) aWk (nI wz) aBk (nI bz) aFc), (zaR aHs cHs 8 fHs), (zaI aFc cFc 6 fFc9_10)] := hD
    have hK : va_K (dC, dI) vwCl [(cR, .int), (cO, .int), (cHs, .object "MistHeaps$Heap"), (cFc, .int)] s := hK
    obtain ⟨elk, hlR, hlO⟩ := hw_6
    obtain rfl := elk.symm
    refine lv_aload_n hx hb dX11_bears_33 rfl (lv_at hl 1 rfl) ?_
    refine va_get (D := (dC, dI)) (ci := 13) (v := .ref go) (C := RX11) (T := TX11) (N := 7) hx hb hts kc_xBears_0 hown hK hP 0 rfl rfl 4 (by decide) (hts (.fieldLink RX11 35 "MistHeaps" "goings" "LMistHeaps$Goings;") kc_xBears_2) (fun _ h9 => h9) rfl dX11_bears_34 ?_
    refine lv_iload_n hx hb dX11_bears_37 rfl (lv_at hl 2 rfl) ?_
    refine lv_iload_n hx hb dX11_bears_38 rfl (lv_at hl 3 rfl) ?_
    refine lv_iconst (v := 0) hx hb dX11_bears_39 (by decide) ?_
    have hPc := hP.sub (ws' := [(zo4rrir go gR gO (nI n) gS), (zaI gO cO 8 fO9_9)]) [1, 3] rfl
    have hKc := hK.sub (tys' := [(cO, .int)]) [1] rfl
    refine vp_callSi (va_runV (As := [.int (nI j1), .int (nI j2), .int 0]) (rest := []) ⟨hx, hb, hml, hown, hts⟩ (c_fewest l dC dI go gR gO gS n (nI j1) (nI j2) 0 cO fO9_9 (by omega)) (cwV 3 hts gX11_bears_X2_fewest rfl rfl rfl hd_yX2_fewest ⟨Nat.le_of_ble_eq_true rfl, Nat.le_of_ble_eq_true rfl⟩) ⟨fun a U g mk q => by obtain ⟨q0, qP, qK⟩ := q; exact ⟨q0, mvP g mk a qP, mvK g mk a qK⟩, va_recv hK hP (ci := 4) (q := (RX2, TX2, 4)) (q0 := 1) rfl rfl, fun U hU hW => ⟨rfl, by rw [hU]; exact hPc, va_K.moved hW.alike hKc⟩⟩ rfl rfl hl.1 rfl (lv_room (Nat.le_of_ble_eq_true rfl)) dX11_bears_40 ⟨Nat.le_of_ble_eq_true rfl, Nat.le_of_ble_eq_true rfl⟩).run (fun r_11 hw_12 => ?_)
    obtain rfl := hw_12
    refine lv_bipush (v := (-5)) hx hb dX11_bears_43 (by decide) ?_
    refine lv_icmp_eq (tgt := 50) hx hb dX11_bears_45 (by decide) (fun c_13 => ?_) (fun c_13 => ?_)
    · skip
      have hA9 := be_dn (i := 9) hA9 (fun z9 => z9 ((show fwR _ n (nI j1) (nI j2) 0 = fsR (gRow n yk yv yc cz mi (nI 9)) n (nI j1) (nI j2) 0 from fw_row hn8 hj1 hj2 (b_0 _) hlO.B).symm.trans c_13))
      refine lv_iinc (v := 8) (lv' := [(3, .int 8), (0, .ref h0), (1, .int (nI j1)), (2, .int (nI j2))]) hx hb dX11_bears_50 hl (k := 0) rfl (by decide) (by decide) rfl (fun ls hl => ?_)
      refine lv_goto (tgt := 17) hx hb dX11_bears_53 (by decide) ?_
      refine lv_iload_n hx hb dX11_bears_17 rfl (lv_at hl 0 rfl) ?_
      refine lv_if_lt (tgt := 56) hx hb dX11_bears_18 (by decide) (fun c_14 => absurd c_14 (by decide)) (fun _ => ?_)
      refine lv_aload_n hx hb dX11_bears_21 rfl (lv_at hl 1 rfl) ?_
      refine va_get (D := (dC, dI)) (ci := 13) (v := .ref go) (C := RX11) (T := TX11) (N := 7) hx hb hts kc_xBears_0 hown hK hP 0 rfl rfl 4 (by decide) (hts (.fieldLink RX11 35 "MistHeaps" "goings" "LMistHeaps$Goings;") kc_xBears_2) (fun _ h9 => h9) rfl dX11_bears_22 ?_
      refine lv_aload_n hx hb dX11_bears_25 rfl (lv_at hl 1 rfl) ?_
      refine va_get (D := (dC, dI)) (ci := 13) (v := .ref sc) (C := RX11) (T := TX11) (N := 7) hx hb hts kc_xBears_0 hown hK hP 0 rfl rfl 0 (by decide) (hts (.fieldLink RX11 14 "MistHeaps" "scene" "LMistHeaps$Scene;") kc_xBears_1) (fun _ h9 => h9) rfl dX11_bears_26 ?_
      refine lv_iload_n hx hb dX11_bears_29 rfl (lv_at hl 0 rfl) ?_
      have hPc := hP.sub (ws' := [(zo4rrir go gR gO (nI n) gS), (zaI gR cR 8 fR9_8), (zaI gO cO 8 fO9_9), (zo10ririliiriririr sc aTp (nI ts) aHl (nI nh) ed mi sn aHs (nI n) aWk (nI wz) aBk (nI bz) aFc), (zaR aHs cHs 8 fHs), (zaI aFc cFc 6 fFc9_10)]) [1, 2, 3, 4, 5, 6] rfl
      have hDc := hD.sub (ws' := [(zo4rrir go gR gO (nI n) gS), (zaI gR cR 8 fR9_8), (zaI gO cO 8 fO9_9), (zo10ririliiriririr sc aTp (nI ts) aHl (nI nh) ed mi sn aHs (nI n) aWk (nI wz) aBk (nI bz) aFc), (zaR aHs cHs 8 fHs), (zaI aFc cFc 6 fFc9_10)]) [1, 2, 3, 4, 5, 6] (by decide) rfl
      have hKc := hK.sub (tys' := [(cR, .int), (cO, .int), (cHs, .object "MistHeaps$Heap"), (cFc, .int)]) [0, 1, 2, 3] rfl
      have hFc := va_free (wc := [(zo4rrir go gR gO (nI n) gS), (zaI gR cR 8 fR9_8), (zaI gO cO 8 fO9_9), (zo10ririliiriririr sc aTp (nI ts) aHl (nI nh) ed mi sn aHs (nI n) aWk (nI wz) aBk (nI bz) aFc), (zaR aHs cHs 8 fHs), (zaI aFc cFc 6 fFc9_10)]) hD hS hA [1, 2, 3, 4, 5, 6] rfl
      refine va_callv (va_runV (As := [.ref sc, .int 8]) (rest := []) ⟨hx, hb, hml, hown, hts⟩ (c_link l dC dI gd  kA   sc go aTp aHl aHs aWk aBk aFc bW bA bE bC gR gO gS ts nh n wz bz n cl mi sn sg cdd szz att nmb 8 ed cHs cFc cbW cbA cbE cbC cR cO fFc9_10 fbW fbA fbE fbC fR9_8 fO9_9 yk yv yc fHs yi ya tpv cz H.size (zhs) (hn8) (zcl) (zE) (zC) (zyv) (zyc) (zHC) (zyt)) (cwV 2 hts gX11_bears_X2_link rfl rfl rfl hd_yX2_link ⟨Nat.le_of_ble_eq_true rfl, Nat.le_of_ble_eq_true rfl⟩) ⟨fun a U g mk q => by obtain ⟨q0, q1, qP, qK, qD, qhG, qhW_, qhN_, qhZ, qhH_⟩ := q; exact ⟨q0, mvz g mk a q1, mvP g mk a qP, mvK g mk a qK, qD, qhG.mv g mk a, qhW_.mv g mk a, qhN_.mv g mk a, qhZ.mv g mk a, qhH_.mv g mk a⟩, va_recv hK hP (ci := 4) (q := (RX2, TX2, 4)) (q0 := 1) rfl rfl, fun U hU hW => ⟨rfl, by rw [hU], by rw [hU]; exact hPc, va_K.moved hW.alike hKc, hDc.weaken (fun _ _ _ _ => trivial), hG.call hS hU hW (fun q h => hFc q h), hW_.call hS hU hW (fun q h => hFc q h), hN_.call hS hU hW (fun q h => hFc q h), (hZ.sub [0, 1, 2, 3, 4] [0, 1, 2, 3] rfl rfl).call hS hU hW (fun q h => hFc q h), hH_.call hS hU hW (fun q h => hFc q h)⟩⟩ rfl rfl hl.1 rfl (lv_room (Nat.le_of_ble_eq_true rfl)) dX11_bears_30 ⟨Nat.le_of_ble_eq_true rfl, Nat.le_of_ble_eq_true rfl⟩) hS (fun q _ h => hFc q h) hFc (fun u tC H1 locs htC hvm hw_16 hB hz1 hk1 hS => ?_)
      obtain ⟨lk9_17, fR9_18, fO9_19, fFc9_20⟩ := u
      try dsimp only at hw_16 hB
      obtain ⟨hP1, hK1, hD1⟩ := hB
      rw [htC] at hP1
      have hK1 := va_K.moved hvm.symm hK1
      obtain ⟨hP, hD⟩ := va_join (wr := [(zo13rrirrrr h0 sc kp ik bl go ch bo)]) (w1 := [(zo4rrir go gR gO (nI lk9_17) gS), (zaI gR cR 8 fR9_18), (zaI gO cO 8 fO9_19), (zo10ririliiriririr sc aTp (nI ts) aHl (nI nh) ed mi sn aHs (nI n) aWk (nI wz) aBk (nI bz) aFc), (zaR aHs cHs 8 fHs), (zaI aFc cFc 6 fFc9_20)]) hP hD [1, 2, 3, 4, 5, 6] [0] rfl rfl (by decide) (by decide) hk1 hFc hP1 hD1
      have hK := (hK.sub (tys' := []) [] rfl).app hK1
      generalize H1 = H at hP hS ⊢
      have hP : va_P (dC, dI) vwCl [(zo13rrirrrr h0 sc kp ik bl go ch bo), (zo4rrir go gR gO (nI lk9_17) gS), (zaI gR cR 8 fR9_18), (zaI gO cO 8 fO9_19), (zo10ririliiriririr sc aTp (nI ts) aHl (nI nh) ed mi sn aHs (nI n) aWk (nI wz) aBk (nI bz) aFc), (zaR aHs cHs 8 fHs), (zaI aFc cFc 6 fFc9_20)] H := hP
      have hD : va_D A [(zo13rrirrrr h0 sc kp ik bl go ch bo), (zo4rrir go gR gO (nI lk9_17) gS), (zaI gR cR 8 fR9_18), (zaI gO cO 8 fO9_19), (zo10ririliiriririr sc aTp (nI ts) aHl (nI nh) ed mi sn aHs (nI n) aWk (nI wz) aBk (nI bz) aFc), (zaR aHs cHs 8 fHs), (zaI aFc cFc 6 fFc9_20)] := hD
      have hK : va_K (dC, dI) vwCl [(cR, .int), (cO, .int), (cHs, .object "MistHeaps$Heap"), (cFc, .int)] s := hK
      obtain ⟨elk, hlR, hlO⟩ := hw_16
      obtain rfl := elk.symm
      refine lv_aload_n hx hb dX11_bears_33 rfl (lv_at hl 1 rfl) ?_
      refine va_get (D := (dC, dI)) (ci := 13) (v := .ref go) (C := RX11) (T := TX11) (N := 7) hx hb hts kc_xBears_0 hown hK hP 0 rfl rfl 4 (by decide) (hts (.fieldLink RX11 35 "MistHeaps" "goings" "LMistHeaps$Goings;") kc_xBears_2) (fun _ h9 => h9) rfl dX11_bears_34 ?_
      refine lv_iload_n hx hb dX11_bears_37 rfl (lv_at hl 2 rfl) ?_
      refine lv_iload_n hx hb dX11_bears_38 rfl (lv_at hl 3 rfl) ?_
      refine lv_iconst (v := 0) hx hb dX11_bears_39 (by decide) ?_
      have hPc := hP.sub (ws' := [(zo4rrir go gR gO (nI n) gS), (zaI gO cO 8 fO9_19)]) [1, 3] rfl
      have hKc := hK.sub (tys' := [(cO, .int)]) [1] rfl
      refine vp_callSi (va_runV (As := [.int (nI j1), .int (nI j2), .int 0]) (rest := []) ⟨hx, hb, hml, hown, hts⟩ (c_fewest l dC dI go gR gO gS n (nI j1) (nI j2) 0 cO fO9_19 (by omega)) (cwV 3 hts gX11_bears_X2_fewest rfl rfl rfl hd_yX2_fewest ⟨Nat.le_of_ble_eq_true rfl, Nat.le_of_ble_eq_true rfl⟩) ⟨fun a U g mk q => by obtain ⟨q0, qP, qK⟩ := q; exact ⟨q0, mvP g mk a qP, mvK g mk a qK⟩, va_recv hK hP (ci := 4) (q := (RX2, TX2, 4)) (q0 := 1) rfl rfl, fun U hU hW => ⟨rfl, by rw [hU]; exact hPc, va_K.moved hW.alike hKc⟩⟩ rfl rfl hl.1 rfl (lv_room (Nat.le_of_ble_eq_true rfl)) dX11_bears_40 ⟨Nat.le_of_ble_eq_true rfl, Nat.le_of_ble_eq_true rfl⟩).run (fun r_21 hw_22 => ?_)
      obtain rfl := hw_22
      refine lv_bipush (v := (-5)) hx hb dX11_bears_43 (by decide) ?_
      refine lv_icmp_eq (tgt := 50) hx hb dX11_bears_45 (by decide) (fun c_23 => ?_) (fun c_23 => ?_)
      · skip
        have hA9 := be_dn (i := 8) hA9 (fun z9 => z9 ((show fwR _ n (nI j1) (nI j2) 0 = fsR (gRow n yk yv yc cz mi (nI 8)) n (nI j1) (nI j2) 0 from fw_row hn8 hj1 hj2 (b_0 _) hlO.B).symm.trans c_23))
        refine lv_iinc (v := 7) (lv' := [(3, .int 7), (0, .ref h0), (1, .int (nI j1)), (2, .int (nI j2))]) hx hb dX11_bears_50 hl (k := 0) rfl (by decide) (by decide) rfl (fun ls hl => ?_)
        refine lv_goto (tgt := 17) hx hb dX11_bears_53 (by decide) ?_
        refine lv_iload_n hx hb dX11_bears_17 rfl (lv_at hl 0 rfl) ?_
        refine lv_if_lt (tgt := 56) hx hb dX11_bears_18 (by decide) (fun c_24 => absurd c_24 (by decide)) (fun _ => ?_)
        refine lv_aload_n hx hb dX11_bears_21 rfl (lv_at hl 1 rfl) ?_
        refine va_get (D := (dC, dI)) (ci := 13) (v := .ref go) (C := RX11) (T := TX11) (N := 7) hx hb hts kc_xBears_0 hown hK hP 0 rfl rfl 4 (by decide) (hts (.fieldLink RX11 35 "MistHeaps" "goings" "LMistHeaps$Goings;") kc_xBears_2) (fun _ h9 => h9) rfl dX11_bears_22 ?_
        refine lv_aload_n hx hb dX11_bears_25 rfl (lv_at hl 1 rfl) ?_
        refine va_get (D := (dC, dI)) (ci := 13) (v := .ref sc) (C := RX11) (T := TX11) (N := 7) hx hb hts kc_xBears_0 hown hK hP 0 rfl rfl 0 (by decide) (hts (.fieldLink RX11 14 "MistHeaps" "scene" "LMistHeaps$Scene;") kc_xBears_1) (fun _ h9 => h9) rfl dX11_bears_26 ?_
        refine lv_iload_n hx hb dX11_bears_29 rfl (lv_at hl 0 rfl) ?_
        have hPc := hP.sub (ws' := [(zo4rrir go gR gO (nI n) gS), (zaI gR cR 8 fR9_18), (zaI gO cO 8 fO9_19), (zo10ririliiriririr sc aTp (nI ts) aHl (nI nh) ed mi sn aHs (nI n) aWk (nI wz) aBk (nI bz) aFc), (zaR aHs cHs 8 fHs), (zaI aFc cFc 6 fFc9_20)]) [1, 2, 3, 4, 5, 6] rfl
        have hDc := hD.sub (ws' := [(zo4rrir go gR gO (nI n) gS), (zaI gR cR 8 fR9_18), (zaI gO cO 8 fO9_19), (zo10ririliiriririr sc aTp (nI ts) aHl (nI nh) ed mi sn aHs (nI n) aWk (nI wz) aBk (nI bz) aFc), (zaR aHs cHs 8 fHs), (zaI aFc cFc 6 fFc9_20)]) [1, 2, 3, 4, 5, 6] (by decide) rfl
        have hKc := hK.sub (tys' := [(cR, .int), (cO, .int), (cHs, .object "MistHeaps$Heap"), (cFc, .int)]) [0, 1, 2, 3] rfl
        have hFc := va_free (wc := [(zo4rrir go gR gO (nI n) gS), (zaI gR cR 8 fR9_18), (zaI gO cO 8 fO9_19), (zo10ririliiriririr sc aTp (nI ts) aHl (nI nh) ed mi sn aHs (nI n) aWk (nI wz) aBk (nI bz) aFc), (zaR aHs cHs 8 fHs), (zaI aFc cFc 6 fFc9_20)]) hD hS hA [1, 2, 3, 4, 5, 6] rfl
        refine va_callv (va_runV (As := [.ref sc, .int 7]) (rest := []) ⟨hx, hb, hml, hown, hts⟩ (c_link l dC dI gd  kA   sc go aTp aHl aHs aWk aBk aFc bW bA bE bC gR gO gS ts nh n wz bz n cl mi sn sg cdd szz att nmb 7 ed cHs cFc cbW cbA cbE cbC cR cO fFc9_20 fbW fbA fbE fbC fR9_18 fO9_19 yk yv yc fHs yi ya tpv cz H.size (zhs) (hn8) (zcl) (zE) (zC) (zyv) (zyc) (zHC) (zyt)) (cwV 2 hts gX11_bears_X2_link rfl rfl rfl hd_yX2_link ⟨Nat.le_of_ble_eq_true rfl, Nat.le_of_ble_eq_true rfl⟩) ⟨fun a U g mk q => by obtain ⟨q0, q1, qP, qK, qD, qhG, qhW_, qhN_, qhZ, qhH_⟩ := q; exact ⟨q0, mvz g mk a q1, mvP g mk a qP, mvK g mk a qK, qD, qhG.mv g mk a, qhW_.mv g mk a, qhN_.mv g mk a, qhZ.mv g mk a, qhH_.mv g mk a⟩, va_recv hK hP (ci := 4) (q := (RX2, TX2, 4)) (q0 := 1) rfl rfl, fun U hU hW => ⟨rfl, by rw [hU], by rw [hU]; exact hPc, va_K.moved hW.alike hKc, hDc.weaken (fun _ _ _ _ => trivial), hG.call hS hU hW (fun q h => hFc q h), hW_.call hS hU hW (fun q h => hFc q h), hN_.call hS hU hW (fun q h => hFc q h), (hZ.sub [0, 1, 2, 3, 4] [0, 1, 2, 3] rfl rfl).call hS hU hW (fun q h => hFc q h), hH_.call hS hU hW (fun q h => hFc q h)⟩⟩ rfl rfl hl.1 rfl (lv_room (Nat.le_of_ble_eq_true rfl)) dX11_bears_30 ⟨Nat.le_of_ble_eq_true rfl, Nat.le_of_ble_eq_true rfl⟩) hS (fun q _ h => hFc q h) hFc (fun u tC H1 locs htC hvm hw_26 hB hz1 hk1 hS => ?_)
        obtain ⟨lk9_27, fR9_28, fO9_29, fFc9_30⟩ := u
        try dsimp only at hw_26 hB
        obtain ⟨hP1, hK1, hD1⟩ := hB
        rw [htC] at hP1
        have hK1 := va_K.moved hvm.symm hK1
        obtain ⟨hP, hD⟩ := va_join (wr := [(zo13rrirrrr h0 sc kp ik bl go ch bo)]) (w1 := [(zo4rrir go gR gO (nI lk9_27) gS), (zaI gR cR 8 fR9_28), (zaI gO cO 8 fO9_29), (zo10ririliiriririr sc aTp (nI ts) aHl (nI nh) ed mi sn aHs (nI n) aWk (nI wz) aBk (nI bz) aFc), (zaR aHs cHs 8 fHs), (zaI aFc cFc 6 fFc9_30)]) hP hD [1, 2, 3, 4, 5, 6] [0] rfl rfl (by decide) (by decide) hk1 hFc hP1 hD1
        have hK := (hK.sub (tys' := []) [] rfl).app hK1
        generalize H1 = H at hP hS ⊢
        have hP : va_P (dC, dI) vwCl [(zo13rrirrrr h0 sc kp ik bl go ch bo), (zo4rrir go gR gO (nI lk9_27) gS), (zaI gR cR 8 fR9_28), (zaI gO cO 8 fO9_29), (zo10ririliiriririr sc aTp (nI ts) aHl (nI nh) ed mi sn aHs (nI n) aWk (nI wz) aBk (nI bz) aFc), (zaR aHs cHs 8 fHs), (zaI aFc cFc 6 fFc9_30)] H := hP
        have hD : va_D A [(zo13rrirrrr h0 sc kp ik bl go ch bo), (zo4rrir go gR gO (nI lk9_27) gS), (zaI gR cR 8 fR9_28), (zaI gO cO 8 fO9_29), (zo10ririliiriririr sc aTp (nI ts) aHl (nI nh) ed mi sn aHs (nI n) aWk (nI wz) aBk (nI bz) aFc), (zaR aHs cHs 8 fHs), (zaI aFc cFc 6 fFc9_30)] := hD
        have hK : va_K (dC, dI) vwCl [(cR, .int), (cO, .int), (cHs, .object "MistHeaps$Heap"), (cFc, .int)] s := hK
        obtain ⟨elk, hlR, hlO⟩ := hw_26
        obtain rfl := elk.symm
        refine lv_aload_n hx hb dX11_bears_33 rfl (lv_at hl 1 rfl) ?_
        refine va_get (D := (dC, dI)) (ci := 13) (v := .ref go) (C := RX11) (T := TX11) (N := 7) hx hb hts kc_xBears_0 hown hK hP 0 rfl rfl 4 (by decide) (hts (.fieldLink RX11 35 "MistHeaps" "goings" "LMistHeaps$Goings;") kc_xBears_2) (fun _ h9 => h9) rfl dX11_bears_34 ?_
        refine lv_iload_n hx hb dX11_bears_37 rfl (lv_at hl 2 rfl) ?_
        refine lv_iload_n hx hb dX11_bears_38 rfl (lv_at hl 3 rfl) ?_
        refine lv_iconst (v := 0) hx hb dX11_bears_39 (by decide) ?_
        have hPc := hP.sub (ws' := [(zo4rrir go gR gO (nI n) gS), (zaI gO cO 8 fO9_29)]) [1, 3] rfl
        have hKc := hK.sub (tys' := [(cO, .int)]) [1] rfl
        refine vp_callSi (va_runV (As := [.int (nI j1), .int (nI j2), .int 0]) (rest := []) ⟨hx, hb, hml, hown, hts⟩ (c_fewest l dC dI go gR gO gS n (nI j1) (nI j2) 0 cO fO9_29 (by omega)) (cwV 3 hts gX11_bears_X2_fewest rfl rfl rfl hd_yX2_fewest ⟨Nat.le_of_ble_eq_true rfl, Nat.le_of_ble_eq_true rfl⟩) ⟨fun a U g mk q => by obtain ⟨q0, qP, qK⟩ := q; exact ⟨q0, mvP g mk a qP, mvK g mk a qK⟩, va_recv hK hP (ci := 4) (q := (RX2, TX2, 4)) (q0 := 1) rfl rfl, fun U hU hW => ⟨rfl, by rw [hU]; exact hPc, va_K.moved hW.alike hKc⟩⟩ rfl rfl hl.1 rfl (lv_room (Nat.le_of_ble_eq_true rfl)) dX11_bears_40 ⟨Nat.le_of_ble_eq_true rfl, Nat.le_of_ble_eq_true rfl⟩).run (fun r_31 hw_32 => ?_)
        obtain rfl := hw_32
        refine lv_bipush (v := (-5)) hx hb dX11_bears_43 (by decide) ?_
        refine lv_icmp_eq (tgt := 50) hx hb dX11_bears_45 (by decide) (fun c_33 => ?_) (fun c_33 => ?_)
        · skip
          have hA9 := be_dn (i := 7) hA9 (fun z9 => z9 ((show fwR _ n (nI j1) (nI j2) 0 = fsR (gRow n yk yv yc cz mi (nI 7)) n (nI j1) (nI j2) 0 from fw_row hn8 hj1 hj2 (b_0 _) hlO.B).symm.trans c_33))
          refine lv_iinc (v := 6) (lv' := [(3, .int 6), (0, .ref h0), (1, .int (nI j1)), (2, .int (nI j2))]) hx hb dX11_bears_50 hl (k := 0) rfl (by decide) (by decide) rfl (fun ls hl => ?_)
          refine lv_goto (tgt := 17) hx hb dX11_bears_53 (by decide) ?_
          refine lv_iload_n hx hb dX11_bears_17 rfl (lv_at hl 0 rfl) ?_
          refine lv_if_lt (tgt := 56) hx hb dX11_bears_18 (by decide) (fun c_34 => absurd c_34 (by decide)) (fun _ => ?_)
          refine lv_aload_n hx hb dX11_bears_21 rfl (lv_at hl 1 rfl) ?_
          refine va_get (D := (dC, dI)) (ci := 13) (v := .ref go) (C := RX11) (T := TX11) (N := 7) hx hb hts kc_xBears_0 hown hK hP 0 rfl rfl 4 (by decide) (hts (.fieldLink RX11 35 "MistHeaps" "goings" "LMistHeaps$Goings;") kc_xBears_2) (fun _ h9 => h9) rfl dX11_bears_22 ?_
          refine lv_aload_n hx hb dX11_bears_25 rfl (lv_at hl 1 rfl) ?_
          refine va_get (D := (dC, dI)) (ci := 13) (v := .ref sc) (C := RX11) (T := TX11) (N := 7) hx hb hts kc_xBears_0 hown hK hP 0 rfl rfl 0 (by decide) (hts (.fieldLink RX11 14 "MistHeaps" "scene" "LMistHeaps$Scene;") kc_xBears_1) (fun _ h9 => h9) rfl dX11_bears_26 ?_
          refine lv_iload_n hx hb dX11_bears_29 rfl (lv_at hl 0 rfl) ?_
          have hPc := hP.sub (ws' := [(zo4rrir go gR gO (nI n) gS), (zaI gR cR 8 fR9_28), (zaI gO cO 8 fO9_29), (zo10ririliiriririr sc aTp (nI ts) aHl (nI nh) ed mi sn aHs (nI n) aWk (nI wz) aBk (nI bz) aFc), (zaR aHs cHs 8 fHs), (zaI aFc cFc 6 fFc9_30)]) [1, 2, 3, 4, 5, 6] rfl
          have hDc := hD.sub (ws' := [(zo4rrir go gR gO (nI n) gS), (zaI gR cR 8 fR9_28), (zaI gO cO 8 fO9_29), (zo10ririliiriririr sc aTp (nI ts) aHl (nI nh) ed mi sn aHs (nI n) aWk (nI wz) aBk (nI bz) aFc), (zaR aHs cHs 8 fHs), (zaI aFc cFc 6 fFc9_30)]) [1, 2, 3, 4, 5, 6] (by decide) rfl
          have hKc := hK.sub (tys' := [(cR, .int), (cO, .int), (cHs, .object "MistHeaps$Heap"), (cFc, .int)]) [0, 1, 2, 3] rfl
          have hFc := va_free (wc := [(zo4rrir go gR gO (nI n) gS), (zaI gR cR 8 fR9_28), (zaI gO cO 8 fO9_29), (zo10ririliiriririr sc aTp (nI ts) aHl (nI nh) ed mi sn aHs (nI n) aWk (nI wz) aBk (nI bz) aFc), (zaR aHs cHs 8 fHs), (zaI aFc cFc 6 fFc9_30)]) hD hS hA [1, 2, 3, 4, 5, 6] rfl
          refine va_callv (va_runV (As := [.ref sc, .int 6]) (rest := []) ⟨hx, hb, hml, hown, hts⟩ (c_link l dC dI gd  kA   sc go aTp aHl aHs aWk aBk aFc bW bA bE bC gR gO gS ts nh n wz bz n cl mi sn sg cdd szz att nmb 6 ed cHs cFc cbW cbA cbE cbC cR cO fFc9_30 fbW fbA fbE fbC fR9_28 fO9_29 yk yv yc fHs yi ya tpv cz H.size (zhs) (hn8) (zcl) (zE) (zC) (zyv) (zyc) (zHC) (zyt)) (cwV 2 hts gX11_bears_X2_link rfl rfl rfl hd_yX2_link ⟨Nat.le_of_ble_eq_true rfl, Nat.le_of_ble_eq_true rfl⟩) ⟨fun a U g mk q => by obtain ⟨q0, q1, qP, qK, qD, qhG, qhW_, qhN_, qhZ, qhH_⟩ := q; exact ⟨q0, mvz g mk a q1, mvP g mk a qP, mvK g mk a qK, qD, qhG.mv g mk a, qhW_.mv g mk a, qhN_.mv g mk a, qhZ.mv g mk a, qhH_.mv g mk a⟩, va_recv hK hP (ci := 4) (q := (RX2, TX2, 4)) (q0 := 1) rfl rfl, fun U hU hW => ⟨rfl, by rw [hU], by rw [hU]; exact hPc, va_K.moved hW.alike hKc, hDc.weaken (fun _ _ _ _ => trivial), hG.call hS hU hW (fun q h => hFc q h), hW_.call hS hU hW (fun q h => hFc q h), hN_.call hS hU hW (fun q h => hFc q h), (hZ.sub [0, 1, 2, 3, 4] [0, 1, 2, 3] rfl rfl).call hS hU hW (fun q h => hFc q h), hH_.call hS hU hW (fun q h => hFc q h)⟩⟩ rfl rfl hl.1 rfl (lv_room (Nat.le_of_ble_eq_true rfl)) dX11_bears_30 ⟨Nat.le_of_ble_eq_true rfl, Nat.le_of_ble_eq_true rfl⟩) hS (fun q _ h => hFc q h) hFc (fun u tC H1 locs htC hvm hw_36 hB hz1 hk1 hS => ?_)
          obtain ⟨lk9_37, fR9_38, fO9_39, fFc9_40⟩ := u
          try dsimp only at hw_36 hB
          obtain ⟨hP1, hK1, hD1⟩ := hB
          rw [htC] at hP1
          have hK1 := va_K.moved hvm.symm hK1
          obtain ⟨hP, hD⟩ := va_join (wr := [(zo13rrirrrr h0 sc kp ik bl go ch bo)]) (w1 := [(zo4rrir go gR gO (nI lk9_37) gS), (zaI gR cR 8 fR9_38), (zaI gO cO 8 fO9_39), (zo10ririliiriririr sc aTp (nI ts) aHl (nI nh) ed mi sn aHs (nI n) aWk (nI wz) aBk (nI bz) aFc), (zaR aHs cHs 8 fHs), (zaI aFc cFc 6 fFc9_40)]) hP hD [1, 2, 3, 4, 5, 6] [0] rfl rfl (by decide) (by decide) hk1 hFc hP1 hD1
          have hK := (hK.sub (tys' := []) [] rfl).app hK1
          generalize H1 = H at hP hS ⊢
          have hP : va_P (dC, dI) vwCl [(zo13rrirrrr h0 sc kp ik bl go ch bo), (zo4rrir go gR gO (nI lk9_37) gS), (zaI gR cR 8 fR9_38), (zaI gO cO 8 fO9_39), (zo10ririliiriririr sc aTp (nI ts) aHl (nI nh) ed mi sn aHs (nI n) aWk (nI wz) aBk (nI bz) aFc), (zaR aHs cHs 8 fHs), (zaI aFc cFc 6 fFc9_40)] H := hP
          have hD : va_D A [(zo13rrirrrr h0 sc kp ik bl go ch bo), (zo4rrir go gR gO (nI lk9_37) gS), (zaI gR cR 8 fR9_38), (zaI gO cO 8 fO9_39), (zo10ririliiriririr sc aTp (nI ts) aHl (nI nh) ed mi sn aHs (nI n) aWk (nI wz) aBk (nI bz) aFc), (zaR aHs cHs 8 fHs), (zaI aFc cFc 6 fFc9_40)] := hD
          have hK : va_K (dC, dI) vwCl [(cR, .int), (cO, .int), (cHs, .object "MistHeaps$Heap"), (cFc, .int)] s := hK
          obtain ⟨elk, hlR, hlO⟩ := hw_36
          obtain rfl := elk.symm
          refine lv_aload_n hx hb dX11_bears_33 rfl (lv_at hl 1 rfl) ?_
          refine va_get (D := (dC, dI)) (ci := 13) (v := .ref go) (C := RX11) (T := TX11) (N := 7) hx hb hts kc_xBears_0 hown hK hP 0 rfl rfl 4 (by decide) (hts (.fieldLink RX11 35 "MistHeaps" "goings" "LMistHeaps$Goings;") kc_xBears_2) (fun _ h9 => h9) rfl dX11_bears_34 ?_
          refine lv_iload_n hx hb dX11_bears_37 rfl (lv_at hl 2 rfl) ?_
          refine lv_iload_n hx hb dX11_bears_38 rfl (lv_at hl 3 rfl) ?_
          refine lv_iconst (v := 0) hx hb dX11_bears_39 (by decide) ?_
          have hPc := hP.sub (ws' := [(zo4rrir go gR gO (nI n) gS), (zaI gO cO 8 fO9_39)]) [1, 3] rfl
          have hKc := hK.sub (tys' := [(cO, .int)]) [1] rfl
          refine vp_callSi (va_runV (As := [.int (nI j1), .int (nI j2), .int 0]) (rest := []) ⟨hx, hb, hml, hown, hts⟩ (c_fewest l dC dI go gR gO gS n (nI j1) (nI j2) 0 cO fO9_39 (by omega)) (cwV 3 hts gX11_bears_X2_fewest rfl rfl rfl hd_yX2_fewest ⟨Nat.le_of_ble_eq_true rfl, Nat.le_of_ble_eq_true rfl⟩) ⟨fun a U g mk q => by obtain ⟨q0, qP, qK⟩ := q; exact ⟨q0, mvP g mk a qP, mvK g mk a qK⟩, va_recv hK hP (ci := 4) (q := (RX2, TX2, 4)) (q0 := 1) rfl rfl, fun U hU hW => ⟨rfl, by rw [hU]; exact hPc, va_K.moved hW.alike hKc⟩⟩ rfl rfl hl.1 rfl (lv_room (Nat.le_of_ble_eq_true rfl)) dX11_bears_40 ⟨Nat.le_of_ble_eq_true rfl, Nat.le_of_ble_eq_true rfl⟩).run (fun r_41 hw_42 => ?_)
          obtain rfl := hw_42
          refine lv_bipush (v := (-5)) hx hb dX11_bears_43 (by decide) ?_
          refine lv_icmp_eq (tgt := 50) hx hb dX11_bears_45 (by decide) (fun c_43 => ?_) (fun c_43 => ?_)
          · skip
            have hA9 := be_dn (i := 6) hA9 (fun z9 => z9 ((show fwR _ n (nI j1) (nI j2) 0 = fsR (gRow n yk yv yc cz mi (nI 6)) n (nI j1) (nI j2) 0 from fw_row hn8 hj1 hj2 (b_0 _) hlO.B).symm.trans c_43))
            refine lv_iinc (v := 5) (lv' := [(3, .int 5), (0, .ref h0), (1, .int (nI j1)), (2, .int (nI j2))]) hx hb dX11_bears_50 hl (k := 0) rfl (by decide) (by decide) rfl (fun ls hl => ?_)
            refine lv_goto (tgt := 17) hx hb dX11_bears_53 (by decide) ?_
            refine lv_iload_n hx hb dX11_bears_17 rfl (lv_at hl 0 rfl) ?_
            refine lv_if_lt (tgt := 56) hx hb dX11_bears_18 (by decide) (fun c_44 => absurd c_44 (by decide)) (fun _ => ?_)
            refine lv_aload_n hx hb dX11_bears_21 rfl (lv_at hl 1 rfl) ?_
            refine va_get (D := (dC, dI)) (ci := 13) (v := .ref go) (C := RX11) (T := TX11) (N := 7) hx hb hts kc_xBears_0 hown hK hP 0 rfl rfl 4 (by decide) (hts (.fieldLink RX11 35 "MistHeaps" "goings" "LMistHeaps$Goings;") kc_xBears_2) (fun _ h9 => h9) rfl dX11_bears_22 ?_
            refine lv_aload_n hx hb dX11_bears_25 rfl (lv_at hl 1 rfl) ?_
            refine va_get (D := (dC, dI)) (ci := 13) (v := .ref sc) (C := RX11) (T := TX11) (N := 7) hx hb hts kc_xBears_0 hown hK hP 0 rfl rfl 0 (by decide) (hts (.fieldLink RX11 14 "MistHeaps" "scene" "LMistHeaps$Scene;") kc_xBears_1) (fun _ h9 => h9) rfl dX11_bears_26 ?_
            refine lv_iload_n hx hb dX11_bears_29 rfl (lv_at hl 0 rfl) ?_
            have hPc := hP.sub (ws' := [(zo4rrir go gR gO (nI n) gS), (zaI gR cR 8 fR9_38), (zaI gO cO 8 fO9_39), (zo10ririliiriririr sc aTp (nI ts) aHl (nI nh) ed mi sn aHs (nI n) aWk (nI wz) aBk (nI bz) aFc), (zaR aHs cHs 8 fHs), (zaI aFc cFc 6 fFc9_40)]) [1, 2, 3, 4, 5, 6] rfl
            have hDc := hD.sub (ws' := [(zo4rrir go gR gO (nI n) gS), (zaI gR cR 8 fR9_38), (zaI gO cO 8 fO9_39), (zo10ririliiriririr sc aTp (nI ts) aHl (nI nh) ed mi sn aHs (nI n) aWk (nI wz) aBk (nI bz) aFc), (zaR aHs cHs 8 fHs), (zaI aFc cFc 6 fFc9_40)]) [1, 2, 3, 4, 5, 6] (by decide) rfl
            have hKc := hK.sub (tys' := [(cR, .int), (cO, .int), (cHs, .object "MistHeaps$Heap"), (cFc, .int)]) [0, 1, 2, 3] rfl
            have hFc := va_free (wc := [(zo4rrir go gR gO (nI n) gS), (zaI gR cR 8 fR9_38), (zaI gO cO 8 fO9_39), (zo10ririliiriririr sc aTp (nI ts) aHl (nI nh) ed mi sn aHs (nI n) aWk (nI wz) aBk (nI bz) aFc), (zaR aHs cHs 8 fHs), (zaI aFc cFc 6 fFc9_40)]) hD hS hA [1, 2, 3, 4, 5, 6] rfl
            refine va_callv (va_runV (As := [.ref sc, .int 5]) (rest := []) ⟨hx, hb, hml, hown, hts⟩ (c_link l dC dI gd  kA   sc go aTp aHl aHs aWk aBk aFc bW bA bE bC gR gO gS ts nh n wz bz n cl mi sn sg cdd szz att nmb 5 ed cHs cFc cbW cbA cbE cbC cR cO fFc9_40 fbW fbA fbE fbC fR9_38 fO9_39 yk yv yc fHs yi ya tpv cz H.size (zhs) (hn8) (zcl) (zE) (zC) (zyv) (zyc) (zHC) (zyt)) (cwV 2 hts gX11_bears_X2_link rfl rfl rfl hd_yX2_link ⟨Nat.le_of_ble_eq_true rfl, Nat.le_of_ble_eq_true rfl⟩) ⟨fun a U g mk q => by obtain ⟨q0, q1, qP, qK, qD, qhG, qhW_, qhN_, qhZ, qhH_⟩ := q; exact ⟨q0, mvz g mk a q1, mvP g mk a qP, mvK g mk a qK, qD, qhG.mv g mk a, qhW_.mv g mk a, qhN_.mv g mk a, qhZ.mv g mk a, qhH_.mv g mk a⟩, va_recv hK hP (ci := 4) (q := (RX2, TX2, 4)) (q0 := 1) rfl rfl, fun U hU hW => ⟨rfl, by rw [hU], by rw [hU]; exact hPc, va_K.moved hW.alike hKc, hDc.weaken (fun _ _ _ _ => trivial), hG.call hS hU hW (fun q h => hFc q h), hW_.call hS hU hW (fun q h => hFc q h), hN_.call hS hU hW (fun q h => hFc q h), (hZ.sub [0, 1, 2, 3, 4] [0, 1, 2, 3] rfl rfl).call hS hU hW (fun q h => hFc q h), hH_.call hS hU hW (fun q h => hFc q h)⟩⟩ rfl rfl hl.1 rfl (lv_room (Nat.le_of_ble_eq_true rfl)) dX11_bears_30 ⟨Nat.le_of_ble_eq_true rfl, Nat.le_of_ble_eq_true rfl⟩) hS (fun q _ h => hFc q h) hFc (fun u tC H1 locs htC hvm hw_46 hB hz1 hk1 hS => ?_)
            obtain ⟨lk9_47, fR9_48, fO9_49, fFc9_50⟩ := u
            try dsimp only at hw_46 hB
            obtain ⟨hP1, hK1, hD1⟩ := hB
            rw [htC] at hP1
            have hK1 := va_K.moved hvm.symm hK1
            obtain ⟨hP, hD⟩ := va_join (wr := [(zo13rrirrrr h0 sc kp ik bl go ch bo)]) (w1 := [(zo4rrir go gR gO (nI lk9_47) gS), (zaI gR cR 8 fR9_48), (zaI gO cO 8 fO9_49), (zo10ririliiriririr sc aTp (nI ts) aHl (nI nh) ed mi sn aHs (nI n) aWk (nI wz) aBk (nI bz) aFc), (zaR aHs cHs 8 fHs), (zaI aFc cFc 6 fFc9_50)]) hP hD [1, 2, 3, 4, 5, 6] [0] rfl rfl (by decide) (by decide) hk1 hFc hP1 hD1
            have hK := (hK.sub (tys' := []) [] rfl).app hK1
            generalize H1 = H at hP hS ⊢
            have hP : va_P (dC, dI) vwCl [(zo13rrirrrr h0 sc kp ik bl go ch bo), (zo4rrir go gR gO (nI lk9_47) gS), (zaI gR cR 8 fR9_48), (zaI gO cO 8 fO9_49), (zo10ririliiriririr sc aTp (nI ts) aHl (nI nh) ed mi sn aHs (nI n) aWk (nI wz) aBk (nI bz) aFc), (zaR aHs cHs 8 fHs), (zaI aFc cFc 6 fFc9_50)] H := hP
            have hD : va_D A [(zo13rrirrrr h0 sc kp ik bl go ch bo), (zo4rrir go gR gO (nI lk9_47) gS), (zaI gR cR 8 fR9_48), (zaI gO cO 8 fO9_49), (zo10ririliiriririr sc aTp (nI ts) aHl (nI nh) ed mi sn aHs (nI n) aWk (nI wz) aBk (nI bz) aFc), (zaR aHs cHs 8 fHs), (zaI aFc cFc 6 fFc9_50)] := hD
            have hK : va_K (dC, dI) vwCl [(cR, .int), (cO, .int), (cHs, .object "MistHeaps$Heap"), (cFc, .int)] s := hK
            obtain ⟨elk, hlR, hlO⟩ := hw_46
            obtain rfl := elk.symm
            refine lv_aload_n hx hb dX11_bears_33 rfl (lv_at hl 1 rfl) ?_
            refine va_get (D := (dC, dI)) (ci := 13) (v := .ref go) (C := RX11) (T := TX11) (N := 7) hx hb hts kc_xBears_0 hown hK hP 0 rfl rfl 4 (by decide) (hts (.fieldLink RX11 35 "MistHeaps" "goings" "LMistHeaps$Goings;") kc_xBears_2) (fun _ h9 => h9) rfl dX11_bears_34 ?_
            refine lv_iload_n hx hb dX11_bears_37 rfl (lv_at hl 2 rfl) ?_
            refine lv_iload_n hx hb dX11_bears_38 rfl (lv_at hl 3 rfl) ?_
            refine lv_iconst (v := 0) hx hb dX11_bears_39 (by decide) ?_
            have hPc := hP.sub (ws' := [(zo4rrir go gR gO (nI n) gS), (zaI gO cO 8 fO9_49)]) [1, 3] rfl
            have hKc := hK.sub (tys' := [(cO, .int)]) [1] rfl
            refine vp_callSi (va_runV (As := [.int (nI j1), .int (nI j2), .int 0]) (rest := []) ⟨hx, hb, hml, hown, hts⟩ (c_fewest l dC dI go gR gO gS n (nI j1) (nI j2) 0 cO fO9_49 (by omega)) (cwV 3 hts gX11_bears_X2_fewest rfl rfl rfl hd_yX2_fewest ⟨Nat.le_of_ble_eq_true rfl, Nat.le_of_ble_eq_true rfl⟩) ⟨fun a U g mk q => by obtain ⟨q0, qP, qK⟩ := q; exact ⟨q0, mvP g mk a qP, mvK g mk a qK⟩, va_recv hK hP (ci := 4) (q := (RX2, TX2, 4)) (q0 := 1) rfl rfl, fun U hU hW => ⟨rfl, by rw [hU]; exact hPc, va_K.moved hW.alike hKc⟩⟩ rfl rfl hl.1 rfl (lv_room (Nat.le_of_ble_eq_true rfl)) dX11_bears_40 ⟨Nat.le_of_ble_eq_true rfl, Nat.le_of_ble_eq_true rfl⟩).run (fun r_51 hw_52 => ?_)
            obtain rfl := hw_52
            refine lv_bipush (v := (-5)) hx hb dX11_bears_43 (by decide) ?_
            refine lv_icmp_eq (tgt := 50) hx hb dX11_bears_45 (by decide) (fun c_53 => ?_) (fun c_53 => ?_)
            · skip
              have hA9 := be_dn (i := 5) hA9 (fun z9 => z9 ((show fwR _ n (nI j1) (nI j2) 0 = fsR (gRow n yk yv yc cz mi (nI 5)) n (nI j1) (nI j2) 0 from fw_row hn8 hj1 hj2 (b_0 _) hlO.B).symm.trans c_53))
              refine lv_iinc (v := 4) (lv' := [(3, .int 4), (0, .ref h0), (1, .int (nI j1)), (2, .int (nI j2))]) hx hb dX11_bears_50 hl (k := 0) rfl (by decide) (by decide) rfl (fun ls hl => ?_)
              refine lv_goto (tgt := 17) hx hb dX11_bears_53 (by decide) ?_
              refine lv_iload_n hx hb dX11_bears_17 rfl (lv_at hl 0 rfl) ?_
              refine lv_if_lt (tgt := 56) hx hb dX11_bears_18 (by decide) (fun c_54 => absurd c_54 (by decide)) (fun _ => ?_)
              refine lv_aload_n hx hb dX11_bears_21 rfl (lv_at hl 1 rfl) ?_
              refine va_get (D := (dC, dI)) (ci := 13) (v := .ref go) (C := RX11) (T := TX11) (N := 7) hx hb hts kc_xBears_0 hown hK hP 0 rfl rfl 4 (by decide) (hts (.fieldLink RX11 35 "MistHeaps" "goings" "LMistHeaps$Goings;") kc_xBears_2) (fun _ h9 => h9) rfl dX11_bears_22 ?_
              refine lv_aload_n hx hb dX11_bears_25 rfl (lv_at hl 1 rfl) ?_
              refine va_get (D := (dC, dI)) (ci := 13) (v := .ref sc) (C := RX11) (T := TX11) (N := 7) hx hb hts kc_xBears_0 hown hK hP 0 rfl rfl 0 (by decide) (hts (.fieldLink RX11 14 "MistHeaps" "scene" "LMistHeaps$Scene;") kc_xBears_1) (fun _ h9 => h9) rfl dX11_bears_26 ?_
              refine lv_iload_n hx hb dX11_bears_29 rfl (lv_at hl 0 rfl) ?_
              have hPc := hP.sub (ws' := [(zo4rrir go gR gO (nI n) gS), (zaI gR cR 8 fR9_48), (zaI gO cO 8 fO9_49), (zo10ririliiriririr sc aTp (nI ts) aHl (nI nh) ed mi sn aHs (nI n) aWk (nI wz) aBk (nI bz) aFc), (zaR aHs cHs 8 fHs), (zaI aFc cFc 6 fFc9_50)]) [1, 2, 3, 4, 5, 6] rfl
              have hDc := hD.sub (ws' := [(zo4rrir go gR gO (nI n) gS), (zaI gR cR 8 fR9_48), (zaI gO cO 8 fO9_49), (zo10ririliiriririr sc aTp (nI ts) aHl (nI nh) ed mi sn aHs (nI n) aWk (nI wz) aBk (nI bz) aFc), (zaR aHs cHs 8 fHs), (zaI aFc cFc 6 fFc9_50)]) [1, 2, 3, 4, 5, 6] (by decide) rfl
              have hKc := hK.sub (tys' := [(cR, .int), (cO, .int), (cHs, .object "MistHeaps$Heap"), (cFc, .int)]) [0, 1, 2, 3] rfl
              have hFc := va_free (wc := [(zo4rrir go gR gO (nI n) gS), (zaI gR cR 8 fR9_48), (zaI gO cO 8 fO9_49), (zo10ririliiriririr sc aTp (nI ts) aHl (nI nh) ed mi sn aHs (nI n) aWk (nI wz) aBk (nI bz) aFc), (zaR aHs cHs 8 fHs), (zaI aFc cFc 6 fFc9_50)]) hD hS hA [1, 2, 3, 4, 5, 6] rfl
              refine va_callv (va_runV (As := [.ref sc, .int 4]) (rest := []) ⟨hx, hb, hml, hown, hts⟩ (c_link l dC dI gd  kA   sc go aTp aHl aHs aWk aBk aFc bW bA bE bC gR gO gS ts nh n wz bz n cl mi sn sg cdd szz att nmb 4 ed cHs cFc cbW cbA cbE cbC cR cO fFc9_50 fbW fbA fbE fbC fR9_48 fO9_49 yk yv yc fHs yi ya tpv cz H.size (zhs) (hn8) (zcl) (zE) (zC) (zyv) (zyc) (zHC) (zyt)) (cwV 2 hts gX11_bears_X2_link rfl rfl rfl hd_yX2_link ⟨Nat.le_of_ble_eq_true rfl, Nat.le_of_ble_eq_true rfl⟩) ⟨fun a U g mk q => by obtain ⟨q0, q1, qP, qK, qD, qhG, qhW_, qhN_, qhZ, qhH_⟩ := q; exact ⟨q0, mvz g mk a q1, mvP g mk a qP, mvK g mk a qK, qD, qhG.mv g mk a, qhW_.mv g mk a, qhN_.mv g mk a, qhZ.mv g mk a, qhH_.mv g mk a⟩, va_recv hK hP (ci := 4) (q := (RX2, TX2, 4)) (q0 := 1) rfl rfl, fun U hU hW => ⟨rfl, by rw [hU], by rw [hU]; exact hPc, va_K.moved hW.alike hKc, hDc.weaken (fun _ _ _ _ => trivial), hG.call hS hU hW (fun q h => hFc q h), hW_.call hS hU hW (fun q h => hFc q h), hN_.call hS hU hW (fun q h => hFc q h), (hZ.sub [0, 1, 2, 3, 4] [0, 1, 2, 3] rfl rfl).call hS hU hW (fun q h => hFc q h), hH_.call hS hU hW (fun q h => hFc q h)⟩⟩ rfl rfl hl.1 rfl (lv_room (Nat.le_of_ble_eq_true rfl)) dX11_bears_30 ⟨Nat.le_of_ble_eq_true rfl, Nat.le_of_ble_eq_true rfl⟩) hS (fun q _ h => hFc q h) hFc (fun u tC H1 locs htC hvm hw_56 hB hz1 hk1 hS => ?_)
              obtain ⟨lk9_57, fR9_58, fO9_59, fFc9_60⟩ := u
              try dsimp only at hw_56 hB
              obtain ⟨hP1, hK1, hD1⟩ := hB
              rw [htC] at hP1
              have hK1 := va_K.moved hvm.symm hK1
              obtain ⟨hP, hD⟩ := va_join (wr := [(zo13rrirrrr h0 sc kp ik bl go ch bo)]) (w1 := [(zo4rrir go gR gO (nI lk9_57) gS), (zaI gR cR 8 fR9_58), (zaI gO cO 8 fO9_59), (zo10ririliiriririr sc aTp (nI ts) aHl (nI nh) ed mi sn aHs (nI n) aWk (nI wz) aBk (nI bz) aFc), (zaR aHs cHs 8 fHs), (zaI aFc cFc 6 fFc9_60)]) hP hD [1, 2, 3, 4, 5, 6] [0] rfl rfl (by decide) (by decide) hk1 hFc hP1 hD1
              have hK := (hK.sub (tys' := []) [] rfl).app hK1
              generalize H1 = H at hP hS ⊢
              have hP : va_P (dC, dI) vwCl [(zo13rrirrrr h0 sc kp ik bl go ch bo), (zo4rrir go gR gO (nI lk9_57) gS), (zaI gR cR 8 fR9_58), (zaI gO cO 8 fO9_59), (zo10ririliiriririr sc aTp (nI ts) aHl (nI nh) ed mi sn aHs (nI n) aWk (nI wz) aBk (nI bz) aFc), (zaR aHs cHs 8 fHs), (zaI aFc cFc 6 fFc9_60)] H := hP
              have hD : va_D A [(zo13rrirrrr h0 sc kp ik bl go ch bo), (zo4rrir go gR gO (nI lk9_57) gS), (zaI gR cR 8 fR9_58), (zaI gO cO 8 fO9_59), (zo10ririliiriririr sc aTp (nI ts) aHl (nI nh) ed mi sn aHs (nI n) aWk (nI wz) aBk (nI bz) aFc), (zaR aHs cHs 8 fHs), (zaI aFc cFc 6 fFc9_60)] := hD
              have hK : va_K (dC, dI) vwCl [(cR, .int), (cO, .int), (cHs, .object "MistHeaps$Heap"), (cFc, .int)] s := hK
              obtain ⟨elk, hlR, hlO⟩ := hw_56
              obtain rfl := elk.symm
              refine lv_aload_n hx hb dX11_bears_33 rfl (lv_at hl 1 rfl) ?_
              refine va_get (D := (dC, dI)) (ci := 13) (v := .ref go) (C := RX11) (T := TX11) (N := 7) hx hb hts kc_xBears_0 hown hK hP 0 rfl rfl 4 (by decide) (hts (.fieldLink RX11 35 "MistHeaps" "goings" "LMistHeaps$Goings;") kc_xBears_2) (fun _ h9 => h9) rfl dX11_bears_34 ?_
              refine lv_iload_n hx hb dX11_bears_37 rfl (lv_at hl 2 rfl) ?_
              refine lv_iload_n hx hb dX11_bears_38 rfl (lv_at hl 3 rfl) ?_
              refine lv_iconst (v := 0) hx hb dX11_bears_39 (by decide) ?_
              have hPc := hP.sub (ws' := [(zo4rrir go gR gO (nI n) gS), (zaI gO cO 8 fO9_59)]) [1, 3] rfl
              have hKc := hK.sub (tys' := [(cO, .int)]) [1] rfl
              refine vp_callSi (va_runV (As := [.int (nI j1), .int (nI j2), .int 0]) (rest := []) ⟨hx, hb, hml, hown, hts⟩ (c_fewest l dC dI go gR gO gS n (nI j1) (nI j2) 0 cO fO9_59 (by omega)) (cwV 3 hts gX11_bears_X2_fewest rfl rfl rfl hd_yX2_fewest ⟨Nat.le_of_ble_eq_true rfl, Nat.le_of_ble_eq_true rfl⟩) ⟨fun a U g mk q => by obtain ⟨q0, qP, qK⟩ := q; exact ⟨q0, mvP g mk a qP, mvK g mk a qK⟩, va_recv hK hP (ci := 4) (q := (RX2, TX2, 4)) (q0 := 1) rfl rfl, fun U hU hW => ⟨rfl, by rw [hU]; exact hPc, va_K.moved hW.alike hKc⟩⟩ rfl rfl hl.1 rfl (lv_room (Nat.le_of_ble_eq_true rfl)) dX11_bears_40 ⟨Nat.le_of_ble_eq_true rfl, Nat.le_of_ble_eq_true rfl⟩).run (fun r_61 hw_62 => ?_)
              obtain rfl := hw_62
              refine lv_bipush (v := (-5)) hx hb dX11_bears_43 (by decide) ?_
              refine lv_icmp_eq (tgt := 50) hx hb dX11_bears_45 (by decide) (fun c_63 => ?_) (fun c_63 => ?_)
              · skip
                have hA9 := be_dn (i := 4) hA9 (fun z9 => z9 ((show fwR _ n (nI j1) (nI j2) 0 = fsR (gRow n yk yv yc cz mi (nI 4)) n (nI j1) (nI j2) 0 from fw_row hn8 hj1 hj2 (b_0 _) hlO.B).symm.trans c_63))
                refine lv_iinc (v := 3) (lv' := [(3, .int 3), (0, .ref h0), (1, .int (nI j1)), (2, .int (nI j2))]) hx hb dX11_bears_50 hl (k := 0) rfl (by decide) (by decide) rfl (fun ls hl => ?_)
                refine lv_goto (tgt := 17) hx hb dX11_bears_53 (by decide) ?_
                refine lv_iload_n hx hb dX11_bears_17 rfl (lv_at hl 0 rfl) ?_
                refine lv_if_lt (tgt := 56) hx hb dX11_bears_18 (by decide) (fun c_64 => absurd c_64 (by decide)) (fun _ => ?_)
                refine lv_aload_n hx hb dX11_bears_21 rfl (lv_at hl 1 rfl) ?_
                refine va_get (D := (dC, dI)) (ci := 13) (v := .ref go) (C := RX11) (T := TX11) (N := 7) hx hb hts kc_xBears_0 hown hK hP 0 rfl rfl 4 (by decide) (hts (.fieldLink RX11 35 "MistHeaps" "goings" "LMistHeaps$Goings;") kc_xBears_2) (fun _ h9 => h9) rfl dX11_bears_22 ?_
                refine lv_aload_n hx hb dX11_bears_25 rfl (lv_at hl 1 rfl) ?_
                refine va_get (D := (dC, dI)) (ci := 13) (v := .ref sc) (C := RX11) (T := TX11) (N := 7) hx hb hts kc_xBears_0 hown hK hP 0 rfl rfl 0 (by decide) (hts (.fieldLink RX11 14 "MistHeaps" "scene" "LMistHeaps$Scene;") kc_xBears_1) (fun _ h9 => h9) rfl dX11_bears_26 ?_
                refine lv_iload_n hx hb dX11_bears_29 rfl (lv_at hl 0 rfl) ?_
                have hPc := hP.sub (ws' := [(zo4rrir go gR gO (nI n) gS), (zaI gR cR 8 fR9_58), (zaI gO cO 8 fO9_59), (zo10ririliiriririr sc aTp (nI ts) aHl (nI nh) ed mi sn aHs (nI n) aWk (nI wz) aBk (nI bz) aFc), (zaR aHs cHs 8 fHs), (zaI aFc cFc 6 fFc9_60)]) [1, 2, 3, 4, 5, 6] rfl
                have hDc := hD.sub (ws' := [(zo4rrir go gR gO (nI n) gS), (zaI gR cR 8 fR9_58), (zaI gO cO 8 fO9_59), (zo10ririliiriririr sc aTp (nI ts) aHl (nI nh) ed mi sn aHs (nI n) aWk (nI wz) aBk (nI bz) aFc), (zaR aHs cHs 8 fHs), (zaI aFc cFc 6 fFc9_60)]) [1, 2, 3, 4, 5, 6] (by decide) rfl
                have hKc := hK.sub (tys' := [(cR, .int), (cO, .int), (cHs, .object "MistHeaps$Heap"), (cFc, .int)]) [0, 1, 2, 3] rfl
                have hFc := va_free (wc := [(zo4rrir go gR gO (nI n) gS), (zaI gR cR 8 fR9_58), (zaI gO cO 8 fO9_59), (zo10ririliiriririr sc aTp (nI ts) aHl (nI nh) ed mi sn aHs (nI n) aWk (nI wz) aBk (nI bz) aFc), (zaR aHs cHs 8 fHs), (zaI aFc cFc 6 fFc9_60)]) hD hS hA [1, 2, 3, 4, 5, 6] rfl
                refine va_callv (va_runV (As := [.ref sc, .int 3]) (rest := []) ⟨hx, hb, hml, hown, hts⟩ (c_link l dC dI gd  kA   sc go aTp aHl aHs aWk aBk aFc bW bA bE bC gR gO gS ts nh n wz bz n cl mi sn sg cdd szz att nmb 3 ed cHs cFc cbW cbA cbE cbC cR cO fFc9_60 fbW fbA fbE fbC fR9_58 fO9_59 yk yv yc fHs yi ya tpv cz H.size (zhs) (hn8) (zcl) (zE) (zC) (zyv) (zyc) (zHC) (zyt)) (cwV 2 hts gX11_bears_X2_link rfl rfl rfl hd_yX2_link ⟨Nat.le_of_ble_eq_true rfl, Nat.le_of_ble_eq_true rfl⟩) ⟨fun a U g mk q => by obtain ⟨q0, q1, qP, qK, qD, qhG, qhW_, qhN_, qhZ, qhH_⟩ := q; exact ⟨q0, mvz g mk a q1, mvP g mk a qP, mvK g mk a qK, qD, qhG.mv g mk a, qhW_.mv g mk a, qhN_.mv g mk a, qhZ.mv g mk a, qhH_.mv g mk a⟩, va_recv hK hP (ci := 4) (q := (RX2, TX2, 4)) (q0 := 1) rfl rfl, fun U hU hW => ⟨rfl, by rw [hU], by rw [hU]; exact hPc, va_K.moved hW.alike hKc, hDc.weaken (fun _ _ _ _ => trivial), hG.call hS hU hW (fun q h => hFc q h), hW_.call hS hU hW (fun q h => hFc q h), hN_.call hS hU hW (fun q h => hFc q h), (hZ.sub [0, 1, 2, 3, 4] [0, 1, 2, 3] rfl rfl).call hS hU hW (fun q h => hFc q h), hH_.call hS hU hW (fun q h => hFc q h)⟩⟩ rfl rfl hl.1 rfl (lv_room (Nat.le_of_ble_eq_true rfl)) dX11_bears_30 ⟨Nat.le_of_ble_eq_true rfl, Nat.le_of_ble_eq_true rfl⟩) hS (fun q _ h => hFc q h) hFc (fun u tC H1 locs htC hvm hw_66 hB hz1 hk1 hS => ?_)
                obtain ⟨lk9_67, fR9_68, fO9_69, fFc9_70⟩ := u
                try dsimp only at hw_66 hB
                obtain ⟨hP1, hK1, hD1⟩ := hB
                rw [htC] at hP1
                have hK1 := va_K.moved hvm.symm hK1
                obtain ⟨hP, hD⟩ := va_join (wr := [(zo13rrirrrr h0 sc kp ik bl go ch bo)]) (w1 := [(zo4rrir go gR gO (nI lk9_67) gS), (zaI gR cR 8 fR9_68), (zaI gO cO 8 fO9_69), (zo10ririliiriririr sc aTp (nI ts) aHl (nI nh) ed mi sn aHs (nI n) aWk (nI wz) aBk (nI bz) aFc), (zaR aHs cHs 8 fHs), (zaI aFc cFc 6 fFc9_70)]) hP hD [1, 2, 3, 4, 5, 6] [0] rfl rfl (by decide) (by decide) hk1 hFc hP1 hD1
                have hK := (hK.sub (tys' := []) [] rfl).app hK1
                generalize H1 = H at hP hS ⊢
                have hP : va_P (dC, dI) vwCl [(zo13rrirrrr h0 sc kp ik bl go ch bo), (zo4rrir go gR gO (nI lk9_67) gS), (zaI gR cR 8 fR9_68), (zaI gO cO 8 fO9_69), (zo10ririliiriririr sc aTp (nI ts) aHl (nI nh) ed mi sn aHs (nI n) aWk (nI wz) aBk (nI bz) aFc), (zaR aHs cHs 8 fHs), (zaI aFc cFc 6 fFc9_70)] H := hP
                have hD : va_D A [(zo13rrirrrr h0 sc kp ik bl go ch bo), (zo4rrir go gR gO (nI lk9_67) gS), (zaI gR cR 8 fR9_68), (zaI gO cO 8 fO9_69), (zo10ririliiriririr sc aTp (nI ts) aHl (nI nh) ed mi sn aHs (nI n) aWk (nI wz) aBk (nI bz) aFc), (zaR aHs cHs 8 fHs), (zaI aFc cFc 6 fFc9_70)] := hD
                have hK : va_K (dC, dI) vwCl [(cR, .int), (cO, .int), (cHs, .object "MistHeaps$Heap"), (cFc, .int)] s := hK
                obtain ⟨elk, hlR, hlO⟩ := hw_66
                obtain rfl := elk.symm
                refine lv_aload_n hx hb dX11_bears_33 rfl (lv_at hl 1 rfl) ?_
                refine va_get (D := (dC, dI)) (ci := 13) (v := .ref go) (C := RX11) (T := TX11) (N := 7) hx hb hts kc_xBears_0 hown hK hP 0 rfl rfl 4 (by decide) (hts (.fieldLink RX11 35 "MistHeaps" "goings" "LMistHeaps$Goings;") kc_xBears_2) (fun _ h9 => h9) rfl dX11_bears_34 ?_
                refine lv_iload_n hx hb dX11_bears_37 rfl (lv_at hl 2 rfl) ?_
                refine lv_iload_n hx hb dX11_bears_38 rfl (lv_at hl 3 rfl) ?_
                refine lv_iconst (v := 0) hx hb dX11_bears_39 (by decide) ?_
                have hPc := hP.sub (ws' := [(zo4rrir go gR gO (nI n) gS), (zaI gO cO 8 fO9_69)]) [1, 3] rfl
                have hKc := hK.sub (tys' := [(cO, .int)]) [1] rfl
                refine vp_callSi (va_runV (As := [.int (nI j1), .int (nI j2), .int 0]) (rest := []) ⟨hx, hb, hml, hown, hts⟩ (c_fewest l dC dI go gR gO gS n (nI j1) (nI j2) 0 cO fO9_69 (by omega)) (cwV 3 hts gX11_bears_X2_fewest rfl rfl rfl hd_yX2_fewest ⟨Nat.le_of_ble_eq_true rfl, Nat.le_of_ble_eq_true rfl⟩) ⟨fun a U g mk q => by obtain ⟨q0, qP, qK⟩ := q; exact ⟨q0, mvP g mk a qP, mvK g mk a qK⟩, va_recv hK hP (ci := 4) (q := (RX2, TX2, 4)) (q0 := 1) rfl rfl, fun U hU hW => ⟨rfl, by rw [hU]; exact hPc, va_K.moved hW.alike hKc⟩⟩ rfl rfl hl.1 rfl (lv_room (Nat.le_of_ble_eq_true rfl)) dX11_bears_40 ⟨Nat.le_of_ble_eq_true rfl, Nat.le_of_ble_eq_true rfl⟩).run (fun r_71 hw_72 => ?_)
                obtain rfl := hw_72
                refine lv_bipush (v := (-5)) hx hb dX11_bears_43 (by decide) ?_
                refine lv_icmp_eq (tgt := 50) hx hb dX11_bears_45 (by decide) (fun c_73 => ?_) (fun c_73 => ?_)
                · skip
                  have hA9 := be_dn (i := 3) hA9 (fun z9 => z9 ((show fwR _ n (nI j1) (nI j2) 0 = fsR (gRow n yk yv yc cz mi (nI 3)) n (nI j1) (nI j2) 0 from fw_row hn8 hj1 hj2 (b_0 _) hlO.B).symm.trans c_73))
                  refine lv_iinc (v := 2) (lv' := [(3, .int 2), (0, .ref h0), (1, .int (nI j1)), (2, .int (nI j2))]) hx hb dX11_bears_50 hl (k := 0) rfl (by decide) (by decide) rfl (fun ls hl => ?_)
                  refine lv_goto (tgt := 17) hx hb dX11_bears_53 (by decide) ?_
                  refine lv_iload_n hx hb dX11_bears_17 rfl (lv_at hl 0 rfl) ?_
                  refine lv_if_lt (tgt := 56) hx hb dX11_bears_18 (by decide) (fun c_74 => absurd c_74 (by decide)) (fun _ => ?_)
                  refine lv_aload_n hx hb dX11_bears_21 rfl (lv_at hl 1 rfl) ?_
                  refine va_get (D := (dC, dI)) (ci := 13) (v := .ref go) (C := RX11) (T := TX11) (N := 7) hx hb hts kc_xBears_0 hown hK hP 0 rfl rfl 4 (by decide) (hts (.fieldLink RX11 35 "MistHeaps" "goings" "LMistHeaps$Goings;") kc_xBears_2) (fun _ h9 => h9) rfl dX11_bears_22 ?_
                  refine lv_aload_n hx hb dX11_bears_25 rfl (lv_at hl 1 rfl) ?_
                  refine va_get (D := (dC, dI)) (ci := 13) (v := .ref sc) (C := RX11) (T := TX11) (N := 7) hx hb hts kc_xBears_0 hown hK hP 0 rfl rfl 0 (by decide) (hts (.fieldLink RX11 14 "MistHeaps" "scene" "LMistHeaps$Scene;") kc_xBears_1) (fun _ h9 => h9) rfl dX11_bears_26 ?_
                  refine lv_iload_n hx hb dX11_bears_29 rfl (lv_at hl 0 rfl) ?_
                  have hPc := hP.sub (ws' := [(zo4rrir go gR gO (nI n) gS), (zaI gR cR 8 fR9_68), (zaI gO cO 8 fO9_69), (zo10ririliiriririr sc aTp (nI ts) aHl (nI nh) ed mi sn aHs (nI n) aWk (nI wz) aBk (nI bz) aFc), (zaR aHs cHs 8 fHs), (zaI aFc cFc 6 fFc9_70)]) [1, 2, 3, 4, 5, 6] rfl
                  have hDc := hD.sub (ws' := [(zo4rrir go gR gO (nI n) gS), (zaI gR cR 8 fR9_68), (zaI gO cO 8 fO9_69), (zo10ririliiriririr sc aTp (nI ts) aHl (nI nh) ed mi sn aHs (nI n) aWk (nI wz) aBk (nI bz) aFc), (zaR aHs cHs 8 fHs), (zaI aFc cFc 6 fFc9_70)]) [1, 2, 3, 4, 5, 6] (by decide) rfl
                  have hKc := hK.sub (tys' := [(cR, .int), (cO, .int), (cHs, .object "MistHeaps$Heap"), (cFc, .int)]) [0, 1, 2, 3] rfl
                  have hFc := va_free (wc := [(zo4rrir go gR gO (nI n) gS), (zaI gR cR 8 fR9_68), (zaI gO cO 8 fO9_69), (zo10ririliiriririr sc aTp (nI ts) aHl (nI nh) ed mi sn aHs (nI n) aWk (nI wz) aBk (nI bz) aFc), (zaR aHs cHs 8 fHs), (zaI aFc cFc 6 fFc9_70)]) hD hS hA [1, 2, 3, 4, 5, 6] rfl
                  refine va_callv (va_runV (As := [.ref sc, .int 2]) (rest := []) ⟨hx, hb, hml, hown, hts⟩ (c_link l dC dI gd  kA   sc go aTp aHl aHs aWk aBk aFc bW bA bE bC gR gO gS ts nh n wz bz n cl mi sn sg cdd szz att nmb 2 ed cHs cFc cbW cbA cbE cbC cR cO fFc9_70 fbW fbA fbE fbC fR9_68 fO9_69 yk yv yc fHs yi ya tpv cz H.size (zhs) (hn8) (zcl) (zE) (zC) (zyv) (zyc) (zHC) (zyt)) (cwV 2 hts gX11_bears_X2_link rfl rfl rfl hd_yX2_link ⟨Nat.le_of_ble_eq_true rfl, Nat.le_of_ble_eq_true rfl⟩) ⟨fun a U g mk q => by obtain ⟨q0, q1, qP, qK, qD, qhG, qhW_, qhN_, qhZ, qhH_⟩ := q; exact ⟨q0, mvz g mk a q1, mvP g mk a qP, mvK g mk a qK, qD, qhG.mv g mk a, qhW_.mv g mk a, qhN_.mv g mk a, qhZ.mv g mk a, qhH_.mv g mk a⟩, va_recv hK hP (ci := 4) (q := (RX2, TX2, 4)) (q0 := 1) rfl rfl, fun U hU hW => ⟨rfl, by rw [hU], by rw [hU]; exact hPc, va_K.moved hW.alike hKc, hDc.weaken (fun _ _ _ _ => trivial), hG.call hS hU hW (fun q h => hFc q h), hW_.call hS hU hW (fun q h => hFc q h), hN_.call hS hU hW (fun q h => hFc q h), (hZ.sub [0, 1, 2, 3, 4] [0, 1, 2, 3] rfl rfl).call hS hU hW (fun q h => hFc q h), hH_.call hS hU hW (fun q h => hFc q h)⟩⟩ rfl rfl hl.1 rfl (lv_room (Nat.le_of_ble_eq_true rfl)) dX11_bears_30 ⟨Nat.le_of_ble_eq_true rfl, Nat.le_of_ble_eq_true rfl⟩) hS (fun q _ h => hFc q h) hFc (fun u tC H1 locs htC hvm hw_76 hB hz1 hk1 hS => ?_)
                  obtain ⟨lk9_77, fR9_78, fO9_79, fFc9_80⟩ := u
                  try dsimp only at hw_76 hB
                  obtain ⟨hP1, hK1, hD1⟩ := hB
                  rw [htC] at hP1
                  have hK1 := va_K.moved hvm.symm hK1
                  obtain ⟨hP, hD⟩ := va_join (wr := [(zo13rrirrrr h0 sc kp ik bl go ch bo)]) (w1 := [(zo4rrir go gR gO (nI lk9_77) gS), (zaI gR cR 8 fR9_78), (zaI gO cO 8 fO9_79), (zo10ririliiriririr sc aTp (nI ts) aHl (nI nh) ed mi sn aHs (nI n) aWk (nI wz) aBk (nI bz) aFc), (zaR aHs cHs 8 fHs), (zaI aFc cFc 6 fFc9_80)]) hP hD [1, 2, 3, 4, 5, 6] [0] rfl rfl (by decide) (by decide) hk1 hFc hP1 hD1
                  have hK := (hK.sub (tys' := []) [] rfl).app hK1
                  generalize H1 = H at hP hS ⊢
                  have hP : va_P (dC, dI) vwCl [(zo13rrirrrr h0 sc kp ik bl go ch bo), (zo4rrir go gR gO (nI lk9_77) gS), (zaI gR cR 8 fR9_78), (zaI gO cO 8 fO9_79), (zo10ririliiriririr sc aTp (nI ts) aHl (nI nh) ed mi sn aHs (nI n) aWk (nI wz) aBk (nI bz) aFc), (zaR aHs cHs 8 fHs), (zaI aFc cFc 6 fFc9_80)] H := hP
                  have hD : va_D A [(zo13rrirrrr h0 sc kp ik bl go ch bo), (zo4rrir go gR gO (nI lk9_77) gS), (zaI gR cR 8 fR9_78), (zaI gO cO 8 fO9_79), (zo10ririliiriririr sc aTp (nI ts) aHl (nI nh) ed mi sn aHs (nI n) aWk (nI wz) aBk (nI bz) aFc), (zaR aHs cHs 8 fHs), (zaI aFc cFc 6 fFc9_80)] := hD
                  have hK : va_K (dC, dI) vwCl [(cR, .int), (cO, .int), (cHs, .object "MistHeaps$Heap"), (cFc, .int)] s := hK
                  obtain ⟨elk, hlR, hlO⟩ := hw_76
                  obtain rfl := elk.symm
                  refine lv_aload_n hx hb dX11_bears_33 rfl (lv_at hl 1 rfl) ?_
                  refine va_get (D := (dC, dI)) (ci := 13) (v := .ref go) (C := RX11) (T := TX11) (N := 7) hx hb hts kc_xBears_0 hown hK hP 0 rfl rfl 4 (by decide) (hts (.fieldLink RX11 35 "MistHeaps" "goings" "LMistHeaps$Goings;") kc_xBears_2) (fun _ h9 => h9) rfl dX11_bears_34 ?_
                  refine lv_iload_n hx hb dX11_bears_37 rfl (lv_at hl 2 rfl) ?_
                  refine lv_iload_n hx hb dX11_bears_38 rfl (lv_at hl 3 rfl) ?_
                  refine lv_iconst (v := 0) hx hb dX11_bears_39 (by decide) ?_
                  have hPc := hP.sub (ws' := [(zo4rrir go gR gO (nI n) gS), (zaI gO cO 8 fO9_79)]) [1, 3] rfl
                  have hKc := hK.sub (tys' := [(cO, .int)]) [1] rfl
                  refine vp_callSi (va_runV (As := [.int (nI j1), .int (nI j2), .int 0]) (rest := []) ⟨hx, hb, hml, hown, hts⟩ (c_fewest l dC dI go gR gO gS n (nI j1) (nI j2) 0 cO fO9_79 (by omega)) (cwV 3 hts gX11_bears_X2_fewest rfl rfl rfl hd_yX2_fewest ⟨Nat.le_of_ble_eq_true rfl, Nat.le_of_ble_eq_true rfl⟩) ⟨fun a U g mk q => by obtain ⟨q0, qP, qK⟩ := q; exact ⟨q0, mvP g mk a qP, mvK g mk a qK⟩, va_recv hK hP (ci := 4) (q := (RX2, TX2, 4)) (q0 := 1) rfl rfl, fun U hU hW => ⟨rfl, by rw [hU]; exact hPc, va_K.moved hW.alike hKc⟩⟩ rfl rfl hl.1 rfl (lv_room (Nat.le_of_ble_eq_true rfl)) dX11_bears_40 ⟨Nat.le_of_ble_eq_true rfl, Nat.le_of_ble_eq_true rfl⟩).run (fun r_81 hw_82 => ?_)
                  obtain rfl := hw_82
                  refine lv_bipush (v := (-5)) hx hb dX11_bears_43 (by decide) ?_
                  refine lv_icmp_eq (tgt := 50) hx hb dX11_bears_45 (by decide) (fun c_83 => ?_) (fun c_83 => ?_)
                  · skip
                    have hA9 := be_dn (i := 2) hA9 (fun z9 => z9 ((show fwR _ n (nI j1) (nI j2) 0 = fsR (gRow n yk yv yc cz mi (nI 2)) n (nI j1) (nI j2) 0 from fw_row hn8 hj1 hj2 (b_0 _) hlO.B).symm.trans c_83))
                    refine lv_iinc (v := 1) (lv' := [(3, .int 1), (0, .ref h0), (1, .int (nI j1)), (2, .int (nI j2))]) hx hb dX11_bears_50 hl (k := 0) rfl (by decide) (by decide) rfl (fun ls hl => ?_)
                    refine lv_goto (tgt := 17) hx hb dX11_bears_53 (by decide) ?_
                    refine lv_iload_n hx hb dX11_bears_17 rfl (lv_at hl 0 rfl) ?_
                    refine lv_if_lt (tgt := 56) hx hb dX11_bears_18 (by decide) (fun c_84 => absurd c_84 (by decide)) (fun _ => ?_)
                    refine lv_aload_n hx hb dX11_bears_21 rfl (lv_at hl 1 rfl) ?_
                    refine va_get (D := (dC, dI)) (ci := 13) (v := .ref go) (C := RX11) (T := TX11) (N := 7) hx hb hts kc_xBears_0 hown hK hP 0 rfl rfl 4 (by decide) (hts (.fieldLink RX11 35 "MistHeaps" "goings" "LMistHeaps$Goings;") kc_xBears_2) (fun _ h9 => h9) rfl dX11_bears_22 ?_
                    refine lv_aload_n hx hb dX11_bears_25 rfl (lv_at hl 1 rfl) ?_
                    refine va_get (D := (dC, dI)) (ci := 13) (v := .ref sc) (C := RX11) (T := TX11) (N := 7) hx hb hts kc_xBears_0 hown hK hP 0 rfl rfl 0 (by decide) (hts (.fieldLink RX11 14 "MistHeaps" "scene" "LMistHeaps$Scene;") kc_xBears_1) (fun _ h9 => h9) rfl dX11_bears_26 ?_
                    refine lv_iload_n hx hb dX11_bears_29 rfl (lv_at hl 0 rfl) ?_
                    have hPc := hP.sub (ws' := [(zo4rrir go gR gO (nI n) gS), (zaI gR cR 8 fR9_78), (zaI gO cO 8 fO9_79), (zo10ririliiriririr sc aTp (nI ts) aHl (nI nh) ed mi sn aHs (nI n) aWk (nI wz) aBk (nI bz) aFc), (zaR aHs cHs 8 fHs), (zaI aFc cFc 6 fFc9_80)]) [1, 2, 3, 4, 5, 6] rfl
                    have hDc := hD.sub (ws' := [(zo4rrir go gR gO (nI n) gS), (zaI gR cR 8 fR9_78), (zaI gO cO 8 fO9_79), (zo10ririliiriririr sc aTp (nI ts) aHl (nI nh) ed mi sn aHs (nI n) aWk (nI wz) aBk (nI bz) aFc), (zaR aHs cHs 8 fHs), (zaI aFc cFc 6 fFc9_80)]) [1, 2, 3, 4, 5, 6] (by decide) rfl
                    have hKc := hK.sub (tys' := [(cR, .int), (cO, .int), (cHs, .object "MistHeaps$Heap"), (cFc, .int)]) [0, 1, 2, 3] rfl
                    have hFc := va_free (wc := [(zo4rrir go gR gO (nI n) gS), (zaI gR cR 8 fR9_78), (zaI gO cO 8 fO9_79), (zo10ririliiriririr sc aTp (nI ts) aHl (nI nh) ed mi sn aHs (nI n) aWk (nI wz) aBk (nI bz) aFc), (zaR aHs cHs 8 fHs), (zaI aFc cFc 6 fFc9_80)]) hD hS hA [1, 2, 3, 4, 5, 6] rfl
                    refine va_callv (va_runV (As := [.ref sc, .int 1]) (rest := []) ⟨hx, hb, hml, hown, hts⟩ (c_link l dC dI gd  kA   sc go aTp aHl aHs aWk aBk aFc bW bA bE bC gR gO gS ts nh n wz bz n cl mi sn sg cdd szz att nmb 1 ed cHs cFc cbW cbA cbE cbC cR cO fFc9_80 fbW fbA fbE fbC fR9_78 fO9_79 yk yv yc fHs yi ya tpv cz H.size (zhs) (hn8) (zcl) (zE) (zC) (zyv) (zyc) (zHC) (zyt)) (cwV 2 hts gX11_bears_X2_link rfl rfl rfl hd_yX2_link ⟨Nat.le_of_ble_eq_true rfl, Nat.le_of_ble_eq_true rfl⟩) ⟨fun a U g mk q => by obtain ⟨q0, q1, qP, qK, qD, qhG, qhW_, qhN_, qhZ, qhH_⟩ := q; exact ⟨q0, mvz g mk a q1, mvP g mk a qP, mvK g mk a qK, qD, qhG.mv g mk a, qhW_.mv g mk a, qhN_.mv g mk a, qhZ.mv g mk a, qhH_.mv g mk a⟩, va_recv hK hP (ci := 4) (q := (RX2, TX2, 4)) (q0 := 1) rfl rfl, fun U hU hW => ⟨rfl, by rw [hU], by rw [hU]; exact hPc, va_K.moved hW.alike hKc, hDc.weaken (fun _ _ _ _ => trivial), hG.call hS hU hW (fun q h => hFc q h), hW_.call hS hU hW (fun q h => hFc q h), hN_.call hS hU hW (fun q h => hFc q h), (hZ.sub [0, 1, 2, 3, 4] [0, 1, 2, 3] rfl rfl).call hS hU hW (fun q h => hFc q h), hH_.call hS hU hW (fun q h => hFc q h)⟩⟩ rfl rfl hl.1 rfl (lv_room (Nat.le_of_ble_eq_true rfl)) dX11_bears_30 ⟨Nat.le_of_ble_eq_true rfl, Nat.le_of_ble_eq_true rfl⟩) hS (fun q _ h => hFc q h) hFc (fun u tC H1 locs htC hvm hw_86 hB hz1 hk1 hS => ?_)
                    obtain ⟨lk9_87, fR9_88, fO9_89, fFc9_90⟩ := u
                    try dsimp only at hw_86 hB
                    obtain ⟨hP1, hK1, hD1⟩ := hB
                    rw [htC] at hP1
                    have hK1 := va_K.moved hvm.symm hK1
                    obtain ⟨hP, hD⟩ := va_join (wr := [(zo13rrirrrr h0 sc kp ik bl go ch bo)]) (w1 := [(zo4rrir go gR gO (nI lk9_87) gS), (zaI gR cR 8 fR9_88), (zaI gO cO 8 fO9_89), (zo10ririliiriririr sc aTp (nI ts) aHl (nI nh) ed mi sn aHs (nI n) aWk (nI wz) aBk (nI bz) aFc), (zaR aHs cHs 8 fHs), (zaI aFc cFc 6 fFc9_90)]) hP hD [1, 2, 3, 4, 5, 6] [0] rfl rfl (by decide) (by decide) hk1 hFc hP1 hD1
                    have hK := (hK.sub (tys' := []) [] rfl).app hK1
                    generalize H1 = H at hP hS ⊢
                    have hP : va_P (dC, dI) vwCl [(zo13rrirrrr h0 sc kp ik bl go ch bo), (zo4rrir go gR gO (nI lk9_87) gS), (zaI gR cR 8 fR9_88), (zaI gO cO 8 fO9_89), (zo10ririliiriririr sc aTp (nI ts) aHl (nI nh) ed mi sn aHs (nI n) aWk (nI wz) aBk (nI bz) aFc), (zaR aHs cHs 8 fHs), (zaI aFc cFc 6 fFc9_90)] H := hP
                    have hD : va_D A [(zo13rrirrrr h0 sc kp ik bl go ch bo), (zo4rrir go gR gO (nI lk9_87) gS), (zaI gR cR 8 fR9_88), (zaI gO cO 8 fO9_89), (zo10ririliiriririr sc aTp (nI ts) aHl (nI nh) ed mi sn aHs (nI n) aWk (nI wz) aBk (nI bz) aFc), (zaR aHs cHs 8 fHs), (zaI aFc cFc 6 fFc9_90)] := hD
                    have hK : va_K (dC, dI) vwCl [(cR, .int), (cO, .int), (cHs, .object "MistHeaps$Heap"), (cFc, .int)] s := hK
                    obtain ⟨elk, hlR, hlO⟩ := hw_86
                    obtain rfl := elk.symm
                    refine lv_aload_n hx hb dX11_bears_33 rfl (lv_at hl 1 rfl) ?_
                    refine va_get (D := (dC, dI)) (ci := 13) (v := .ref go) (C := RX11) (T := TX11) (N := 7) hx hb hts kc_xBears_0 hown hK hP 0 rfl rfl 4 (by decide) (hts (.fieldLink RX11 35 "MistHeaps" "goings" "LMistHeaps$Goings;") kc_xBears_2) (fun _ h9 => h9) rfl dX11_bears_34 ?_
                    refine lv_iload_n hx hb dX11_bears_37 rfl (lv_at hl 2 rfl) ?_
                    refine lv_iload_n hx hb dX11_bears_38 rfl (lv_at hl 3 rfl) ?_
                    refine lv_iconst (v := 0) hx hb dX11_bears_39 (by decide) ?_
                    have hPc := hP.sub (ws' := [(zo4rrir go gR gO (nI n) gS), (zaI gO cO 8 fO9_89)]) [1, 3] rfl
                    have hKc := hK.sub (tys' := [(cO, .int)]) [1] rfl
                    refine vp_callSi (va_runV (As := [.int (nI j1), .int (nI j2), .int 0]) (rest := []) ⟨hx, hb, hml, hown, hts⟩ (c_fewest l dC dI go gR gO gS n (nI j1) (nI j2) 0 cO fO9_89 (by omega)) (cwV 3 hts gX11_bears_X2_fewest rfl rfl rfl hd_yX2_fewest ⟨Nat.le_of_ble_eq_true rfl, Nat.le_of_ble_eq_true rfl⟩) ⟨fun a U g mk q => by obtain ⟨q0, qP, qK⟩ := q; exact ⟨q0, mvP g mk a qP, mvK g mk a qK⟩, va_recv hK hP (ci := 4) (q := (RX2, TX2, 4)) (q0 := 1) rfl rfl, fun U hU hW => ⟨rfl, by rw [hU]; exact hPc, va_K.moved hW.alike hKc⟩⟩ rfl rfl hl.1 rfl (lv_room (Nat.le_of_ble_eq_true rfl)) dX11_bears_40 ⟨Nat.le_of_ble_eq_true rfl, Nat.le_of_ble_eq_true rfl⟩).run (fun r_91 hw_92 => ?_)
                    obtain rfl := hw_92
                    refine lv_bipush (v := (-5)) hx hb dX11_bears_43 (by decide) ?_
                    refine lv_icmp_eq (tgt := 50) hx hb dX11_bears_45 (by decide) (fun c_93 => ?_) (fun c_93 => ?_)
                    · skip
                      have hA9 := be_dn (i := 1) hA9 (fun z9 => z9 ((show fwR _ n (nI j1) (nI j2) 0 = fsR (gRow n yk yv yc cz mi (nI 1)) n (nI j1) (nI j2) 0 from fw_row hn8 hj1 hj2 (b_0 _) hlO.B).symm.trans c_93))
                      refine lv_iinc (v := 0) (lv' := [(3, .int 0), (0, .ref h0), (1, .int (nI j1)), (2, .int (nI j2))]) hx hb dX11_bears_50 hl (k := 0) rfl (by decide) (by decide) rfl (fun ls hl => ?_)
                      refine lv_goto (tgt := 17) hx hb dX11_bears_53 (by decide) ?_
                      refine lv_iload_n hx hb dX11_bears_17 rfl (lv_at hl 0 rfl) ?_
                      refine lv_if_lt (tgt := 56) hx hb dX11_bears_18 (by decide) (fun c_94 => absurd c_94 (by decide)) (fun _ => ?_)
                      refine lv_aload_n hx hb dX11_bears_21 rfl (lv_at hl 1 rfl) ?_
                      refine va_get (D := (dC, dI)) (ci := 13) (v := .ref go) (C := RX11) (T := TX11) (N := 7) hx hb hts kc_xBears_0 hown hK hP 0 rfl rfl 4 (by decide) (hts (.fieldLink RX11 35 "MistHeaps" "goings" "LMistHeaps$Goings;") kc_xBears_2) (fun _ h9 => h9) rfl dX11_bears_22 ?_
                      refine lv_aload_n hx hb dX11_bears_25 rfl (lv_at hl 1 rfl) ?_
                      refine va_get (D := (dC, dI)) (ci := 13) (v := .ref sc) (C := RX11) (T := TX11) (N := 7) hx hb hts kc_xBears_0 hown hK hP 0 rfl rfl 0 (by decide) (hts (.fieldLink RX11 14 "MistHeaps" "scene" "LMistHeaps$Scene;") kc_xBears_1) (fun _ h9 => h9) rfl dX11_bears_26 ?_
                      refine lv_iload_n hx hb dX11_bears_29 rfl (lv_at hl 0 rfl) ?_
                      have hPc := hP.sub (ws' := [(zo4rrir go gR gO (nI n) gS), (zaI gR cR 8 fR9_88), (zaI gO cO 8 fO9_89), (zo10ririliiriririr sc aTp (nI ts) aHl (nI nh) ed mi sn aHs (nI n) aWk (nI wz) aBk (nI bz) aFc), (zaR aHs cHs 8 fHs), (zaI aFc cFc 6 fFc9_90)]) [1, 2, 3, 4, 5, 6] rfl
                      have hDc := hD.sub (ws' := [(zo4rrir go gR gO (nI n) gS), (zaI gR cR 8 fR9_88), (zaI gO cO 8 fO9_89), (zo10ririliiriririr sc aTp (nI ts) aHl (nI nh) ed mi sn aHs (nI n) aWk (nI wz) aBk (nI bz) aFc), (zaR aHs cHs 8 fHs), (zaI aFc cFc 6 fFc9_90)]) [1, 2, 3, 4, 5, 6] (by decide) rfl
                      have hKc := hK.sub (tys' := [(cR, .int), (cO, .int), (cHs, .object "MistHeaps$Heap"), (cFc, .int)]) [0, 1, 2, 3] rfl
                      have hFc := va_free (wc := [(zo4rrir go gR gO (nI n) gS), (zaI gR cR 8 fR9_88), (zaI gO cO 8 fO9_89), (zo10ririliiriririr sc aTp (nI ts) aHl (nI nh) ed mi sn aHs (nI n) aWk (nI wz) aBk (nI bz) aFc), (zaR aHs cHs 8 fHs), (zaI aFc cFc 6 fFc9_90)]) hD hS hA [1, 2, 3, 4, 5, 6] rfl
                      refine va_callv (va_runV (As := [.ref sc, .int 0]) (rest := []) ⟨hx, hb, hml, hown, hts⟩ (c_link l dC dI gd  kA   sc go aTp aHl aHs aWk aBk aFc bW bA bE bC gR gO gS ts nh n wz bz n cl mi sn sg cdd szz att nmb 0 ed cHs cFc cbW cbA cbE cbC cR cO fFc9_90 fbW fbA fbE fbC fR9_88 fO9_89 yk yv yc fHs yi ya tpv cz H.size (zhs) (hn8) (zcl) (zE) (zC) (zyv) (zyc) (zHC) (zyt)) (cwV 2 hts gX11_bears_X2_link rfl rfl rfl hd_yX2_link ⟨Nat.le_of_ble_eq_true rfl, Nat.le_of_ble_eq_true rfl⟩) ⟨fun a U g mk q => by obtain ⟨q0, q1, qP, qK, qD, qhG, qhW_, qhN_, qhZ, qhH_⟩ := q; exact ⟨q0, mvz g mk a q1, mvP g mk a qP, mvK g mk a qK, qD, qhG.mv g mk a, qhW_.mv g mk a, qhN_.mv g mk a, qhZ.mv g mk a, qhH_.mv g mk a⟩, va_recv hK hP (ci := 4) (q := (RX2, TX2, 4)) (q0 := 1) rfl rfl, fun U hU hW => ⟨rfl, by rw [hU], by rw [hU]; exact hPc, va_K.moved hW.alike hKc, hDc.weaken (fun _ _ _ _ => trivial), hG.call hS hU hW (fun q h => hFc q h), hW_.call hS hU hW (fun q h => hFc q h), hN_.call hS hU hW (fun q h => hFc q h), (hZ.sub [0, 1, 2, 3, 4] [0, 1, 2, 3] rfl rfl).call hS hU hW (fun q h => hFc q h), hH_.call hS hU hW (fun q h => hFc q h)⟩⟩ rfl rfl hl.1 rfl (lv_room (Nat.le_of_ble_eq_true rfl)) dX11_bears_30 ⟨Nat.le_of_ble_eq_true rfl, Nat.le_of_ble_eq_true rfl⟩) hS (fun q _ h => hFc q h) hFc (fun u tC H1 locs htC hvm hw_96 hB hz1 hk1 hS => ?_)
                      obtain ⟨lk9_97, fR9_98, fO9_99, fFc9_100⟩ := u
                      try dsimp only at hw_96 hB
                      obtain ⟨hP1, hK1, hD1⟩ := hB
                      rw [htC] at hP1
                      have hK1 := va_K.moved hvm.symm hK1
                      obtain ⟨hP, hD⟩ := va_join (wr := [(zo13rrirrrr h0 sc kp ik bl go ch bo)]) (w1 := [(zo4rrir go gR gO (nI lk9_97) gS), (zaI gR cR 8 fR9_98), (zaI gO cO 8 fO9_99), (zo10ririliiriririr sc aTp (nI ts) aHl (nI nh) ed mi sn aHs (nI n) aWk (nI wz) aBk (nI bz) aFc), (zaR aHs cHs 8 fHs), (zaI aFc cFc 6 fFc9_100)]) hP hD [1, 2, 3, 4, 5, 6] [0] rfl rfl (by decide) (by decide) hk1 hFc hP1 hD1
                      have hK := (hK.sub (tys' := []) [] rfl).app hK1
                      generalize H1 = H at hP hS ⊢
                      have hP : va_P (dC, dI) vwCl [(zo13rrirrrr h0 sc kp ik bl go ch bo), (zo4rrir go gR gO (nI lk9_97) gS), (zaI gR cR 8 fR9_98), (zaI gO cO 8 fO9_99), (zo10ririliiriririr sc aTp (nI ts) aHl (nI nh) ed mi sn aHs (nI n) aWk (nI wz) aBk (nI bz) aFc), (zaR aHs cHs 8 fHs), (zaI aFc cFc 6 fFc9_100)] H := hP
                      have hD : va_D A [(zo13rrirrrr h0 sc kp ik bl go ch bo), (zo4rrir go gR gO (nI lk9_97) gS), (zaI gR cR 8 fR9_98), (zaI gO cO 8 fO9_99), (zo10ririliiriririr sc aTp (nI ts) aHl (nI nh) ed mi sn aHs (nI n) aWk (nI wz) aBk (nI bz) aFc), (zaR aHs cHs 8 fHs), (zaI aFc cFc 6 fFc9_100)] := hD
                      have hK : va_K (dC, dI) vwCl [(cR, .int), (cO, .int), (cHs, .object "MistHeaps$Heap"), (cFc, .int)] s := hK
                      obtain ⟨elk, hlR, hlO⟩ := hw_96
                      obtain rfl := elk.symm
                      refine lv_aload_n hx hb dX11_bears_33 rfl (lv_at hl 1 rfl) ?_
                      refine va_get (D := (dC, dI)) (ci := 13) (v := .ref go) (C := RX11) (T := TX11) (N := 7) hx hb hts kc_xBears_0 hown hK hP 0 rfl rfl 4 (by decide) (hts (.fieldLink RX11 35 "MistHeaps" "goings" "LMistHeaps$Goings;") kc_xBears_2) (fun _ h9 => h9) rfl dX11_bears_34 ?_
                      refine lv_iload_n hx hb dX11_bears_37 rfl (lv_at hl 2 rfl) ?_
                      refine lv_iload_n hx hb dX11_bears_38 rfl (lv_at hl 3 rfl) ?_
                      refine lv_iconst (v := 0) hx hb dX11_bears_39 (by decide) ?_
                      have hPc := hP.sub (ws' := [(zo4rrir go gR gO (nI n) gS), (zaI gO cO 8 fO9_99)]) [1, 3] rfl
                      have hKc := hK.sub (tys' := [(cO, .int)]) [1] rfl
                      refine vp_callSi (va_runV (As := [.int (nI j1), .int (nI j2), .int 0]) (rest := []) ⟨hx, hb, hml, hown, hts⟩ (c_fewest l dC dI go gR gO gS n (nI j1) (nI j2) 0 cO fO9_99 (by omega)) (cwV 3 hts gX11_bears_X2_fewest rfl rfl rfl hd_yX2_fewest ⟨Nat.le_of_ble_eq_true rfl, Nat.le_of_ble_eq_true rfl⟩) ⟨fun a U g mk q => by obtain ⟨q0, qP, qK⟩ := q; exact ⟨q0, mvP g mk a qP, mvK g mk a qK⟩, va_recv hK hP (ci := 4) (q := (RX2, TX2, 4)) (q0 := 1) rfl rfl, fun U hU hW => ⟨rfl, by rw [hU]; exact hPc, va_K.moved hW.alike hKc⟩⟩ rfl rfl hl.1 rfl (lv_room (Nat.le_of_ble_eq_true rfl)) dX11_bears_40 ⟨Nat.le_of_ble_eq_true rfl, Nat.le_of_ble_eq_true rfl⟩).run (fun r_101 hw_102 => ?_)
                      obtain rfl := hw_102
                      refine lv_bipush (v := (-5)) hx hb dX11_bears_43 (by decide) ?_
                      refine lv_icmp_eq (tgt := 50) hx hb dX11_bears_45 (by decide) (fun c_103 => ?_) (fun c_103 => ?_)
                      · skip
                        have hA9 := be_dn (i := 0) hA9 (fun z9 => z9 ((show fwR _ n (nI j1) (nI j2) 0 = fsR (gRow n yk yv yc cz mi (nI 0)) n (nI j1) (nI j2) 0 from fw_row hn8 hj1 hj2 (b_0 _) hlO.B).symm.trans c_103))
                        refine lv_iinc (v := (-1)) (lv' := [(3, .int (-1)), (0, .ref h0), (1, .int (nI j1)), (2, .int (nI j2))]) hx hb dX11_bears_50 hl (k := 0) rfl (by decide) (by decide) rfl (fun ls hl => ?_)
                        refine lv_goto (tgt := 17) hx hb dX11_bears_53 (by decide) ?_
                        refine lv_iload_n hx hb dX11_bears_17 rfl (lv_at hl 0 rfl) ?_
                        refine lv_if_lt (tgt := 56) hx hb dX11_bears_18 (by decide) (fun _ => ?_) (fun c_104 => absurd c_104 (by decide))
                        refine lv_bipush (v := (-5)) hx hb dX11_bears_56 (by decide) ?_
                        rw [hQ]
                        have hP9 := hP.sub (ws' := [(zo13rrirrrr h0 sc kp ik bl go ch bo), (zo4rrir go gR gO (nI n) gS), (zaI gR cR 8 fR9_98), (zaI gO cO 8 fO9_99), (zo10ririliiriririr sc aTp (nI ts) aHl (nI nh) ed mi sn aHs (nI n) aWk (nI wz) aBk (nI bz) aFc), (zaR aHs cHs 8 fHs), (zaI aFc cFc 6 fFc9_100)]) [0, 1, 2, 3, 4, 5, 6] rfl
                        have hD9 := hD.sub (ws' := [(zo13rrirrrr h0 sc kp ik bl go ch bo), (zo4rrir go gR gO (nI n) gS), (zaI gR cR 8 fR9_98), (zaI gO cO 8 fO9_99), (zo10ririliiriririr sc aTp (nI ts) aHl (nI nh) ed mi sn aHs (nI n) aWk (nI wz) aBk (nI bz) aFc), (zaR aHs cHs 8 fHs), (zaI aFc cFc 6 fFc9_100)]) [0, 1, 2, 3, 4, 5, 6] (by decide) rfl
                        have hK9 := hK.sub (tys' := [(cR, .int), (cO, .int), (cHs, .object "MistHeaps$Heap"), (cFc, .int)]) [0, 1, 2, 3] rfl
                        exact W.iret (v := (-5)) hx hb hr (fun tQ htQ hWQ => ⟨⟨(-5), (n, fR9_98, fO9_99, fFc9_100), rfl, ⟨by omega, be_m hn8 hj1 hj2 ((be_z hA9).trans hA0)⟩, by rw [htQ]; exact hP9, va_K.moved hWQ.alike hK9, hD9⟩, hS.F htQ⟩) hS.2.2 dX11_bears_58
                      · skip
                        refine lv_iload_n hx hb dX11_bears_48 rfl (lv_at hl 0 rfl) ?_
                        rw [hQ]
                        have hP9 := hP.sub (ws' := [(zo13rrirrrr h0 sc kp ik bl go ch bo), (zo4rrir go gR gO (nI n) gS), (zaI gR cR 8 fR9_98), (zaI gO cO 8 fO9_99), (zo10ririliiriririr sc aTp (nI ts) aHl (nI nh) ed mi sn aHs (nI n) aWk (nI wz) aBk (nI bz) aFc), (zaR aHs cHs 8 fHs), (zaI aFc cFc 6 fFc9_100)]) [0, 1, 2, 3, 4, 5, 6] rfl
                        have hD9 := hD.sub (ws' := [(zo13rrirrrr h0 sc kp ik bl go ch bo), (zo4rrir go gR gO (nI n) gS), (zaI gR cR 8 fR9_98), (zaI gO cO 8 fO9_99), (zo10ririliiriririr sc aTp (nI ts) aHl (nI nh) ed mi sn aHs (nI n) aWk (nI wz) aBk (nI bz) aFc), (zaR aHs cHs 8 fHs), (zaI aFc cFc 6 fFc9_100)]) [0, 1, 2, 3, 4, 5, 6] (by decide) rfl
                        have hK9 := hK.sub (tys' := [(cR, .int), (cO, .int), (cHs, .object "MistHeaps$Heap"), (cFc, .int)]) [0, 1, 2, 3] rfl
                        exact W.iret (v := 0) hx hb hr (fun tQ htQ hWQ => ⟨⟨0, (n, fR9_98, fO9_99, fFc9_100), rfl, ⟨by omega, be_m hn8 hj1 hj2 ((be_up (i := 0) hA9 (fun z9 => c_103 ((show fwR _ n (nI j1) (nI j2) 0 = fsR (gRow n yk yv yc cz mi (nI 0)) n (nI j1) (nI j2) 0 from fw_row hn8 hj1 hj2 (b_0 _) hlO.B).trans z9))).trans hA0)⟩, by rw [htQ]; exact hP9, va_K.moved hWQ.alike hK9, hD9⟩, hS.F htQ⟩) hS.2.2 dX11_bears_49
                    · skip
                      refine lv_iload_n hx hb dX11_bears_48 rfl (lv_at hl 0 rfl) ?_
                      rw [hQ]
                      have hP9 := hP.sub (ws' := [(zo13rrirrrr h0 sc kp ik bl go ch bo), (zo4rrir go gR gO (nI n) gS), (zaI gR cR 8 fR9_88), (zaI gO cO 8 fO9_89), (zo10ririliiriririr sc aTp (nI ts) aHl (nI nh) ed mi sn aHs (nI n) aWk (nI wz) aBk (nI bz) aFc), (zaR aHs cHs 8 fHs), (zaI aFc cFc 6 fFc9_90)]) [0, 1, 2, 3, 4, 5, 6] rfl
                      have hD9 := hD.sub (ws' := [(zo13rrirrrr h0 sc kp ik bl go ch bo), (zo4rrir go gR gO (nI n) gS), (zaI gR cR 8 fR9_88), (zaI gO cO 8 fO9_89), (zo10ririliiriririr sc aTp (nI ts) aHl (nI nh) ed mi sn aHs (nI n) aWk (nI wz) aBk (nI bz) aFc), (zaR aHs cHs 8 fHs), (zaI aFc cFc 6 fFc9_90)]) [0, 1, 2, 3, 4, 5, 6] (by decide) rfl
                      have hK9 := hK.sub (tys' := [(cR, .int), (cO, .int), (cHs, .object "MistHeaps$Heap"), (cFc, .int)]) [0, 1, 2, 3] rfl
                      exact W.iret (v := 1) hx hb hr (fun tQ htQ hWQ => ⟨⟨1, (n, fR9_88, fO9_89, fFc9_90), rfl, ⟨by omega, be_m hn8 hj1 hj2 ((be_up (i := 1) hA9 (fun z9 => c_93 ((show fwR _ n (nI j1) (nI j2) 0 = fsR (gRow n yk yv yc cz mi (nI 1)) n (nI j1) (nI j2) 0 from fw_row hn8 hj1 hj2 (b_0 _) hlO.B).trans z9))).trans hA0)⟩, by rw [htQ]; exact hP9, va_K.moved hWQ.alike hK9, hD9⟩, hS.F htQ⟩) hS.2.2 dX11_bears_49
                  · skip
                    refine lv_iload_n hx hb dX11_bears_48 rfl (lv_at hl 0 rfl) ?_
                    rw [hQ]
                    have hP9 := hP.sub (ws' := [(zo13rrirrrr h0 sc kp ik bl go ch bo), (zo4rrir go gR gO (nI n) gS), (zaI gR cR 8 fR9_78), (zaI gO cO 8 fO9_79), (zo10ririliiriririr sc aTp (nI ts) aHl (nI nh) ed mi sn aHs (nI n) aWk (nI wz) aBk (nI bz) aFc), (zaR aHs cHs 8 fHs), (zaI aFc cFc 6 fFc9_80)]) [0, 1, 2, 3, 4, 5, 6] rfl
                    have hD9 := hD.sub (ws' := [(zo13rrirrrr h0 sc kp ik bl go ch bo), (zo4rrir go gR gO (nI n) gS), (zaI gR cR 8 fR9_78), (zaI gO cO 8 fO9_79), (zo10ririliiriririr sc aTp (nI ts) aHl (nI nh) ed mi sn aHs (nI n) aWk (nI wz) aBk (nI bz) aFc), (zaR aHs cHs 8 fHs), (zaI aFc cFc 6 fFc9_80)]) [0, 1, 2, 3, 4, 5, 6] (by decide) rfl
                    have hK9 := hK.sub (tys' := [(cR, .int), (cO, .int), (cHs, .object "MistHeaps$Heap"), (cFc, .int)]) [0, 1, 2, 3] rfl
                    exact W.iret (v := 2) hx hb hr (fun tQ htQ hWQ => ⟨⟨2, (n, fR9_78, fO9_79, fFc9_80), rfl, ⟨by omega, be_m hn8 hj1 hj2 ((be_up (i := 2) hA9 (fun z9 => c_83 ((show fwR _ n (nI j1) (nI j2) 0 = fsR (gRow n yk yv yc cz mi (nI 2)) n (nI j1) (nI j2) 0 from fw_row hn8 hj1 hj2 (b_0 _) hlO.B).trans z9))).trans hA0)⟩, by rw [htQ]; exact hP9, va_K.moved hWQ.alike hK9, hD9⟩, hS.F htQ⟩) hS.2.2 dX11_bears_49
                · skip
                  refine lv_iload_n hx hb dX11_bears_48 rfl (lv_at hl 0 rfl) ?_
                  rw [hQ]
                  have hP9 := hP.sub (ws' := [(zo13rrirrrr h0 sc kp ik bl go ch bo), (zo4rrir go gR gO (nI n) gS), (zaI gR cR 8 fR9_68), (zaI gO cO 8 fO9_69), (zo10ririliiriririr sc aTp (nI ts) aHl (nI nh) ed mi sn aHs (nI n) aWk (nI wz) aBk (nI bz) aFc), (zaR aHs cHs 8 fHs), (zaI aFc cFc 6 fFc9_70)]) [0, 1, 2, 3, 4, 5, 6] rfl
                  have hD9 := hD.sub (ws' := [(zo13rrirrrr h0 sc kp ik bl go ch bo), (zo4rrir go gR gO (nI n) gS), (zaI gR cR 8 fR9_68), (zaI gO cO 8 fO9_69), (zo10ririliiriririr sc aTp (nI ts) aHl (nI nh) ed mi sn aHs (nI n) aWk (nI wz) aBk (nI bz) aFc), (zaR aHs cHs 8 fHs), (zaI aFc cFc 6 fFc9_70)]) [0, 1, 2, 3, 4, 5, 6] (by decide) rfl
                  have hK9 := hK.sub (tys' := [(cR, .int), (cO, .int), (cHs, .object "MistHeaps$Heap"), (cFc, .int)]) [0, 1, 2, 3] rfl
                  exact W.iret (v := 3) hx hb hr (fun tQ htQ hWQ => ⟨⟨3, (n, fR9_68, fO9_69, fFc9_70), rfl, ⟨by omega, be_m hn8 hj1 hj2 ((be_up (i := 3) hA9 (fun z9 => c_73 ((show fwR _ n (nI j1) (nI j2) 0 = fsR (gRow n yk yv yc cz mi (nI 3)) n (nI j1) (nI j2) 0 from fw_row hn8 hj1 hj2 (b_0 _) hlO.B).trans z9))).trans hA0)⟩, by rw [htQ]; exact hP9, va_K.moved hWQ.alike hK9, hD9⟩, hS.F htQ⟩) hS.2.2 dX11_bears_49
              · skip
                refine lv_iload_n hx hb dX11_bears_48 rfl (lv_at hl 0 rfl) ?_
                rw [hQ]
                have hP9 := hP.sub (ws' := [(zo13rrirrrr h0 sc kp ik bl go ch bo), (zo4rrir go gR gO (nI n) gS), (zaI gR cR 8 fR9_58), (zaI gO cO 8 fO9_59), (zo10ririliiriririr sc aTp (nI ts) aHl (nI nh) ed mi sn aHs (nI n) aWk (nI wz) aBk (nI bz) aFc), (zaR aHs cHs 8 fHs), (zaI aFc cFc 6 fFc9_60)]) [0, 1, 2, 3, 4, 5, 6] rfl
                have hD9 := hD.sub (ws' := [(zo13rrirrrr h0 sc kp ik bl go ch bo), (zo4rrir go gR gO (nI n) gS), (zaI gR cR 8 fR9_58), (zaI gO cO 8 fO9_59), (zo10ririliiriririr sc aTp (nI ts) aHl (nI nh) ed mi sn aHs (nI n) aWk (nI wz) aBk (nI bz) aFc), (zaR aHs cHs 8 fHs), (zaI aFc cFc 6 fFc9_60)]) [0, 1, 2, 3, 4, 5, 6] (by decide) rfl
                have hK9 := hK.sub (tys' := [(cR, .int), (cO, .int), (cHs, .object "MistHeaps$Heap"), (cFc, .int)]) [0, 1, 2, 3] rfl
                exact W.iret (v := 4) hx hb hr (fun tQ htQ hWQ => ⟨⟨4, (n, fR9_58, fO9_59, fFc9_60), rfl, ⟨by omega, be_m hn8 hj1 hj2 ((be_up (i := 4) hA9 (fun z9 => c_63 ((show fwR _ n (nI j1) (nI j2) 0 = fsR (gRow n yk yv yc cz mi (nI 4)) n (nI j1) (nI j2) 0 from fw_row hn8 hj1 hj2 (b_0 _) hlO.B).trans z9))).trans hA0)⟩, by rw [htQ]; exact hP9, va_K.moved hWQ.alike hK9, hD9⟩, hS.F htQ⟩) hS.2.2 dX11_bears_49
            · skip
              refine lv_iload_n hx hb dX11_bears_48 rfl (lv_at hl 0 rfl) ?_
              rw [hQ]
              have hP9 := hP.sub (ws' := [(zo13rrirrrr h0 sc kp ik bl go ch bo), (zo4rrir go gR gO (nI n) gS), (zaI gR cR 8 fR9_48), (zaI gO cO 8 fO9_49), (zo10ririliiriririr sc aTp (nI ts) aHl (nI nh) ed mi sn aHs (nI n) aWk (nI wz) aBk (nI bz) aFc), (zaR aHs cHs 8 fHs), (zaI aFc cFc 6 fFc9_50)]) [0, 1, 2, 3, 4, 5, 6] rfl
              have hD9 := hD.sub (ws' := [(zo13rrirrrr h0 sc kp ik bl go ch bo), (zo4rrir go gR gO (nI n) gS), (zaI gR cR 8 fR9_48), (zaI gO cO 8 fO9_49), (zo10ririliiriririr sc aTp (nI ts) aHl (nI nh) ed mi sn aHs (nI n) aWk (nI wz) aBk (nI bz) aFc), (zaR aHs cHs 8 fHs), (zaI aFc cFc 6 fFc9_50)]) [0, 1, 2, 3, 4, 5, 6] (by decide) rfl
              have hK9 := hK.sub (tys' := [(cR, .int), (cO, .int), (cHs, .object "MistHeaps$Heap"), (cFc, .int)]) [0, 1, 2, 3] rfl
              exact W.iret (v := 5) hx hb hr (fun tQ htQ hWQ => ⟨⟨5, (n, fR9_48, fO9_49, fFc9_50), rfl, ⟨by omega, be_m hn8 hj1 hj2 ((be_up (i := 5) hA9 (fun z9 => c_53 ((show fwR _ n (nI j1) (nI j2) 0 = fsR (gRow n yk yv yc cz mi (nI 5)) n (nI j1) (nI j2) 0 from fw_row hn8 hj1 hj2 (b_0 _) hlO.B).trans z9))).trans hA0)⟩, by rw [htQ]; exact hP9, va_K.moved hWQ.alike hK9, hD9⟩, hS.F htQ⟩) hS.2.2 dX11_bears_49
          · skip
            refine lv_iload_n hx hb dX11_bears_48 rfl (lv_at hl 0 rfl) ?_
            rw [hQ]
            have hP9 := hP.sub (ws' := [(zo13rrirrrr h0 sc kp ik bl go ch bo), (zo4rrir go gR gO (nI n) gS), (zaI gR cR 8 fR9_38), (zaI gO cO 8 fO9_39), (zo10ririliiriririr sc aTp (nI ts) aHl (nI nh) ed mi sn aHs (nI n) aWk (nI wz) aBk (nI bz) aFc), (zaR aHs cHs 8 fHs), (zaI aFc cFc 6 fFc9_40)]) [0, 1, 2, 3, 4, 5, 6] rfl
            have hD9 := hD.sub (ws' := [(zo13rrirrrr h0 sc kp ik bl go ch bo), (zo4rrir go gR gO (nI n) gS), (zaI gR cR 8 fR9_38), (zaI gO cO 8 fO9_39), (zo10ririliiriririr sc aTp (nI ts) aHl (nI nh) ed mi sn aHs (nI n) aWk (nI wz) aBk (nI bz) aFc), (zaR aHs cHs 8 fHs), (zaI aFc cFc 6 fFc9_40)]) [0, 1, 2, 3, 4, 5, 6] (by decide) rfl
            have hK9 := hK.sub (tys' := [(cR, .int), (cO, .int), (cHs, .object "MistHeaps$Heap"), (cFc, .int)]) [0, 1, 2, 3] rfl
            exact W.iret (v := 6) hx hb hr (fun tQ htQ hWQ => ⟨⟨6, (n, fR9_38, fO9_39, fFc9_40), rfl, ⟨by omega, be_m hn8 hj1 hj2 ((be_up (i := 6) hA9 (fun z9 => c_43 ((show fwR _ n (nI j1) (nI j2) 0 = fsR (gRow n yk yv yc cz mi (nI 6)) n (nI j1) (nI j2) 0 from fw_row hn8 hj1 hj2 (b_0 _) hlO.B).trans z9))).trans hA0)⟩, by rw [htQ]; exact hP9, va_K.moved hWQ.alike hK9, hD9⟩, hS.F htQ⟩) hS.2.2 dX11_bears_49
        · skip
          refine lv_iload_n hx hb dX11_bears_48 rfl (lv_at hl 0 rfl) ?_
          rw [hQ]
          have hP9 := hP.sub (ws' := [(zo13rrirrrr h0 sc kp ik bl go ch bo), (zo4rrir go gR gO (nI n) gS), (zaI gR cR 8 fR9_28), (zaI gO cO 8 fO9_29), (zo10ririliiriririr sc aTp (nI ts) aHl (nI nh) ed mi sn aHs (nI n) aWk (nI wz) aBk (nI bz) aFc), (zaR aHs cHs 8 fHs), (zaI aFc cFc 6 fFc9_30)]) [0, 1, 2, 3, 4, 5, 6] rfl
          have hD9 := hD.sub (ws' := [(zo13rrirrrr h0 sc kp ik bl go ch bo), (zo4rrir go gR gO (nI n) gS), (zaI gR cR 8 fR9_28), (zaI gO cO 8 fO9_29), (zo10ririliiriririr sc aTp (nI ts) aHl (nI nh) ed mi sn aHs (nI n) aWk (nI wz) aBk (nI bz) aFc), (zaR aHs cHs 8 fHs), (zaI aFc cFc 6 fFc9_30)]) [0, 1, 2, 3, 4, 5, 6] (by decide) rfl
          have hK9 := hK.sub (tys' := [(cR, .int), (cO, .int), (cHs, .object "MistHeaps$Heap"), (cFc, .int)]) [0, 1, 2, 3] rfl
          exact W.iret (v := 7) hx hb hr (fun tQ htQ hWQ => ⟨⟨7, (n, fR9_28, fO9_29, fFc9_30), rfl, ⟨by omega, be_m hn8 hj1 hj2 ((be_up (i := 7) hA9 (fun z9 => c_33 ((show fwR _ n (nI j1) (nI j2) 0 = fsR (gRow n yk yv yc cz mi (nI 7)) n (nI j1) (nI j2) 0 from fw_row hn8 hj1 hj2 (b_0 _) hlO.B).trans z9))).trans hA0)⟩, by rw [htQ]; exact hP9, va_K.moved hWQ.alike hK9, hD9⟩, hS.F htQ⟩) hS.2.2 dX11_bears_49
      · skip
        refine lv_iload_n hx hb dX11_bears_48 rfl (lv_at hl 0 rfl) ?_
        rw [hQ]
        have hP9 := hP.sub (ws' := [(zo13rrirrrr h0 sc kp ik bl go ch bo), (zo4rrir go gR gO (nI n) gS), (zaI gR cR 8 fR9_18), (zaI gO cO 8 fO9_19), (zo10ririliiriririr sc aTp (nI ts) aHl (nI nh) ed mi sn aHs (nI n) aWk (nI wz) aBk (nI bz) aFc), (zaR aHs cHs 8 fHs), (zaI aFc cFc 6 fFc9_20)]) [0, 1, 2, 3, 4, 5, 6] rfl
        have hD9 := hD.sub (ws' := [(zo13rrirrrr h0 sc kp ik bl go ch bo), (zo4rrir go gR gO (nI n) gS), (zaI gR cR 8 fR9_18), (zaI gO cO 8 fO9_19), (zo10ririliiriririr sc aTp (nI ts) aHl (nI nh) ed mi sn aHs (nI n) aWk (nI wz) aBk (nI bz) aFc), (zaR aHs cHs 8 fHs), (zaI aFc cFc 6 fFc9_20)]) [0, 1, 2, 3, 4, 5, 6] (by decide) rfl
        have hK9 := hK.sub (tys' := [(cR, .int), (cO, .int), (cHs, .object "MistHeaps$Heap"), (cFc, .int)]) [0, 1, 2, 3] rfl
        exact W.iret (v := 8) hx hb hr (fun tQ htQ hWQ => ⟨⟨8, (n, fR9_18, fO9_19, fFc9_20), rfl, ⟨by omega, be_m hn8 hj1 hj2 ((be_up (i := 8) hA9 (fun z9 => c_23 ((show fwR _ n (nI j1) (nI j2) 0 = fsR (gRow n yk yv yc cz mi (nI 8)) n (nI j1) (nI j2) 0 from fw_row hn8 hj1 hj2 (b_0 _) hlO.B).trans z9))).trans hA0)⟩, by rw [htQ]; exact hP9, va_K.moved hWQ.alike hK9, hD9⟩, hS.F htQ⟩) hS.2.2 dX11_bears_49
    · skip
      refine lv_iload_n hx hb dX11_bears_48 rfl (lv_at hl 0 rfl) ?_
      rw [hQ]
      have hP9 := hP.sub (ws' := [(zo13rrirrrr h0 sc kp ik bl go ch bo), (zo4rrir go gR gO (nI n) gS), (zaI gR cR 8 fR9_8), (zaI gO cO 8 fO9_9), (zo10ririliiriririr sc aTp (nI ts) aHl (nI nh) ed mi sn aHs (nI n) aWk (nI wz) aBk (nI bz) aFc), (zaR aHs cHs 8 fHs), (zaI aFc cFc 6 fFc9_10)]) [0, 1, 2, 3, 4, 5, 6] rfl
      have hD9 := hD.sub (ws' := [(zo13rrirrrr h0 sc kp ik bl go ch bo), (zo4rrir go gR gO (nI n) gS), (zaI gR cR 8 fR9_8), (zaI gO cO 8 fO9_9), (zo10ririliiriririr sc aTp (nI ts) aHl (nI nh) ed mi sn aHs (nI n) aWk (nI wz) aBk (nI bz) aFc), (zaR aHs cHs 8 fHs), (zaI aFc cFc 6 fFc9_10)]) [0, 1, 2, 3, 4, 5, 6] (by decide) rfl
      have hK9 := hK.sub (tys' := [(cR, .int), (cO, .int), (cHs, .object "MistHeaps$Heap"), (cFc, .int)]) [0, 1, 2, 3] rfl
      exact W.iret (v := 9) hx hb hr (fun tQ htQ hWQ => ⟨⟨9, (n, fR9_8, fO9_9, fFc9_10), rfl, ⟨by omega, be_m hn8 hj1 hj2 ((be_up (i := 9) hA9 (fun z9 => c_13 ((show fwR _ n (nI j1) (nI j2) 0 = fsR (gRow n yk yv yc cz mi (nI 9)) n (nI j1) (nI j2) 0 from fw_row hn8 hj1 hj2 (b_0 _) hlO.B).trans z9))).trans hA0)⟩, by rw [htQ]; exact hP9, va_K.moved hWQ.alike hK9, hD9⟩, hS.F htQ⟩) hS.2.2 dX11_bears_49
  · skip
    refine lv_if_ne (tgt := 14) hx hb dX11_bears_9 (by decide) (fun c_105 => absurd c_105 (by decide)) (fun _ => ?_)
    refine lv_iconst (v := (-1)) hx hb dX11_bears_12 (by decide) ?_
    rw [hQ]
    have hP9 := hP.sub (ws' := [(zo13rrirrrr h0 sc kp ik bl go ch bo), (zo4rrir go gR gO (nI lk) gS), (zaI gR cR 8 fR), (zaI gO cO 8 fO), (zo10ririliiriririr sc aTp (nI ts) aHl (nI nh) ed mi sn aHs (nI n) aWk (nI wz) aBk (nI bz) aFc), (zaR aHs cHs 8 fHs), (zaI aFc cFc 6 fFc)]) [0, 1, 2, 3, 4, 5, 6] rfl
    have hD9 := hD.sub (ws' := [(zo13rrirrrr h0 sc kp ik bl go ch bo), (zo4rrir go gR gO (nI lk) gS), (zaI gR cR 8 fR), (zaI gO cO 8 fO), (zo10ririliiriririr sc aTp (nI ts) aHl (nI nh) ed mi sn aHs (nI n) aWk (nI wz) aBk (nI bz) aFc), (zaR aHs cHs 8 fHs), (zaI aFc cFc 6 fFc)]) [0, 1, 2, 3, 4, 5, 6] (by decide) rfl
    have hK9 := hK.sub (tys' := [(cR, .int), (cO, .int), (cHs, .object "MistHeaps$Heap"), (cFc, .int)]) [0, 1, 2, 3] rfl
    exact W.iret (v := (-1)) hx hb hr (fun tQ htQ hWQ => ⟨⟨(-1), (lk, fR, fO, fFc), rfl, ⟨hlk, two_no hno⟩, by rw [htQ]; exact hP9, va_K.moved hWQ.alike hK9, hD9⟩, hS.F htQ⟩) hS.2.2 dX11_bears_13

theorem kc_xLooked_0 : ∀ w ∈ wsX110, w ∈ wsX11_looked := fun w h => List.mem_cons_of_mem _ (gin_wsX110 w h)
theorem kc_xLooked_1 : (.fieldLink RX11 35 "MistHeaps" "goings" "LMistHeaps$Goings;" : Cond) ∈ wsX11_looked := kc_of 332 rfl rfl rfl
theorem kc_xLooked_2 : (.fieldLink RX11 14 "MistHeaps" "scene" "LMistHeaps$Scene;" : Cond) ∈ wsX11_looked := kc_of 328 rfl rfl rfl
theorem kc_xLooked_3 : ∀ w ∈ wsX80, w ∈ wsX11_looked := fun w h => List.mem_cons_of_mem _ (gin_wsX80 w h)
theorem kc_xLooked_4 : (.fieldLink RX11 88 "MistHeaps$Scene" "snow" "I" : Cond) ∈ wsX11_looked := kc_of 166 rfl rfl rfl
theorem kc_xLooked_5 : (.fieldLink RX11 221 "MistHeaps$Scene" "bookSize" "I" : Cond) ∈ wsX11_looked := kc_of 183 rfl rfl rfl
theorem kc_xLooked_6 : (.fieldLink RX11 224 "MistHeaps$Scene" "book" "[I" : Cond) ∈ wsX11_looked := kc_of 181 rfl rfl rfl
set_option maxHeartbeats 4000000 in
set_option maxRecDepth 100000 in
theorem c_xLooked (l : Launch) (dC : Nat → ClassId) (dI : Nat → Nat → Nat) (gd : Nat → Nat)  (kA : Nat)   (h0 : Nat) (sc : Nat) (kp : Nat) (bl : Nat) (go : Nat) (ch : Nat) (bo : Nat) (aTp : Nat) (aHl : Nat) (aHs : Nat) (aWk : Nat) (aBk : Nat) (aFc : Nat) (bW : Nat) (bA : Nat) (bE : Nat) (bC : Nat) (gR : Nat) (gO : Nat) (gS : Nat) (ts : Nat) (nh : Nat) (n : Nat) (wz : Nat) (bz : Nat) (lk : Nat) (cl : Nat) (mi : Int32) (sn : Int32) (sg : Int32) (cdd : Int32) (szz : Int32) (att : Int32) (nmb : Int32) (ik : Int32) (ed : Int64) (cHs : ClassId) (cBk : ClassId) (cFc : ClassId) (cbW : ClassId) (cbA : ClassId) (cbE : ClassId) (cbC : ClassId) (cR : ClassId) (cO : ClassId) (fBk : Nat → Int32) (fFc : Nat → Int32) (fbW : Nat → Int32) (fbA : Nat → Int32) (fbE : Nat → Int32) (fbC : Nat → Int32) (fR : Nat → Int32) (fO : Nat → Int32) (yk : Nat → Int32) (yv : Nat → Int32) (yc : Nat → Int32) (fHs : Nat → Option Nat) (yi : Nat → Nat) (ya : Nat → Nat) (tpv : Value) (cz : List pCla) (w0 : Nat) (sz : Nat) (zhs : ∀ k0, k0 < n → fHs k0 = some (ya k0)) (hn8 : n ≤ 8) (zcl : cl ≤ 10) (zE : ∀ k0, k0 < 10 → ∃ e0 : Nat, e0 ≤ 100 ∧ fbE k0 = nI e0) (zC : ∀ k0, k0 < 100 → okC (fbC k0)) (zyv : ∀ k0, k0 < n → ∃ v0 : Nat, v0 ≤ 9 ∧ yv k0 = nI v0) (zyc : ∀ k0, k0 < n → ∃ v0 : Nat, v0 < 36 ∧ yc k0 = nI v0) (hlk : lk ≤ 8) (hbz : bz ≤ 12) (zbk : ∀ k0, k0 < 12 → ∃ w0 : Nat, w0 < 8 ∧ fBk k0 = nI w0) (zHC : HC cl sg fbW fbA fbE fbC cz ∧ WfC cz) (zyt : ∀ k0, k0 < n → hpT (yi k0) (yk k0)) : Met l yX11_looked wsX11_looked ({ frames := 7, cells := 0, slots := 0, locals := 149 } : Room) (va_Pc [.ref h0] (fun U => U.heap.size = sz ∧ va_P (dC, dI) vwCl [(zo13rrirrrr h0 sc kp ik bl go ch bo), (zo4rrir go gR gO (nI lk) gS), (zaI gR cR 8 fR), (zaI gO cO 8 fO), (zo10ririliiriririr sc aTp (nI ts) aHl (nI nh) ed mi sn aHs (nI n) aWk (nI wz) aBk (nI bz) aFc), (zaR aHs cHs 8 fHs), (zaI aFc cFc 6 fFc), (zaI aBk cBk 12 fBk)] U.heap ∧ va_K (dC, dI) vwCl [(cR, .int), (cO, .int), (cHs, .object "MistHeaps$Heap"), (cFc, .int), (cBk, .int)] U ∧ va_D (fun _ => True) [(zo13rrirrrr h0 sc kp ik bl go ch bo), (zo4rrir go gR gO (nI lk) gS), (zaI gR cR 8 fR), (zaI gO cO 8 fO), (zo10ririliiriririr sc aTp (nI ts) aHl (nI nh) ed mi sn aHs (nI n) aWk (nI wz) aBk (nI bz) aFc), (zaR aHs cHs 8 fHs), (zaI aFc cFc 6 fFc), (zaI aBk cBk 12 fBk)] ∧ Gl gd (va_A [(zo13rrirrrr h0 sc kp ik bl go ch bo), (zo4rrir go gR gO (nI lk) gS), (zaI gR cR 8 fR), (zaI gO cO 8 fO), (zo10ririliiriririr sc aTp (nI ts) aHl (nI nh) ed mi sn aHs (nI n) aWk (nI wz) aBk (nI bz) aFc), (zaR aHs cHs 8 fHs), (zaI aFc cFc 6 fFc), (zaI aBk cBk 12 fBk)] sz) U ∧ Gw (va_A [(zo13rrirrrr h0 sc kp ik bl go ch bo), (zo4rrir go gR gO (nI lk) gS), (zaI gR cR 8 fR), (zaI gO cO 8 fO), (zo10ririliiriririr sc aTp (nI ts) aHl (nI nh) ed mi sn aHs (nI n) aWk (nI wz) aBk (nI bz) aFc), (zaR aHs cHs 8 fHs), (zaI aFc cFc 6 fFc), (zaI aBk cBk 12 fBk)] sz) U ∧ Gn kA (va_A [(zo13rrirrrr h0 sc kp ik bl go ch bo), (zo4rrir go gR gO (nI lk) gS), (zaI gR cR 8 fR), (zaI gO cO 8 fO), (zo10ririliiriririr sc aTp (nI ts) aHl (nI nh) ed mi sn aHs (nI n) aWk (nI wz) aBk (nI bz) aFc), (zaR aHs cHs 8 fHs), (zaI aFc cFc 6 fFc), (zaI aBk cBk 12 fBk)] sz) U ∧ Fz dC dI [(zo7iirrrriviii aHl sg (nI cl) bW bA bE bC cdd tpv szz att nmb), (zaI bW cbW 10 fbW), (zaI bA cbA 10 fbA), (zaI bE cbE 10 fbE), (zaI bC cbC 100 fbC)] [(cbW, .int), (cbA, .int), (cbE, .int), (cbC, .int)] (va_A [(zo13rrirrrr h0 sc kp ik bl go ch bo), (zo4rrir go gR gO (nI lk) gS), (zaI gR cR 8 fR), (zaI gO cO 8 fO), (zo10ririliiriririr sc aTp (nI ts) aHl (nI nh) ed mi sn aHs (nI n) aWk (nI wz) aBk (nI bz) aFc), (zaR aHs cHs 8 fHs), (zaI aFc cFc 6 fFc), (zaI aBk cBk 12 fBk)] sz) U ∧ Hs dC dI n yi ya yk yv yc (va_A [(zo13rrirrrr h0 sc kp ik bl go ch bo), (zo4rrir go gR gO (nI lk) gS), (zaI gR cR 8 fR), (zaI gO cO 8 fO), (zo10ririliiriririr sc aTp (nI ts) aHl (nI nh) ed mi sn aHs (nI n) aWk (nI wz) aBk (nI bz) aFc), (zaR aHs cHs 8 fHs), (zaI aFc cFc 6 fFc), (zaI aBk cBk 12 fBk)] sz) U)) (va_Qi (fun (r : Int32) (u : (Nat) × (Nat → Int32) × (Nat → Int32) × (Nat → Int32)) => match u with | (lk9, fR9, fO9, fFc9) => lk9 ≤ 8) (fun (u : (Nat) × (Nat → Int32) × (Nat → Int32) × (Nat → Int32)) (t : State) => match u with | (lk9, fR9, fO9, fFc9) => va_P (dC, dI) vwCl [(zo13rrirrrr h0 sc kp ik bl go ch bo), (zo4rrir go gR gO (nI lk9) gS), (zaI gR cR 8 fR9), (zaI gO cO 8 fO9), (zo10ririliiriririr sc aTp (nI ts) aHl (nI nh) ed mi sn aHs (nI n) aWk (nI wz) aBk (nI bz) aFc), (zaR aHs cHs 8 fHs), (zaI aFc cFc 6 fFc9), (zaI aBk cBk 12 fBk)] t.heap ∧ va_K (dC, dI) vwCl [(cR, .int), (cO, .int), (cHs, .object "MistHeaps$Heap"), (cFc, .int), (cBk, .int)] t ∧ va_D (va_A [(zo13rrirrrr h0 sc kp ik bl go ch bo), (zo4rrir go gR gO (nI lk) gS), (zaI gR cR 8 fR), (zaI gO cO 8 fO), (zo10ririliiriririr sc aTp (nI ts) aHl (nI nh) ed mi sn aHs (nI n) aWk (nI wz) aBk (nI bz) aFc), (zaR aHs cHs 8 fHs), (zaI aFc cFc 6 fFc), (zaI aBk cBk 12 fBk)] sz) [(zo13rrirrrr h0 sc kp ik bl go ch bo), (zo4rrir go gR gO (nI lk9) gS), (zaI gR cR 8 fR9), (zaI gO cO 8 fO9), (zo10ririliiriririr sc aTp (nI ts) aHl (nI nh) ed mi sn aHs (nI n) aWk (nI wz) aBk (nI bz) aFc), (zaR aHs cHs 8 fHs), (zaI aFc cFc 6 fFc9), (zaI aBk cBk 12 fBk)]) (va_A [(zo13rrirrrr h0 sc kp ik bl go ch bo), (zo4rrir go gR gO (nI lk) gS), (zaI gR cR 8 fR), (zaI gO cO 8 fO), (zo10ririliiriririr sc aTp (nI ts) aHl (nI nh) ed mi sn aHs (nI n) aWk (nI wz) aBk (nI bz) aFc), (zaR aHs cHs 8 fHs), (zaI aFc cFc 6 fFc), (zaI aBk cBk 12 fBk)] sz)) 0 0 (va_A [(zo13rrirrrr h0 sc kp ik bl go ch bo), (zo4rrir go gR gO (nI lk) gS), (zaI gR cR 8 fR), (zaI gO cO 8 fO), (zo10ririliiriririr sc aTp (nI ts) aHl (nI nh) ed mi sn aHs (nI n) aWk (nI wz) aBk (nI bz) aFc), (zaR aHs cHs 8 fHs), (zaI aFc cFc 6 fFc), (zaI aBk cBk 12 fBk)] sz) := by
  refine met_ofQ (cc := cX11_looked) (maxL := 2) (ret := (some .int)) (by decide) rfl ?_
  intro p e s m args below meth c s₁ Q B hml hv hQ
  obtain ⟨rfl, hsz, hP, hK, hD0, hG, hW_, hN_, hZ, hH_⟩ := hv
  have hx := B.exec
  have hb := B.bytes
  have hr := B.returns
  have hts := atoms_spec (ws := wsX11_looked) B.pre
  have hown : s.vm.findClass RX11 = some m.cls := findClass_of_methodNamed B.named
  have hlocks := B.notSynchronized
  subst hsz
  have hD := hD0.self (sz := s.heap.size)
  generalize hAe : va_A [(zo13rrirrrr h0 sc kp ik bl go ch bo), (zo4rrir go gR gO (nI lk) gS), (zaI gR cR 8 fR), (zaI gO cO 8 fO), (zo10ririliiriririr sc aTp (nI ts) aHl (nI nh) ed mi sn aHs (nI n) aWk (nI wz) aBk (nI bz) aFc), (zaR aHs cHs 8 fHs), (zaI aFc cFc 6 fFc), (zaI aBk cBk 12 fBk)] s.heap.size = A at hD hQ hG hW_ hN_ hZ hH_ ⊢
  have hA : ∀ q : Nat, s.heap.size ≤ q → A q := fun q h => by rw [← hAe]; exact Or.inr h
  have hS : va_S A s.heap s.heap [] := va_S.rf
  have hl := lv_entry [.ref h0] (n := 2) (Nat.le_of_ble_eq_true rfl)
  rw [lg_entry_eq]
  generalize (lg_sl [.ref h0] ++ List.replicate (2 - (lg_sl [.ref h0]).length) Slot.unset).toArray = ls at hl ⊢
  generalize hag : ([.ref h0] : List Value).toArray = args at hts hQ ⊢
  have hl : lv_has ls 2 [(0, .ref h0)] := hl
  obtain ⟨H, hH⟩ : ∃ H : Heap, H = s.heap := ⟨_, rfl⟩
  rw [← hH] at hP
  rw [← hH]
  have hS : va_S A s.heap H [] := by rw [hH]; exact hS
  obtain ⟨locs, hlo⟩ : ∃ L : List Loc, L = [] := ⟨_, rfl⟩
  rw [← hlo] at hS
  rw [← hlo]
  clear hH hlo
  refine lv_aload_n hx hb dX11_looked_0 rfl (lv_at hl 0 rfl) ?_
  refine va_get (D := (dC, dI)) (ci := 13) (v := .ref go) (C := RX11) (T := TX11) (N := 7) hx hb hts kc_xLooked_0 hown hK hP 0 rfl rfl 4 (by decide) (hts (.fieldLink RX11 35 "MistHeaps" "goings" "LMistHeaps$Goings;") kc_xLooked_1) (fun _ h9 => h9) rfl dX11_looked_1 ?_
  refine lv_aload_n hx hb dX11_looked_4 rfl (lv_at hl 0 rfl) ?_
  refine va_get (D := (dC, dI)) (ci := 13) (v := .ref sc) (C := RX11) (T := TX11) (N := 7) hx hb hts kc_xLooked_0 hown hK hP 0 rfl rfl 0 (by decide) (hts (.fieldLink RX11 14 "MistHeaps" "scene" "LMistHeaps$Scene;") kc_xLooked_2) (fun _ h9 => h9) rfl dX11_looked_5 ?_
  refine lv_aload_n hx hb dX11_looked_8 rfl (lv_at hl 0 rfl) ?_
  refine va_get (D := (dC, dI)) (ci := 13) (v := .ref sc) (C := RX11) (T := TX11) (N := 7) hx hb hts kc_xLooked_0 hown hK hP 0 rfl rfl 0 (by decide) (hts (.fieldLink RX11 14 "MistHeaps" "scene" "LMistHeaps$Scene;") kc_xLooked_2) (fun _ h9 => h9) rfl dX11_looked_9 ?_
  refine va_get (D := (dC, dI)) (ci := 10) (v := .int sn) (C := RX8) (T := TX8) (N := 14) hx hb hts kc_xLooked_3 hown hK hP 4 rfl rfl 6 (by decide) (hts (.fieldLink RX11 88 "MistHeaps$Scene" "snow" "I") kc_xLooked_4) (fun _ h9 => h9) rfl dX11_looked_12 ?_
  have hPc := hP.sub (ws' := [(zo4rrir go gR gO (nI lk) gS), (zaI gR cR 8 fR), (zaI gO cO 8 fO), (zo10ririliiriririr sc aTp (nI ts) aHl (nI nh) ed mi sn aHs (nI n) aWk (nI wz) aBk (nI bz) aFc), (zaR aHs cHs 8 fHs), (zaI aFc cFc 6 fFc)]) [1, 2, 3, 4, 5, 6] rfl
  have hDc := hD.sub (ws' := [(zo4rrir go gR gO (nI lk) gS), (zaI gR cR 8 fR), (zaI gO cO 8 fO), (zo10ririliiriririr sc aTp (nI ts) aHl (nI nh) ed mi sn aHs (nI n) aWk (nI wz) aBk (nI bz) aFc), (zaR aHs cHs 8 fHs), (zaI aFc cFc 6 fFc)]) [1, 2, 3, 4, 5, 6] (by decide) rfl
  have hKc := hK.sub (tys' := [(cR, .int), (cO, .int), (cHs, .object "MistHeaps$Heap"), (cFc, .int)]) [0, 1, 2, 3] rfl
  have hFc := va_free (wc := [(zo4rrir go gR gO (nI lk) gS), (zaI gR cR 8 fR), (zaI gO cO 8 fO), (zo10ririliiriririr sc aTp (nI ts) aHl (nI nh) ed mi sn aHs (nI n) aWk (nI wz) aBk (nI bz) aFc), (zaR aHs cHs 8 fHs), (zaI aFc cFc 6 fFc)]) hD hS hA [1, 2, 3, 4, 5, 6] rfl
  refine va_callv (va_runV (As := [.ref sc, .int sn]) (rest := []) ⟨hx, hb, hml, hown, hts⟩ (c_link l dC dI gd  kA   sc go aTp aHl aHs aWk aBk aFc bW bA bE bC gR gO gS ts nh n wz bz lk cl mi sn sg cdd szz att nmb sn ed cHs cFc cbW cbA cbE cbC cR cO fFc fbW fbA fbE fbC fR fO yk yv yc fHs yi ya tpv cz H.size (zhs) (hn8) (zcl) (zE) (zC) (zyv) (zyc) (zHC) (zyt)) (cwV 2 hts gX11_looked_X2_link rfl rfl rfl hd_yX2_link ⟨Nat.le_of_ble_eq_true rfl, Nat.le_of_ble_eq_true rfl⟩) ⟨fun a U g mk q => by obtain ⟨q0, q1, qP, qK, qD, qhG, qhW_, qhN_, qhZ, qhH_⟩ := q; exact ⟨q0, mvz g mk a q1, mvP g mk a qP, mvK g mk a qK, qD, qhG.mv g mk a, qhW_.mv g mk a, qhN_.mv g mk a, qhZ.mv g mk a, qhH_.mv g mk a⟩, va_recv hK hP (ci := 4) (q := (RX2, TX2, 4)) (q0 := 1) rfl rfl, fun U hU hW => ⟨rfl, by rw [hU], by rw [hU]; exact hPc, va_K.moved hW.alike hKc, hDc.weaken (fun _ _ _ _ => trivial), hG.call hS hU hW (fun q h => hFc q h), hW_.call hS hU hW (fun q h => hFc q h), hN_.call hS hU hW (fun q h => hFc q h), (hZ.sub [0, 1, 2, 3, 4] [0, 1, 2, 3] rfl rfl).call hS hU hW (fun q h => hFc q h), hH_.call hS hU hW (fun q h => hFc q h)⟩⟩ rfl rfl hl.1 rfl (lv_room (Nat.le_of_ble_eq_true rfl)) dX11_looked_15 ⟨Nat.le_of_ble_eq_true rfl, Nat.le_of_ble_eq_true rfl⟩) hS (fun q _ h => hFc q h) hFc (fun u tC H1 locs htC hvm hw_2 hB hz1 hk1 hS => ?_)
  obtain ⟨lk9_3, fR9_4, fO9_5, fFc9_6⟩ := u
  try dsimp only at hw_2 hB
  obtain ⟨hP1, hK1, hD1⟩ := hB
  rw [htC] at hP1
  have hK1 := va_K.moved hvm.symm hK1
  obtain ⟨hP, hD⟩ := va_join (wr := [(zo13rrirrrr h0 sc kp ik bl go ch bo), (zaI aBk cBk 12 fBk)]) (w1 := [(zo4rrir go gR gO (nI lk9_3) gS), (zaI gR cR 8 fR9_4), (zaI gO cO 8 fO9_5), (zo10ririliiriririr sc aTp (nI ts) aHl (nI nh) ed mi sn aHs (nI n) aWk (nI wz) aBk (nI bz) aFc), (zaR aHs cHs 8 fHs), (zaI aFc cFc 6 fFc9_6)]) hP hD [1, 2, 3, 4, 5, 6] [0, 7] rfl rfl (by decide) (by decide) hk1 hFc hP1 hD1
  have hK := (hK.sub (tys' := [(cBk, .int)]) [4] rfl).app hK1
  generalize H1 = H at hP hS ⊢
  have hP : va_P (dC, dI) vwCl [(zo13rrirrrr h0 sc kp ik bl go ch bo), (zaI aBk cBk 12 fBk), (zo4rrir go gR gO (nI lk9_3) gS), (zaI gR cR 8 fR9_4), (zaI gO cO 8 fO9_5), (zo10ririliiriririr sc aTp (nI ts) aHl (nI nh) ed mi sn aHs (nI n) aWk (nI wz) aBk (nI bz) aFc), (zaR aHs cHs 8 fHs), (zaI aFc cFc 6 fFc9_6)] H := hP
  have hD : va_D A [(zo13rrirrrr h0 sc kp ik bl go ch bo), (zaI aBk cBk 12 fBk), (zo4rrir go gR gO (nI lk9_3) gS), (zaI gR cR 8 fR9_4), (zaI gO cO 8 fO9_5), (zo10ririliiriririr sc aTp (nI ts) aHl (nI nh) ed mi sn aHs (nI n) aWk (nI wz) aBk (nI bz) aFc), (zaR aHs cHs 8 fHs), (zaI aFc cFc 6 fFc9_6)] := hD
  have hK : va_K (dC, dI) vwCl [(cBk, .int), (cR, .int), (cO, .int), (cHs, .object "MistHeaps$Heap"), (cFc, .int)] s := hK
  obtain ⟨elk, hlR, hlO⟩ := hw_2
  obtain rfl := elk.symm
  refine lv_iconst (v := 1) hx hb dX11_looked_18 (by decide) ?_
  refine lv_istore_n (lv' := [(1, .int 1), (0, .ref h0)]) hx hb dX11_looked_19 rfl hl (by decide) rfl (fun ls hl => ?_)
  have L20 : ∀ (nF : Nat) (i : Nat) (fR2 : Nat → Int32) (fO2 : Nat → Int32) (fFc2 : Nat → Int32), bz + 1 - i < nF → (1 ≤ i ∧ i ≤ 13) → ∀ (H : Heap) (locs : List Loc), va_K (dC, dI) vwCl [(cR, .int), (cO, .int), (cHs, .object "MistHeaps$Heap"), (cFc, .int), (cBk, .int)] s → va_P (dC, dI) vwCl [(zo13rrirrrr h0 sc kp ik bl go ch bo), (zo4rrir go gR gO (nI n) gS), (zaI gR cR 8 fR2), (zaI gO cO 8 fO2), (zo10ririliiriririr sc aTp (nI ts) aHl (nI nh) ed mi sn aHs (nI n) aWk (nI wz) aBk (nI bz) aFc), (zaR aHs cHs 8 fHs), (zaI aFc cFc 6 fFc2), (zaI aBk cBk 12 fBk)] H → va_D A [(zo13rrirrrr h0 sc kp ik bl go ch bo), (zo4rrir go gR gO (nI n) gS), (zaI gR cR 8 fR2), (zaI gO cO 8 fO2), (zo10ririliiriririr sc aTp (nI ts) aHl (nI nh) ed mi sn aHs (nI n) aWk (nI wz) aBk (nI bz) aFc), (zaR aHs cHs 8 fHs), (zaI aFc cFc 6 fFc2), (zaI aBk cBk 12 fBk)] → va_S A s.heap H locs → ∀ (ls : Array Slot), lv_has ls 2 [(0, .ref h0), (1, .int (nI i))] → W p l e ({ frames := 7, cells := 0, slots := 0, locals := 149 } : Room) s m args below meth c H locs 0 0 Q (F0 m 20 ls []) := by
    intro nF
    induction nF with
    | zero => intro i fR2 fO2 fFc2 hm; exact absurd hm (Nat.not_lt_zero _)
    | succ nF ih20 =>
      intro i fR2 fO2 fFc2 hm hii H locs hK hP hD hS ls hl
      refine lv_iload_n hx hb dX11_looked_20 rfl (lv_at hl 1 rfl) ?_
      refine lv_aload_n hx hb dX11_looked_21 rfl (lv_at hl 0 rfl) ?_
      refine va_get (D := (dC, dI)) (ci := 13) (v := .ref sc) (C := RX11) (T := TX11) (N := 7) hx hb hts kc_xLooked_0 hown hK hP 0 rfl rfl 0 (by decide) (hts (.fieldLink RX11 14 "MistHeaps" "scene" "LMistHeaps$Scene;") kc_xLooked_2) (fun _ h9 => h9) rfl dX11_looked_22 ?_
      refine va_get (D := (dC, dI)) (ci := 10) (v := .int (nI bz)) (C := RX8) (T := TX8) (N := 14) hx hb hts kc_xLooked_3 hown hK hP 4 rfl rfl 12 (by decide) (hts (.fieldLink RX11 221 "MistHeaps$Scene" "bookSize" "I") kc_xLooked_5) (fun _ h9 => h9) rfl dX11_looked_25 ?_
      refine lv_icmp_ge (tgt := 77) hx hb dX11_looked_28 (by decide) (fun c_7 => ?_) (fun c_7 => ?_)
      · skip
        have c_7 : bz ≤ i := (nI_leI (a := bz) (b := i) (by omega) (by omega)).mp c_7
        refine lv_bipush (v := (-5)) hx hb dX11_looked_77 (by decide) ?_
        rw [hQ]
        have hP9 := hP.sub (ws' := [(zo13rrirrrr h0 sc kp ik bl go ch bo), (zo4rrir go gR gO (nI n) gS), (zaI gR cR 8 fR2), (zaI gO cO 8 fO2), (zo10ririliiriririr sc aTp (nI ts) aHl (nI nh) ed mi sn aHs (nI n) aWk (nI wz) aBk (nI bz) aFc), (zaR aHs cHs 8 fHs), (zaI aFc cFc 6 fFc2), (zaI aBk cBk 12 fBk)]) [0, 1, 2, 3, 4, 5, 6, 7] rfl
        have hD9 := hD.sub (ws' := [(zo13rrirrrr h0 sc kp ik bl go ch bo), (zo4rrir go gR gO (nI n) gS), (zaI gR cR 8 fR2), (zaI gO cO 8 fO2), (zo10ririliiriririr sc aTp (nI ts) aHl (nI nh) ed mi sn aHs (nI n) aWk (nI wz) aBk (nI bz) aFc), (zaR aHs cHs 8 fHs), (zaI aFc cFc 6 fFc2), (zaI aBk cBk 12 fBk)]) [0, 1, 2, 3, 4, 5, 6, 7] (by decide) rfl
        have hK9 := hK.sub (tys' := [(cR, .int), (cO, .int), (cHs, .object "MistHeaps$Heap"), (cFc, .int), (cBk, .int)]) [0, 1, 2, 3, 4] rfl
        exact W.iret (v := (-5)) hx hb hr (fun tQ htQ hWQ => ⟨⟨(-5), (n, fR2, fO2, fFc2), rfl, by omega, by rw [htQ]; exact hP9, va_K.moved hWQ.alike hK9, hD9⟩, hS.F htQ⟩) hS.2.2 dX11_looked_79
      · skip
        have c_7 : ¬ bz ≤ i := fun q => c_7 ((nI_leI (a := bz) (b := i) (by omega) (by omega)).mpr q)
        refine lv_aload_n hx hb dX11_looked_31 rfl (lv_at hl 0 rfl) ?_
        refine va_get (D := (dC, dI)) (ci := 13) (v := .ref go) (C := RX11) (T := TX11) (N := 7) hx hb hts kc_xLooked_0 hown hK hP 0 rfl rfl 4 (by decide) (hts (.fieldLink RX11 35 "MistHeaps" "goings" "LMistHeaps$Goings;") kc_xLooked_1) (fun _ h9 => h9) rfl dX11_looked_32 ?_
        refine lv_aload_n hx hb dX11_looked_35 rfl (lv_at hl 0 rfl) ?_
        refine va_get (D := (dC, dI)) (ci := 13) (v := .ref sc) (C := RX11) (T := TX11) (N := 7) hx hb hts kc_xLooked_0 hown hK hP 0 rfl rfl 0 (by decide) (hts (.fieldLink RX11 14 "MistHeaps" "scene" "LMistHeaps$Scene;") kc_xLooked_2) (fun _ h9 => h9) rfl dX11_looked_36 ?_
        refine va_get (D := (dC, dI)) (ci := 10) (v := .ref aBk) (C := RX8) (T := TX8) (N := 14) hx hb hts kc_xLooked_3 hown hK hP 4 rfl rfl 11 (by decide) (hts (.fieldLink RX11 224 "MistHeaps$Scene" "book" "[I") kc_xLooked_6) (fun _ h9 => h9) rfl dX11_looked_39 ?_
        refine lv_iload_n hx hb dX11_looked_42 rfl (lv_at hl 1 rfl) ?_
        refine lv_iconst (v := 1) hx hb dX11_looked_43 (by decide) ?_
        refine lv_isub hx hb dX11_looked_44 ?_
        refine qi_as (y := nI (i - 1)) (pk_sub (a := i) (b := 1) (by omega)) ?_
        refine va_iald hx hb hK hP 7 4 rfl rfl (vp_in_nI (n := i - 1) (N := 12) (by omega) (by omega)) dX11_looked_45 ?_
        obtain ⟨j1, hj1, e1⟩ := zbk (i - 1) (by omega)
        refine qi_as (y := nI j1) ((show fBk (nI (i - 1) : Int32).toNatClampNeg = fBk (i - 1) from by rw [nI_clamp (by omega)]).trans (e1)) ?_
        refine lv_aload_n hx hb dX11_looked_46 rfl (lv_at hl 0 rfl) ?_
        refine va_get (D := (dC, dI)) (ci := 13) (v := .ref sc) (C := RX11) (T := TX11) (N := 7) hx hb hts kc_xLooked_0 hown hK hP 0 rfl rfl 0 (by decide) (hts (.fieldLink RX11 14 "MistHeaps" "scene" "LMistHeaps$Scene;") kc_xLooked_2) (fun _ h9 => h9) rfl dX11_looked_47 ?_
        refine va_get (D := (dC, dI)) (ci := 10) (v := .ref aBk) (C := RX8) (T := TX8) (N := 14) hx hb hts kc_xLooked_3 hown hK hP 4 rfl rfl 11 (by decide) (hts (.fieldLink RX11 224 "MistHeaps$Scene" "book" "[I") kc_xLooked_6) (fun _ h9 => h9) rfl dX11_looked_50 ?_
        refine lv_iload_n hx hb dX11_looked_53 rfl (lv_at hl 1 rfl) ?_
        refine va_iald hx hb hK hP 7 4 rfl rfl (vp_in_nI (n := i) (N := 12) (by omega) (by omega)) dX11_looked_54 ?_
        obtain ⟨j2, hj2, e2⟩ := zbk i (by omega)
        refine qi_as (y := nI j2) ((show fBk (nI i : Int32).toNatClampNeg = fBk i from by rw [nI_clamp (by omega)]).trans (e2)) ?_
        have hPc := hP.sub (ws' := [(zo4rrir go gR gO (nI n) gS), (zaI gO cO 8 fO2)]) [1, 3] rfl
        have hKc := hK.sub (tys' := [(cO, .int)]) [1] rfl
        refine vp_callSi (va_runV (As := [.int (nI j1), .int (nI j2)]) (rest := []) ⟨hx, hb, hml, hown, hts⟩ (c_isGoing l dC dI go gR gO gS n j1 (nI j2) cO fO2 (by omega)) (cwV 2 hts gX11_looked_X2_isGoing rfl rfl rfl hd_yX2_isGoing ⟨Nat.le_of_ble_eq_true rfl, Nat.le_of_ble_eq_true rfl⟩) ⟨fun a U g mk q => by obtain ⟨q0, qP, qK⟩ := q; exact ⟨q0, mvP g mk a qP, mvK g mk a qK⟩, va_recv hK hP (ci := 4) (q := (RX2, TX2, 4)) (q0 := 1) rfl rfl, fun U hU hW => ⟨rfl, by rw [hU]; exact hPc, va_K.moved hW.alike hKc⟩⟩ rfl rfl hl.1 rfl (lv_room (Nat.le_of_ble_eq_true rfl)) dX11_looked_55 ⟨Nat.le_of_ble_eq_true rfl, Nat.le_of_ble_eq_true rfl⟩).run (fun r_8 hw_9 => ?_)
        rcases hw_9 with ⟨rfl, hd_10⟩ | ⟨rfl, hd_10⟩
        · skip
          refine lv_if_ne (tgt := 71) hx hb dX11_looked_58 (by decide) (fun _ => ?_) (fun c_11 => absurd c_11 (by decide))
          refine lv_iinc (v := nI (i + 1)) (lv' := [(1, .int (nI (i + 1))), (0, .ref h0)]) hx hb dX11_looked_71 hl (k := 1) rfl (nI_add i 1) (by decide) rfl (fun ls hl => ?_)
          refine lv_goto (tgt := 20) hx hb dX11_looked_74 (by decide) ?_
          exact ih20 (i + 1) _ _ _ (by omega) (by omega) _ _ (hK.sub [0, 1, 2, 3, 4] rfl) (hP.sub [0, 1, 2, 3, 4, 5, 6, 7] rfl) (hD.sub [0, 1, 2, 3, 4, 5, 6, 7] (by decide) rfl) hS ls (lv_sub hl [1, 0] rfl)
        · skip
          refine lv_if_ne (tgt := 71) hx hb dX11_looked_58 (by decide) (fun c_12 => absurd c_12 (by decide)) (fun _ => ?_)
          refine lv_aload_n hx hb dX11_looked_61 rfl (lv_at hl 0 rfl) ?_
          refine va_get (D := (dC, dI)) (ci := 13) (v := .ref sc) (C := RX11) (T := TX11) (N := 7) hx hb hts kc_xLooked_0 hown hK hP 0 rfl rfl 0 (by decide) (hts (.fieldLink RX11 14 "MistHeaps" "scene" "LMistHeaps$Scene;") kc_xLooked_2) (fun _ h9 => h9) rfl dX11_looked_62 ?_
          refine va_get (D := (dC, dI)) (ci := 10) (v := .ref aBk) (C := RX8) (T := TX8) (N := 14) hx hb hts kc_xLooked_3 hown hK hP 4 rfl rfl 11 (by decide) (hts (.fieldLink RX11 224 "MistHeaps$Scene" "book" "[I") kc_xLooked_6) (fun _ h9 => h9) rfl dX11_looked_65 ?_
          refine lv_iload_n hx hb dX11_looked_68 rfl (lv_at hl 1 rfl) ?_
          refine va_iald hx hb hK hP 7 4 rfl rfl (vp_in_nI (n := i) (N := 12) (by omega) (by omega)) dX11_looked_69 ?_
          refine qi_as (y := fBk i) (by rw [nI_clamp (by omega)]) ?_
          rw [hQ]
          have hP9 := hP.sub (ws' := [(zo13rrirrrr h0 sc kp ik bl go ch bo), (zo4rrir go gR gO (nI n) gS), (zaI gR cR 8 fR2), (zaI gO cO 8 fO2), (zo10ririliiriririr sc aTp (nI ts) aHl (nI nh) ed mi sn aHs (nI n) aWk (nI wz) aBk (nI bz) aFc), (zaR aHs cHs 8 fHs), (zaI aFc cFc 6 fFc2), (zaI aBk cBk 12 fBk)]) [0, 1, 2, 3, 4, 5, 6, 7] rfl
          have hD9 := hD.sub (ws' := [(zo13rrirrrr h0 sc kp ik bl go ch bo), (zo4rrir go gR gO (nI n) gS), (zaI gR cR 8 fR2), (zaI gO cO 8 fO2), (zo10ririliiriririr sc aTp (nI ts) aHl (nI nh) ed mi sn aHs (nI n) aWk (nI wz) aBk (nI bz) aFc), (zaR aHs cHs 8 fHs), (zaI aFc cFc 6 fFc2), (zaI aBk cBk 12 fBk)]) [0, 1, 2, 3, 4, 5, 6, 7] (by decide) rfl
          have hK9 := hK.sub (tys' := [(cR, .int), (cO, .int), (cHs, .object "MistHeaps$Heap"), (cFc, .int), (cBk, .int)]) [0, 1, 2, 3, 4] rfl
          exact W.iret (v := fBk i) hx hb hr (fun tQ htQ hWQ => ⟨⟨(fBk i), (n, fR2, fO2, fFc2), rfl, by omega, by rw [htQ]; exact hP9, va_K.moved hWQ.alike hK9, hD9⟩, hS.F htQ⟩) hS.2.2 dX11_looked_70
  exact L20 _ (1) _ _ _ (Nat.lt_succ_self _) (by omega) _ _ (hK.sub [1, 2, 3, 4, 0] rfl) (hP.sub [0, 2, 3, 4, 5, 6, 7, 1] rfl) (hD.sub [0, 2, 3, 4, 5, 6, 7, 1] (by decide) rfl) hS ls (lv_sub hl [1, 0] rfl)

theorem kc_xBuild_0 : ∀ w ∈ wsX110, w ∈ wsX11_build := fun w h => List.mem_cons_of_mem _ (gin_wsX110 w h)
theorem kc_xBuild_1 : (.fieldLink RX11 14 "MistHeaps" "scene" "LMistHeaps$Scene;" : Cond) ∈ wsX11_build := kc_of 328 rfl rfl rfl
theorem kc_xBuild_2 : (.fieldLink RX11 35 "MistHeaps" "goings" "LMistHeaps$Goings;" : Cond) ∈ wsX11_build := kc_of 332 rfl rfl rfl
set_option maxHeartbeats 4000000 in
set_option maxRecDepth 100000 in
theorem c_xBuild (l : Launch) (dC : Nat → ClassId) (dI : Nat → Nat → Nat) (gd : Nat → Nat)  (kA : Nat)   (h0 : Nat) (sc : Nat) (kp : Nat) (bl : Nat) (go : Nat) (ch : Nat) (bo : Nat) (aTp : Nat) (aHl : Nat) (aHs : Nat) (aWk : Nat) (aBk : Nat) (aFc : Nat) (bW : Nat) (bA : Nat) (bE : Nat) (bC : Nat) (gR : Nat) (gO : Nat) (gS : Nat) (ts : Nat) (nh : Nat) (n : Nat) (wz : Nat) (bz : Nat) (lk : Nat) (cl : Nat) (i0 : Nat) (mi : Int32) (sn : Int32) (sg : Int32) (cdd : Int32) (szz : Int32) (att : Int32) (nmb : Int32) (scl : Int32) (ik : Int32) (x : Int32) (y : Int32) (z : Int32) (ed : Int64) (cHs : ClassId) (cFc : ClassId) (cbW : ClassId) (cbA : ClassId) (cbE : ClassId) (cbC : ClassId) (cR : ClassId) (cO : ClassId) (fFc : Nat → Int32) (fbW : Nat → Int32) (fbA : Nat → Int32) (fbE : Nat → Int32) (fbC : Nat → Int32) (fR : Nat → Int32) (fO : Nat → Int32) (yk : Nat → Int32) (yv : Nat → Int32) (yc : Nat → Int32) (fHs : Nat → Option Nat) (yi : Nat → Nat) (ya : Nat → Nat) (tpv : Value) (cz : List pCla) (sz : Nat) (zhs : ∀ k0, k0 < n → fHs k0 = some (ya k0)) (hn8 : n ≤ 8) (zcl : cl ≤ 10) (zE : ∀ k0, k0 < 10 → ∃ e0 : Nat, e0 ≤ 100 ∧ fbE k0 = nI e0) (zC : ∀ k0, k0 < 100 → okC (fbC k0)) (zyv : ∀ k0, k0 < n → ∃ v0 : Nat, v0 ≤ 9 ∧ yv k0 = nI v0) (zyc : ∀ k0, k0 < n → ∃ v0 : Nat, v0 < 36 ∧ yc k0 = nI v0) (hlk : lk ≤ 8) (zHC : HC cl sg fbW fbA fbE fbC cz ∧ WfC cz) (zyt : ∀ k0, k0 < n → hpT (yi k0) (yk k0)) : Met l yX11_build wsX11_build ({ frames := 8, cells := 0, slots := 0, locals := 176 } : Room) (va_Pc [.ref h0, .int x, .int y, .int z] (fun U => U.heap.size = sz ∧ va_P (dC, dI) vwCl [(zo13rrirrrr h0 sc kp ik bl go ch bo), (zo4rrir go gR gO (nI lk) gS), (zaI gR cR 8 fR), (zaI gO cO 8 fO), (zo5iiii gS 0 (nI i0) 0 scl), (zo10ririliiriririr sc aTp (nI ts) aHl (nI nh) ed mi sn aHs (nI n) aWk (nI wz) aBk (nI bz) aFc), (zaR aHs cHs 8 fHs), (zaI aFc cFc 6 fFc)] U.heap ∧ va_K (dC, dI) vwCl [(cR, .int), (cO, .int), (cHs, .object "MistHeaps$Heap"), (cFc, .int)] U ∧ va_D (fun _ => True) [(zo13rrirrrr h0 sc kp ik bl go ch bo), (zo4rrir go gR gO (nI lk) gS), (zaI gR cR 8 fR), (zaI gO cO 8 fO), (zo5iiii gS 0 (nI i0) 0 scl), (zo10ririliiriririr sc aTp (nI ts) aHl (nI nh) ed mi sn aHs (nI n) aWk (nI wz) aBk (nI bz) aFc), (zaR aHs cHs 8 fHs), (zaI aFc cFc 6 fFc)] ∧ Gl gd (va_A [(zo13rrirrrr h0 sc kp ik bl go ch bo), (zo4rrir go gR gO (nI lk) gS), (zaI gR cR 8 fR), (zaI gO cO 8 fO), (zo5iiii gS 0 (nI i0) 0 scl), (zo10ririliiriririr sc aTp (nI ts) aHl (nI nh) ed mi sn aHs (nI n) aWk (nI wz) aBk (nI bz) aFc), (zaR aHs cHs 8 fHs), (zaI aFc cFc 6 fFc)] sz) U ∧ Gw (va_A [(zo13rrirrrr h0 sc kp ik bl go ch bo), (zo4rrir go gR gO (nI lk) gS), (zaI gR cR 8 fR), (zaI gO cO 8 fO), (zo5iiii gS 0 (nI i0) 0 scl), (zo10ririliiriririr sc aTp (nI ts) aHl (nI nh) ed mi sn aHs (nI n) aWk (nI wz) aBk (nI bz) aFc), (zaR aHs cHs 8 fHs), (zaI aFc cFc 6 fFc)] sz) U ∧ Gn kA (va_A [(zo13rrirrrr h0 sc kp ik bl go ch bo), (zo4rrir go gR gO (nI lk) gS), (zaI gR cR 8 fR), (zaI gO cO 8 fO), (zo5iiii gS 0 (nI i0) 0 scl), (zo10ririliiriririr sc aTp (nI ts) aHl (nI nh) ed mi sn aHs (nI n) aWk (nI wz) aBk (nI bz) aFc), (zaR aHs cHs 8 fHs), (zaI aFc cFc 6 fFc)] sz) U ∧ Fz dC dI [(zo7iirrrriviii aHl sg (nI cl) bW bA bE bC cdd tpv szz att nmb), (zaI bW cbW 10 fbW), (zaI bA cbA 10 fbA), (zaI bE cbE 10 fbE), (zaI bC cbC 100 fbC)] [(cbW, .int), (cbA, .int), (cbE, .int), (cbC, .int)] (va_A [(zo13rrirrrr h0 sc kp ik bl go ch bo), (zo4rrir go gR gO (nI lk) gS), (zaI gR cR 8 fR), (zaI gO cO 8 fO), (zo5iiii gS 0 (nI i0) 0 scl), (zo10ririliiriririr sc aTp (nI ts) aHl (nI nh) ed mi sn aHs (nI n) aWk (nI wz) aBk (nI bz) aFc), (zaR aHs cHs 8 fHs), (zaI aFc cFc 6 fFc)] sz) U ∧ Hs dC dI n yi ya yk yv yc (va_A [(zo13rrirrrr h0 sc kp ik bl go ch bo), (zo4rrir go gR gO (nI lk) gS), (zaI gR cR 8 fR), (zaI gO cO 8 fO), (zo5iiii gS 0 (nI i0) 0 scl), (zo10ririliiriririr sc aTp (nI ts) aHl (nI nh) ed mi sn aHs (nI n) aWk (nI wz) aBk (nI bz) aFc), (zaR aHs cHs 8 fHs), (zaI aFc cFc 6 fFc)] sz) U)) (va_Qi (fun (r : Int32) (u : (Nat) × (Nat → Int32) × (Nat → Int32) × (Nat → Int32) × (Nat) × (Int32)) => match u with | (lk9, fR9, fO9, fFc9, i09, scl9) => lk9 ≤ 8 ∧ r = bdR n yk yv yc cz mi sn x y z) (fun (u : (Nat) × (Nat → Int32) × (Nat → Int32) × (Nat → Int32) × (Nat) × (Int32)) (t : State) => match u with | (lk9, fR9, fO9, fFc9, i09, scl9) => va_P (dC, dI) vwCl [(zo13rrirrrr h0 sc kp ik bl go ch bo), (zo4rrir go gR gO (nI lk9) gS), (zaI gR cR 8 fR9), (zaI gO cO 8 fO9), (zo5iiii gS 0 (nI i09) 0 scl9), (zo10ririliiriririr sc aTp (nI ts) aHl (nI nh) ed mi sn aHs (nI n) aWk (nI wz) aBk (nI bz) aFc), (zaR aHs cHs 8 fHs), (zaI aFc cFc 6 fFc9)] t.heap ∧ va_K (dC, dI) vwCl [(cR, .int), (cO, .int), (cHs, .object "MistHeaps$Heap"), (cFc, .int)] t ∧ va_D (va_A [(zo13rrirrrr h0 sc kp ik bl go ch bo), (zo4rrir go gR gO (nI lk) gS), (zaI gR cR 8 fR), (zaI gO cO 8 fO), (zo5iiii gS 0 (nI i0) 0 scl), (zo10ririliiriririr sc aTp (nI ts) aHl (nI nh) ed mi sn aHs (nI n) aWk (nI wz) aBk (nI bz) aFc), (zaR aHs cHs 8 fHs), (zaI aFc cFc 6 fFc)] sz) [(zo13rrirrrr h0 sc kp ik bl go ch bo), (zo4rrir go gR gO (nI lk9) gS), (zaI gR cR 8 fR9), (zaI gO cO 8 fO9), (zo5iiii gS 0 (nI i09) 0 scl9), (zo10ririliiriririr sc aTp (nI ts) aHl (nI nh) ed mi sn aHs (nI n) aWk (nI wz) aBk (nI bz) aFc), (zaR aHs cHs 8 fHs), (zaI aFc cFc 6 fFc9)]) (va_A [(zo13rrirrrr h0 sc kp ik bl go ch bo), (zo4rrir go gR gO (nI lk) gS), (zaI gR cR 8 fR), (zaI gO cO 8 fO), (zo5iiii gS 0 (nI i0) 0 scl), (zo10ririliiriririr sc aTp (nI ts) aHl (nI nh) ed mi sn aHs (nI n) aWk (nI wz) aBk (nI bz) aFc), (zaR aHs cHs 8 fHs), (zaI aFc cFc 6 fFc)] sz)) 0 0 (va_A [(zo13rrirrrr h0 sc kp ik bl go ch bo), (zo4rrir go gR gO (nI lk) gS), (zaI gR cR 8 fR), (zaI gO cO 8 fO), (zo5iiii gS 0 (nI i0) 0 scl), (zo10ririliiriririr sc aTp (nI ts) aHl (nI nh) ed mi sn aHs (nI n) aWk (nI wz) aBk (nI bz) aFc), (zaR aHs cHs 8 fHs), (zaI aFc cFc 6 fFc)] sz) := by
  refine met_ofQ (cc := cX11_build) (maxL := 5) (ret := (some .int)) (by decide) rfl ?_
  intro p e s m args below meth c s₁ Q B hml hv hQ
  obtain ⟨rfl, hsz, hP, hK, hD0, hG, hW_, hN_, hZ, hH_⟩ := hv
  have hx := B.exec
  have hb := B.bytes
  have hr := B.returns
  have hts := atoms_spec (ws := wsX11_build) B.pre
  have hown : s.vm.findClass RX11 = some m.cls := findClass_of_methodNamed B.named
  have hlocks := B.notSynchronized
  subst hsz
  have hD := hD0.self (sz := s.heap.size)
  generalize hAe : va_A [(zo13rrirrrr h0 sc kp ik bl go ch bo), (zo4rrir go gR gO (nI lk) gS), (zaI gR cR 8 fR), (zaI gO cO 8 fO), (zo5iiii gS 0 (nI i0) 0 scl), (zo10ririliiriririr sc aTp (nI ts) aHl (nI nh) ed mi sn aHs (nI n) aWk (nI wz) aBk (nI bz) aFc), (zaR aHs cHs 8 fHs), (zaI aFc cFc 6 fFc)] s.heap.size = A at hD hQ hG hW_ hN_ hZ hH_ ⊢
  have hA : ∀ q : Nat, s.heap.size ≤ q → A q := fun q h => by rw [← hAe]; exact Or.inr h
  have hS : va_S A s.heap s.heap [] := va_S.rf
  have hl := lv_entry [.ref h0, .int x, .int y, .int z] (n := 5) (Nat.le_of_ble_eq_true rfl)
  rw [lg_entry_eq]
  generalize (lg_sl [.ref h0, .int x, .int y, .int z] ++ List.replicate (5 - (lg_sl [.ref h0, .int x, .int y, .int z]).length) Slot.unset).toArray = ls at hl ⊢
  generalize hag : ([.ref h0, .int x, .int y, .int z] : List Value).toArray = args at hts hQ ⊢
  have hl : lv_has ls 5 [(0, .ref h0), (1, .int x), (2, .int y), (3, .int z)] := hl
  obtain ⟨H, hH⟩ : ∃ H : Heap, H = s.heap := ⟨_, rfl⟩
  rw [← hH] at hP
  rw [← hH]
  have hS : va_S A s.heap H [] := by rw [hH]; exact hS
  obtain ⟨locs, hlo⟩ : ∃ L : List Loc, L = [] := ⟨_, rfl⟩
  rw [← hlo] at hS
  rw [← hlo]
  clear hH hlo
  refine lv_aload_n hx hb dX11_build_0 rfl (lv_at hl 0 rfl) ?_
  refine va_get (D := (dC, dI)) (ci := 13) (v := .ref sc) (C := RX11) (T := TX11) (N := 7) hx hb hts kc_xBuild_0 hown hK hP 0 rfl rfl 0 (by decide) (hts (.fieldLink RX11 14 "MistHeaps" "scene" "LMistHeaps$Scene;") kc_xBuild_1) (fun _ h9 => h9) rfl dX11_build_1 ?_
  refine lv_iload_n hx hb dX11_build_4 rfl (lv_at hl 1 rfl) ?_
  refine lv_iload_n hx hb dX11_build_5 rfl (lv_at hl 2 rfl) ?_
  have hPc := hP.sub (ws' := [(zo10ririliiriririr sc aTp (nI ts) aHl (nI nh) ed mi sn aHs (nI n) aWk (nI wz) aBk (nI bz) aFc), (zaR aHs cHs 8 fHs)]) [5, 6] rfl
  have hKc := hK.sub (tys' := [(cHs, .object "MistHeaps$Heap")]) [2] rfl
  refine vp_callSi (va_runV (As := [.int x, .int y]) (rest := []) ⟨hx, hb, hml, hown, hts⟩ (c_areHeaps l dC dI sc aTp aHl aHs aWk aBk aFc ts nh n wz bz mi sn x y ed cHs fHs ya (zhs) (hn8)) (cwV 2 hts gX11_build_X8_areHeaps rfl rfl rfl hd_yX8_areHeaps ⟨Nat.le_of_ble_eq_true rfl, Nat.le_of_ble_eq_true rfl⟩) ⟨fun a U g mk q => by obtain ⟨q0, qP, qK⟩ := q; exact ⟨q0, mvP g mk a qP, mvK g mk a qK⟩, va_recv hK hP (ci := 10) (q := (RX8, TX8, 14)) (q0 := 5) rfl rfl, fun U hU hW => ⟨rfl, by rw [hU]; exact hPc, va_K.moved hW.alike hKc⟩⟩ rfl rfl hl.1 rfl (lv_room (Nat.le_of_ble_eq_true rfl)) dX11_build_6 ⟨Nat.le_of_ble_eq_true rfl, Nat.le_of_ble_eq_true rfl⟩).run (fun r_1 hw_2 => ?_)
  rcases hw_2 with ⟨rfl, j1, j2, hj1, hj2, rfl, rfl⟩ | ⟨rfl, hno⟩
  · skip
    refine lv_if_eq (tgt := 21) hx hb dX11_build_9 (by decide) (fun c_3 => absurd c_3 (by decide)) (fun _ => ?_)
    refine lv_iload_n hx hb dX11_build_12 rfl (lv_at hl 3 rfl) ?_
    refine lv_if_lt (tgt := 21) hx hb dX11_build_13 (by decide) (fun c_4 => ?_) (fun c_4 => ?_)
    · skip
      refine lv_iconst (v := (-1)) hx hb dX11_build_21 (by decide) ?_
      rw [hQ]
      have hP9 := hP.sub (ws' := [(zo13rrirrrr h0 sc kp ik bl go ch bo), (zo4rrir go gR gO (nI lk) gS), (zaI gR cR 8 fR), (zaI gO cO 8 fO), (zo5iiii gS 0 (nI i0) 0 scl), (zo10ririliiriririr sc aTp (nI ts) aHl (nI nh) ed mi sn aHs (nI n) aWk (nI wz) aBk (nI bz) aFc), (zaR aHs cHs 8 fHs), (zaI aFc cFc 6 fFc)]) [0, 1, 2, 3, 4, 5, 6, 7] rfl
      have hD9 := hD.sub (ws' := [(zo13rrirrrr h0 sc kp ik bl go ch bo), (zo4rrir go gR gO (nI lk) gS), (zaI gR cR 8 fR), (zaI gO cO 8 fO), (zo5iiii gS 0 (nI i0) 0 scl), (zo10ririliiriririr sc aTp (nI ts) aHl (nI nh) ed mi sn aHs (nI n) aWk (nI wz) aBk (nI bz) aFc), (zaR aHs cHs 8 fHs), (zaI aFc cFc 6 fFc)]) [0, 1, 2, 3, 4, 5, 6, 7] (by decide) rfl
      have hK9 := hK.sub (tys' := [(cR, .int), (cO, .int), (cHs, .object "MistHeaps$Heap"), (cFc, .int)]) [0, 1, 2, 3] rfl
      exact W.iret (v := (-1)) hx hb hr (fun tQ htQ hWQ => ⟨⟨(-1), (lk, fR, fO, fFc, i0, scl), rfl, ⟨hlk, by first | exact hno.elim bd_no1 bd_no2 | exact bd_no3 (by first | exact Or.inl (by assumption) | exact Or.inr (Int32.not_le.mp (by assumption)))⟩, by rw [htQ]; exact hP9, va_K.moved hWQ.alike hK9, hD9⟩, hS.F htQ⟩) hS.2.2 dX11_build_22
    · skip
      refine lv_iload_n hx hb dX11_build_16 rfl (lv_at hl 3 rfl) ?_
      refine lv_iconst (v := 1) hx hb dX11_build_17 (by decide) ?_
      refine lv_icmp_le (tgt := 23) hx hb dX11_build_18 (by decide) (fun c_5 => ?_) (fun c_5 => ?_)
      · skip
        refine lv_aload_n hx hb dX11_build_23 rfl (lv_at hl 0 rfl) ?_
        refine va_get (D := (dC, dI)) (ci := 13) (v := .ref go) (C := RX11) (T := TX11) (N := 7) hx hb hts kc_xBuild_0 hown hK hP 0 rfl rfl 4 (by decide) (hts (.fieldLink RX11 35 "MistHeaps" "goings" "LMistHeaps$Goings;") kc_xBuild_2) (fun _ h9 => h9) rfl dX11_build_24 ?_
        refine lv_aload_n hx hb dX11_build_27 rfl (lv_at hl 0 rfl) ?_
        refine va_get (D := (dC, dI)) (ci := 13) (v := .ref sc) (C := RX11) (T := TX11) (N := 7) hx hb hts kc_xBuild_0 hown hK hP 0 rfl rfl 0 (by decide) (hts (.fieldLink RX11 14 "MistHeaps" "scene" "LMistHeaps$Scene;") kc_xBuild_1) (fun _ h9 => h9) rfl dX11_build_28 ?_
        refine lv_iload_n hx hb dX11_build_31 rfl (lv_at hl 1 rfl) ?_
        refine lv_iload_n hx hb dX11_build_32 rfl (lv_at hl 2 rfl) ?_
        have hPc := hP.sub (ws' := [(zo4rrir go gR gO (nI lk) gS), (zaI gR cR 8 fR), (zaI gO cO 8 fO), (zo5iiii gS 0 (nI i0) 0 scl), (zo10ririliiriririr sc aTp (nI ts) aHl (nI nh) ed mi sn aHs (nI n) aWk (nI wz) aBk (nI bz) aFc), (zaR aHs cHs 8 fHs), (zaI aFc cFc 6 fFc)]) [1, 2, 3, 4, 5, 6, 7] rfl
        have hDc := hD.sub (ws' := [(zo4rrir go gR gO (nI lk) gS), (zaI gR cR 8 fR), (zaI gO cO 8 fO), (zo5iiii gS 0 (nI i0) 0 scl), (zo10ririliiriririr sc aTp (nI ts) aHl (nI nh) ed mi sn aHs (nI n) aWk (nI wz) aBk (nI bz) aFc), (zaR aHs cHs 8 fHs), (zaI aFc cFc 6 fFc)]) [1, 2, 3, 4, 5, 6, 7] (by decide) rfl
        have hKc := hK.sub (tys' := [(cR, .int), (cO, .int), (cHs, .object "MistHeaps$Heap"), (cFc, .int)]) [0, 1, 2, 3] rfl
        have hFc := va_free (wc := [(zo4rrir go gR gO (nI lk) gS), (zaI gR cR 8 fR), (zaI gO cO 8 fO), (zo5iiii gS 0 (nI i0) 0 scl), (zo10ririliiriririr sc aTp (nI ts) aHl (nI nh) ed mi sn aHs (nI n) aWk (nI wz) aBk (nI bz) aFc), (zaR aHs cHs 8 fHs), (zaI aFc cFc 6 fFc)]) hD hS hA [1, 2, 3, 4, 5, 6, 7] rfl
        refine va_calli (va_runV (As := [.ref sc, .int (nI j1), .int (nI j2)]) (rest := []) ⟨hx, hb, hml, hown, hts⟩ (c_bestCell l dC dI gd  kA   sc go aTp aHl aHs aWk aBk aFc bW bA bE bC gR gO gS ts nh n wz bz lk cl j1 j2 i0 mi sn sg cdd szz att nmb scl ed cHs cFc cbW cbA cbE cbC cR cO fFc fbW fbA fbE fbC fR fO yk yv yc fHs yi ya tpv cz H.size (zhs) (hn8) (zcl) (zE) (zC) (zyv) (zyc) (by omega) (hj1) (hj2) (zHC) (zyt)) (cwV 3 hts gX11_build_X2_bestCell rfl rfl rfl hd_yX2_bestCell ⟨Nat.le_of_ble_eq_true rfl, Nat.le_of_ble_eq_true rfl⟩) ⟨fun a U g mk q => by obtain ⟨q0, q1, qP, qK, qD, qhG, qhW_, qhN_, qhZ, qhH_⟩ := q; exact ⟨q0, mvz g mk a q1, mvP g mk a qP, mvK g mk a qK, qD, qhG.mv g mk a, qhW_.mv g mk a, qhN_.mv g mk a, qhZ.mv g mk a, qhH_.mv g mk a⟩, va_recv hK hP (ci := 4) (q := (RX2, TX2, 4)) (q0 := 1) rfl rfl, fun U hU hW => ⟨rfl, by rw [hU], by rw [hU]; exact hPc, va_K.moved hW.alike hKc, hDc.weaken (fun _ _ _ _ => trivial), hG.call hS hU hW (fun q h => hFc q h), hW_.call hS hU hW (fun q h => hFc q h), hN_.call hS hU hW (fun q h => hFc q h), (hZ.sub [0, 1, 2, 3, 4] [0, 1, 2, 3] rfl rfl).call hS hU hW (fun q h => hFc q h), hH_.call hS hU hW (fun q h => hFc q h)⟩⟩ rfl rfl hl.1 rfl (lv_room (Nat.le_of_ble_eq_true rfl)) dX11_build_33 ⟨Nat.le_of_ble_eq_true rfl, Nat.le_of_ble_eq_true rfl⟩) hS (fun q _ h => hFc q h) hFc (fun r_6 u tC H1 locs htC hvm hw_7 hB hz1 hk1 hS => ?_)
        obtain ⟨lk9_8, fR9_9, fO9_10, fFc9_11, i09_12, scl9_13⟩ := u
        try dsimp only at hw_7 hB
        obtain ⟨hP1, hK1, hD1⟩ := hB
        rw [htC] at hP1
        have hK1 := va_K.moved hvm.symm hK1
        obtain ⟨hP, hD⟩ := va_join (wr := [(zo13rrirrrr h0 sc kp ik bl go ch bo)]) (w1 := [(zo4rrir go gR gO (nI lk9_8) gS), (zaI gR cR 8 fR9_9), (zaI gO cO 8 fO9_10), (zo5iiii gS 0 (nI i09_12) 0 scl9_13), (zo10ririliiriririr sc aTp (nI ts) aHl (nI nh) ed mi sn aHs (nI n) aWk (nI wz) aBk (nI bz) aFc), (zaR aHs cHs 8 fHs), (zaI aFc cFc 6 fFc9_11)]) hP hD [1, 2, 3, 4, 5, 6, 7] [0] rfl rfl (by decide) (by decide) hk1 hFc hP1 hD1
        have hK := (hK.sub (tys' := []) [] rfl).app hK1
        generalize H1 = H at hP hS ⊢
        have hP : va_P (dC, dI) vwCl [(zo13rrirrrr h0 sc kp ik bl go ch bo), (zo4rrir go gR gO (nI lk9_8) gS), (zaI gR cR 8 fR9_9), (zaI gO cO 8 fO9_10), (zo5iiii gS 0 (nI i09_12) 0 scl9_13), (zo10ririliiriririr sc aTp (nI ts) aHl (nI nh) ed mi sn aHs (nI n) aWk (nI wz) aBk (nI bz) aFc), (zaR aHs cHs 8 fHs), (zaI aFc cFc 6 fFc9_11)] H := hP
        have hD : va_D A [(zo13rrirrrr h0 sc kp ik bl go ch bo), (zo4rrir go gR gO (nI lk9_8) gS), (zaI gR cR 8 fR9_9), (zaI gO cO 8 fO9_10), (zo5iiii gS 0 (nI i09_12) 0 scl9_13), (zo10ririliiriririr sc aTp (nI ts) aHl (nI nh) ed mi sn aHs (nI n) aWk (nI wz) aBk (nI bz) aFc), (zaR aHs cHs 8 fHs), (zaI aFc cFc 6 fFc9_11)] := hD
        have hK : va_K (dC, dI) vwCl [(cR, .int), (cO, .int), (cHs, .object "MistHeaps$Heap"), (cFc, .int)] s := hK
        rcases hw_7 with ⟨h8, rfl, hl9⟩ | ⟨h8, hr9, hl9, hRJ9⟩
        · skip
          refine lv_istore (lv' := [(4, .int (-5)), (0, .ref h0), (1, .int (nI j1)), (2, .int (nI j2)), (3, .int z)]) hx hb dX11_build_36 hl (by decide) rfl (fun ls hl => ?_)
          refine lv_iload hx hb dX11_build_38 (lv_at hl 0 rfl) ?_
          refine lv_bipush (v := (-5)) hx hb dX11_build_40 (by decide) ?_
          refine lv_icmp_eq (tgt := 49) hx hb dX11_build_42 (by decide) (fun _ => ?_) (fun c_14 => absurd c_14 (by decide))
          refine lv_iload hx hb dX11_build_49 (lv_at hl 0 rfl) ?_
          rw [hQ]
          have hP9 := hP.sub (ws' := [(zo13rrirrrr h0 sc kp ik bl go ch bo), (zo4rrir go gR gO (nI lk9_8) gS), (zaI gR cR 8 fR9_9), (zaI gO cO 8 fO9_10), (zo5iiii gS 0 (nI i09_12) 0 scl9_13), (zo10ririliiriririr sc aTp (nI ts) aHl (nI nh) ed mi sn aHs (nI n) aWk (nI wz) aBk (nI bz) aFc), (zaR aHs cHs 8 fHs), (zaI aFc cFc 6 fFc9_11)]) [0, 1, 2, 3, 4, 5, 6, 7] rfl
          have hD9 := hD.sub (ws' := [(zo13rrirrrr h0 sc kp ik bl go ch bo), (zo4rrir go gR gO (nI lk9_8) gS), (zaI gR cR 8 fR9_9), (zaI gO cO 8 fO9_10), (zo5iiii gS 0 (nI i09_12) 0 scl9_13), (zo10ririliiriririr sc aTp (nI ts) aHl (nI nh) ed mi sn aHs (nI n) aWk (nI wz) aBk (nI bz) aFc), (zaR aHs cHs 8 fHs), (zaI aFc cFc 6 fFc9_11)]) [0, 1, 2, 3, 4, 5, 6, 7] (by decide) rfl
          have hK9 := hK.sub (tys' := [(cR, .int), (cO, .int), (cHs, .object "MistHeaps$Heap"), (cFc, .int)]) [0, 1, 2, 3] rfl
          exact W.iret (v := (-5)) hx hb hr (fun tQ htQ hWQ => ⟨⟨(-5), (lk9_8, fR9_9, fO9_10, fFc9_11, i09_12, scl9_13), rfl, ⟨hl9, bd_8 hj1 hj2 (by assumption) (Int32.not_lt.mpr (by assumption)) h8⟩, by rw [htQ]; exact hP9, va_K.moved hWQ.alike hK9, hD9⟩, hS.F htQ⟩) hS.2.2 dX11_build_51
        · skip
          refine lv_istore (lv' := [(4, .int r_6), (0, .ref h0), (1, .int (nI j1)), (2, .int (nI j2)), (3, .int z)]) hx hb dX11_build_36 hl (by decide) rfl (fun ls hl => ?_)
          refine lv_iload hx hb dX11_build_38 (lv_at hl 0 rfl) ?_
          refine lv_bipush (v := (-5)) hx hb dX11_build_40 (by decide) ?_
          refine lv_icmp_eq (tgt := 49) hx hb dX11_build_42 (by decide) (fun c_15 => ?_) (fun c_15 => ?_)
          · skip
            refine lv_iload hx hb dX11_build_49 (lv_at hl 0 rfl) ?_
            rw [hQ]
            have hP9 := hP.sub (ws' := [(zo13rrirrrr h0 sc kp ik bl go ch bo), (zo4rrir go gR gO (nI lk9_8) gS), (zaI gR cR 8 fR9_9), (zaI gO cO 8 fO9_10), (zo5iiii gS 0 (nI i09_12) 0 scl9_13), (zo10ririliiriririr sc aTp (nI ts) aHl (nI nh) ed mi sn aHs (nI n) aWk (nI wz) aBk (nI bz) aFc), (zaR aHs cHs 8 fHs), (zaI aFc cFc 6 fFc9_11)]) [0, 1, 2, 3, 4, 5, 6, 7] rfl
            have hD9 := hD.sub (ws' := [(zo13rrirrrr h0 sc kp ik bl go ch bo), (zo4rrir go gR gO (nI lk9_8) gS), (zaI gR cR 8 fR9_9), (zaI gO cO 8 fO9_10), (zo5iiii gS 0 (nI i09_12) 0 scl9_13), (zo10ririliiriririr sc aTp (nI ts) aHl (nI nh) ed mi sn aHs (nI n) aWk (nI wz) aBk (nI bz) aFc), (zaR aHs cHs 8 fHs), (zaI aFc cFc 6 fFc9_11)]) [0, 1, 2, 3, 4, 5, 6, 7] (by decide) rfl
            have hK9 := hK.sub (tys' := [(cR, .int), (cO, .int), (cHs, .object "MistHeaps$Heap"), (cFc, .int)]) [0, 1, 2, 3] rfl
            exact W.iret (v := r_6) hx hb hr (fun tQ htQ hWQ => ⟨⟨r_6, (lk9_8, fR9_9, fO9_10, fFc9_11, i09_12, scl9_13), rfl, ⟨hl9, bd_ax hj1 hj2 (by assumption) (Int32.not_lt.mpr (by assumption)) (by omega) hr9 (Or.inl c_15)⟩, by rw [htQ]; exact hP9, va_K.moved hWQ.alike hK9, hD9⟩, hS.F htQ⟩) hS.2.2 dX11_build_51
          · skip
            refine lv_iload_n hx hb dX11_build_45 rfl (lv_at hl 4 rfl) ?_
            refine lv_if_ne (tgt := 52) hx hb dX11_build_46 (by decide) (fun c_16 => ?_) (fun c_16 => ?_)
            · skip
              have hr8 := hr9
              obtain ⟨c9, hc9, eC, eT⟩ := bd_cell rfl hr9 c_15
              have hE9 := (eT.symm.trans (bd_bx hj1 hj2 (by assumption) (Int32.not_lt.mpr (by assumption)) (by omega) hr9 c_15 c_16))
              subst eC
              refine lv_aload_n hx hb dX11_build_52 rfl (lv_at hl 1 rfl) ?_
              refine va_get (D := (dC, dI)) (ci := 13) (v := .ref go) (C := RX11) (T := TX11) (N := 7) hx hb hts kc_xBuild_0 hown hK hP 0 rfl rfl 4 (by decide) (hts (.fieldLink RX11 35 "MistHeaps" "goings" "LMistHeaps$Goings;") kc_xBuild_2) (fun _ h9 => h9) rfl dX11_build_53 ?_
              refine lv_aload_n hx hb dX11_build_56 rfl (lv_at hl 1 rfl) ?_
              refine va_get (D := (dC, dI)) (ci := 13) (v := .ref sc) (C := RX11) (T := TX11) (N := 7) hx hb hts kc_xBuild_0 hown hK hP 0 rfl rfl 0 (by decide) (hts (.fieldLink RX11 14 "MistHeaps" "scene" "LMistHeaps$Scene;") kc_xBuild_1) (fun _ h9 => h9) rfl dX11_build_57 ?_
              refine lv_iload hx hb dX11_build_60 (lv_at hl 0 rfl) ?_
              have hPc := hP.sub (ws' := [(zo4rrir go gR gO (nI lk9_8) gS), (zaI gR cR 8 fR9_9), (zaI gO cO 8 fO9_10), (zo5iiii gS 0 (nI i09_12) 0 scl9_13), (zo10ririliiriririr sc aTp (nI ts) aHl (nI nh) ed mi sn aHs (nI n) aWk (nI wz) aBk (nI bz) aFc), (zaR aHs cHs 8 fHs), (zaI aFc cFc 6 fFc9_11)]) [1, 2, 3, 4, 5, 6, 7] rfl
              have hDc := hD.sub (ws' := [(zo4rrir go gR gO (nI lk9_8) gS), (zaI gR cR 8 fR9_9), (zaI gO cO 8 fO9_10), (zo5iiii gS 0 (nI i09_12) 0 scl9_13), (zo10ririliiriririr sc aTp (nI ts) aHl (nI nh) ed mi sn aHs (nI n) aWk (nI wz) aBk (nI bz) aFc), (zaR aHs cHs 8 fHs), (zaI aFc cFc 6 fFc9_11)]) [1, 2, 3, 4, 5, 6, 7] (by decide) rfl
              have hKc := hK.sub (tys' := [(cR, .int), (cO, .int), (cHs, .object "MistHeaps$Heap"), (cFc, .int)]) [0, 1, 2, 3] rfl
              have hFc := va_free (wc := [(zo4rrir go gR gO (nI lk9_8) gS), (zaI gR cR 8 fR9_9), (zaI gO cO 8 fO9_10), (zo5iiii gS 0 (nI i09_12) 0 scl9_13), (zo10ririliiriririr sc aTp (nI ts) aHl (nI nh) ed mi sn aHs (nI n) aWk (nI wz) aBk (nI bz) aFc), (zaR aHs cHs 8 fHs), (zaI aFc cFc 6 fFc9_11)]) hD hS hA [1, 2, 3, 4, 5, 6, 7] rfl
              refine va_callv (va_runV (As := [.ref sc, .int (nI c9)]) (rest := []) ⟨hx, hb, hml, hown, hts⟩ (c_join l dC dI gd  kA   sc go aTp aHl aHs aWk aBk aFc bW bA bE bC gR gO gS ts nh n wz bz lk9_8 cl c9 i09_12 mi sn sg cdd szz att nmb scl9_13 ed cHs cFc cbW cbA cbE cbC cR cO fFc9_11 fbW fbA fbE fbC fR9_9 fO9_10 yk yv yc fHs yi ya tpv cz H.size (zhs) (hn8) (zcl) (zE) (zC) (zyv) (zyc) (by omega) (by omega) (hRJ9) (zHC) (zyt)) (cwV 2 hts gX11_build_X2_join rfl rfl rfl hd_yX2_join ⟨Nat.le_of_ble_eq_true rfl, Nat.le_of_ble_eq_true rfl⟩) ⟨fun a U g mk q => by obtain ⟨q0, q1, qP, qK, qD, qhG, qhW_, qhN_, qhZ, qhH_⟩ := q; exact ⟨q0, mvz g mk a q1, mvP g mk a qP, mvK g mk a qK, qD, qhG.mv g mk a, qhW_.mv g mk a, qhN_.mv g mk a, qhZ.mv g mk a, qhH_.mv g mk a⟩, va_recv hK hP (ci := 4) (q := (RX2, TX2, 4)) (q0 := 1) rfl rfl, fun U hU hW => ⟨rfl, by rw [hU], by rw [hU]; exact hPc, va_K.moved hW.alike hKc, hDc.weaken (fun _ _ _ _ => trivial), hG.call hS hU hW (fun q h => hFc q h), hW_.call hS hU hW (fun q h => hFc q h), hN_.call hS hU hW (fun q h => hFc q h), (hZ.sub [0, 1, 2, 3, 4] [0, 1, 2, 3] rfl rfl).call hS hU hW (fun q h => hFc q h), hH_.call hS hU hW (fun q h => hFc q h)⟩⟩ rfl rfl hl.1 rfl (lv_room (Nat.le_of_ble_eq_true rfl)) dX11_build_62 ⟨Nat.le_of_ble_eq_true rfl, Nat.le_of_ble_eq_true rfl⟩) hS (fun q _ h => hFc q h) hFc (fun u tC H1 locs htC hvm hw_18 hB hz1 hk1 hS => ?_)
              obtain ⟨lk9_19, fR9_20, fO9_21, fFc9_22, i09_23, scl9_24⟩ := u
              try dsimp only at hw_18 hB
              obtain ⟨hP1, hK1, hD1⟩ := hB
              rw [htC] at hP1
              have hK1 := va_K.moved hvm.symm hK1
              obtain ⟨hP, hD⟩ := va_join (wr := [(zo13rrirrrr h0 sc kp ik bl go ch bo)]) (w1 := [(zo4rrir go gR gO (nI lk9_19) gS), (zaI gR cR 8 fR9_20), (zaI gO cO 8 fO9_21), (zo5iiii gS 0 (nI i09_23) 0 scl9_24), (zo10ririliiriririr sc aTp (nI ts) aHl (nI nh) ed mi sn aHs (nI n) aWk (nI wz) aBk (nI bz) aFc), (zaR aHs cHs 8 fHs), (zaI aFc cFc 6 fFc9_22)]) hP hD [1, 2, 3, 4, 5, 6, 7] [0] rfl rfl (by decide) (by decide) hk1 hFc hP1 hD1
              have hK := (hK.sub (tys' := []) [] rfl).app hK1
              generalize H1 = H at hP hS ⊢
              have hP : va_P (dC, dI) vwCl [(zo13rrirrrr h0 sc kp ik bl go ch bo), (zo4rrir go gR gO (nI lk9_19) gS), (zaI gR cR 8 fR9_20), (zaI gO cO 8 fO9_21), (zo5iiii gS 0 (nI i09_23) 0 scl9_24), (zo10ririliiriririr sc aTp (nI ts) aHl (nI nh) ed mi sn aHs (nI n) aWk (nI wz) aBk (nI bz) aFc), (zaR aHs cHs 8 fHs), (zaI aFc cFc 6 fFc9_22)] H := hP
              have hD : va_D A [(zo13rrirrrr h0 sc kp ik bl go ch bo), (zo4rrir go gR gO (nI lk9_19) gS), (zaI gR cR 8 fR9_20), (zaI gO cO 8 fO9_21), (zo5iiii gS 0 (nI i09_23) 0 scl9_24), (zo10ririliiriririr sc aTp (nI ts) aHl (nI nh) ed mi sn aHs (nI n) aWk (nI wz) aBk (nI bz) aFc), (zaR aHs cHs 8 fHs), (zaI aFc cFc 6 fFc9_22)] := hD
              have hK : va_K (dC, dI) vwCl [(cR, .int), (cO, .int), (cHs, .object "MistHeaps$Heap"), (cFc, .int)] s := hK
              obtain ⟨elk, hRJ9, hrJ⟩ := hw_18
              obtain rfl := elk.symm
              refine lv_aload_n hx hb dX11_build_65 rfl (lv_at hl 1 rfl) ?_
              refine va_get (D := (dC, dI)) (ci := 13) (v := .ref go) (C := RX11) (T := TX11) (N := 7) hx hb hts kc_xBuild_0 hown hK hP 0 rfl rfl 4 (by decide) (hts (.fieldLink RX11 35 "MistHeaps" "goings" "LMistHeaps$Goings;") kc_xBuild_2) (fun _ h9 => h9) rfl dX11_build_66 ?_
              refine lv_iload_n hx hb dX11_build_69 rfl (lv_at hl 2 rfl) ?_
              refine lv_iload_n hx hb dX11_build_70 rfl (lv_at hl 3 rfl) ?_
              refine lv_iconst (v := 0) hx hb dX11_build_71 (by decide) ?_
              have hPc := hP.sub (ws' := [(zo4rrir go gR gO (nI (n + 1)) gS), (zaI gO cO 8 fO9_21)]) [1, 3] rfl
              have hKc := hK.sub (tys' := [(cO, .int)]) [1] rfl
              refine vp_callSi (va_runV (As := [.int (nI j1), .int (nI j2), .int 0]) (rest := []) ⟨hx, hb, hml, hown, hts⟩ (c_fewest l dC dI go gR gO gS (n + 1) (nI j1) (nI j2) 0 cO fO9_21 (by omega)) (cwV 3 hts gX11_build_X2_fewest rfl rfl rfl hd_yX2_fewest ⟨Nat.le_of_ble_eq_true rfl, Nat.le_of_ble_eq_true rfl⟩) ⟨fun a U g mk q => by obtain ⟨q0, qP, qK⟩ := q; exact ⟨q0, mvP g mk a qP, mvK g mk a qK⟩, va_recv hK hP (ci := 4) (q := (RX2, TX2, 4)) (q0 := 1) rfl rfl, fun U hU hW => ⟨rfl, by rw [hU]; exact hPc, va_K.moved hW.alike hKc⟩⟩ rfl rfl hl.1 rfl (lv_room (Nat.le_of_ble_eq_true rfl)) dX11_build_72 ⟨Nat.le_of_ble_eq_true rfl, Nat.le_of_ble_eq_true rfl⟩).run (fun r_25 hw_26 => ?_)
              obtain rfl := hw_26
              rw [hQ]
              have hP9 := hP.sub (ws' := [(zo13rrirrrr h0 sc kp ik bl go ch bo), (zo4rrir go gR gO (nI (n + 1)) gS), (zaI gR cR 8 fR9_20), (zaI gO cO 8 fO9_21), (zo5iiii gS 0 (nI i09_23) 0 scl9_24), (zo10ririliiriririr sc aTp (nI ts) aHl (nI nh) ed mi sn aHs (nI n) aWk (nI wz) aBk (nI bz) aFc), (zaR aHs cHs 8 fHs), (zaI aFc cFc 6 fFc9_22)]) [0, 1, 2, 3, 4, 5, 6, 7] rfl
              have hD9 := hD.sub (ws' := [(zo13rrirrrr h0 sc kp ik bl go ch bo), (zo4rrir go gR gO (nI (n + 1)) gS), (zaI gR cR 8 fR9_20), (zaI gO cO 8 fO9_21), (zo5iiii gS 0 (nI i09_23) 0 scl9_24), (zo10ririliiriririr sc aTp (nI ts) aHl (nI nh) ed mi sn aHs (nI n) aWk (nI wz) aBk (nI bz) aFc), (zaR aHs cHs 8 fHs), (zaI aFc cFc 6 fFc9_22)]) [0, 1, 2, 3, 4, 5, 6, 7] (by decide) rfl
              have hK9 := hK.sub (tys' := [(cR, .int), (cO, .int), (cHs, .object "MistHeaps$Heap"), (cFc, .int)]) [0, 1, 2, 3] rfl
              exact W.iret (v := fwR fO9_21 (n + 1) (nI j1) (nI j2) 0) hx hb hr (fun tQ htQ hWQ => ⟨⟨(fwR fO9_21 (n + 1) (nI j1) (nI j2) 0), ((n + 1), fR9_20, fO9_21, fFc9_22, i09_23, scl9_24), rfl, ⟨by omega, (bd_X h8 hj1 hj2 hrJ).trans hE9⟩, by rw [htQ]; exact hP9, va_K.moved hWQ.alike hK9, hD9⟩, hS.F htQ⟩) hS.2.2 dX11_build_75
            · skip
              refine lv_iload hx hb dX11_build_49 (lv_at hl 0 rfl) ?_
              rw [hQ]
              have hP9 := hP.sub (ws' := [(zo13rrirrrr h0 sc kp ik bl go ch bo), (zo4rrir go gR gO (nI lk9_8) gS), (zaI gR cR 8 fR9_9), (zaI gO cO 8 fO9_10), (zo5iiii gS 0 (nI i09_12) 0 scl9_13), (zo10ririliiriririr sc aTp (nI ts) aHl (nI nh) ed mi sn aHs (nI n) aWk (nI wz) aBk (nI bz) aFc), (zaR aHs cHs 8 fHs), (zaI aFc cFc 6 fFc9_11)]) [0, 1, 2, 3, 4, 5, 6, 7] rfl
              have hD9 := hD.sub (ws' := [(zo13rrirrrr h0 sc kp ik bl go ch bo), (zo4rrir go gR gO (nI lk9_8) gS), (zaI gR cR 8 fR9_9), (zaI gO cO 8 fO9_10), (zo5iiii gS 0 (nI i09_12) 0 scl9_13), (zo10ririliiriririr sc aTp (nI ts) aHl (nI nh) ed mi sn aHs (nI n) aWk (nI wz) aBk (nI bz) aFc), (zaR aHs cHs 8 fHs), (zaI aFc cFc 6 fFc9_11)]) [0, 1, 2, 3, 4, 5, 6, 7] (by decide) rfl
              have hK9 := hK.sub (tys' := [(cR, .int), (cO, .int), (cHs, .object "MistHeaps$Heap"), (cFc, .int)]) [0, 1, 2, 3] rfl
              exact W.iret (v := r_6) hx hb hr (fun tQ htQ hWQ => ⟨⟨r_6, (lk9_8, fR9_9, fO9_10, fFc9_11, i09_12, scl9_13), rfl, ⟨hl9, bd_ax hj1 hj2 (by assumption) (Int32.not_lt.mpr (by assumption)) (by omega) hr9 (Or.inr c_16)⟩, by rw [htQ]; exact hP9, va_K.moved hWQ.alike hK9, hD9⟩, hS.F htQ⟩) hS.2.2 dX11_build_51
      · skip
        refine lv_iconst (v := (-1)) hx hb dX11_build_21 (by decide) ?_
        rw [hQ]
        have hP9 := hP.sub (ws' := [(zo13rrirrrr h0 sc kp ik bl go ch bo), (zo4rrir go gR gO (nI lk) gS), (zaI gR cR 8 fR), (zaI gO cO 8 fO), (zo5iiii gS 0 (nI i0) 0 scl), (zo10ririliiriririr sc aTp (nI ts) aHl (nI nh) ed mi sn aHs (nI n) aWk (nI wz) aBk (nI bz) aFc), (zaR aHs cHs 8 fHs), (zaI aFc cFc 6 fFc)]) [0, 1, 2, 3, 4, 5, 6, 7] rfl
        have hD9 := hD.sub (ws' := [(zo13rrirrrr h0 sc kp ik bl go ch bo), (zo4rrir go gR gO (nI lk) gS), (zaI gR cR 8 fR), (zaI gO cO 8 fO), (zo5iiii gS 0 (nI i0) 0 scl), (zo10ririliiriririr sc aTp (nI ts) aHl (nI nh) ed mi sn aHs (nI n) aWk (nI wz) aBk (nI bz) aFc), (zaR aHs cHs 8 fHs), (zaI aFc cFc 6 fFc)]) [0, 1, 2, 3, 4, 5, 6, 7] (by decide) rfl
        have hK9 := hK.sub (tys' := [(cR, .int), (cO, .int), (cHs, .object "MistHeaps$Heap"), (cFc, .int)]) [0, 1, 2, 3] rfl
        exact W.iret (v := (-1)) hx hb hr (fun tQ htQ hWQ => ⟨⟨(-1), (lk, fR, fO, fFc, i0, scl), rfl, ⟨hlk, by first | exact hno.elim bd_no1 bd_no2 | exact bd_no3 (by first | exact Or.inl (by assumption) | exact Or.inr (Int32.not_le.mp (by assumption)))⟩, by rw [htQ]; exact hP9, va_K.moved hWQ.alike hK9, hD9⟩, hS.F htQ⟩) hS.2.2 dX11_build_22
  · skip
    refine lv_if_eq (tgt := 21) hx hb dX11_build_9 (by decide) (fun _ => ?_) (fun c_27 => absurd c_27 (by decide))
    refine lv_iconst (v := (-1)) hx hb dX11_build_21 (by decide) ?_
    rw [hQ]
    have hP9 := hP.sub (ws' := [(zo13rrirrrr h0 sc kp ik bl go ch bo), (zo4rrir go gR gO (nI lk) gS), (zaI gR cR 8 fR), (zaI gO cO 8 fO), (zo5iiii gS 0 (nI i0) 0 scl), (zo10ririliiriririr sc aTp (nI ts) aHl (nI nh) ed mi sn aHs (nI n) aWk (nI wz) aBk (nI bz) aFc), (zaR aHs cHs 8 fHs), (zaI aFc cFc 6 fFc)]) [0, 1, 2, 3, 4, 5, 6, 7] rfl
    have hD9 := hD.sub (ws' := [(zo13rrirrrr h0 sc kp ik bl go ch bo), (zo4rrir go gR gO (nI lk) gS), (zaI gR cR 8 fR), (zaI gO cO 8 fO), (zo5iiii gS 0 (nI i0) 0 scl), (zo10ririliiriririr sc aTp (nI ts) aHl (nI nh) ed mi sn aHs (nI n) aWk (nI wz) aBk (nI bz) aFc), (zaR aHs cHs 8 fHs), (zaI aFc cFc 6 fFc)]) [0, 1, 2, 3, 4, 5, 6, 7] (by decide) rfl
    have hK9 := hK.sub (tys' := [(cR, .int), (cO, .int), (cHs, .object "MistHeaps$Heap"), (cFc, .int)]) [0, 1, 2, 3] rfl
    exact W.iret (v := (-1)) hx hb hr (fun tQ htQ hWQ => ⟨⟨(-1), (lk, fR, fO, fFc, i0, scl), rfl, ⟨hlk, by first | exact hno.elim bd_no1 bd_no2 | exact bd_no3 (by first | exact Or.inl (by assumption) | exact Or.inr (Int32.not_le.mp (by assumption)))⟩, by rw [htQ]; exact hP9, va_K.moved hWQ.alike hK9, hD9⟩, hS.F htQ⟩) hS.2.2 dX11_build_22

theorem kc_xDrift_0 : ∀ w ∈ wsX110, w ∈ wsX11_drift := fun w h => List.mem_cons_of_mem _ (gin_wsX110 w h)
theorem kc_xDrift_1 : (.fieldLink RX11 14 "MistHeaps" "scene" "LMistHeaps$Scene;" : Cond) ∈ wsX11_drift := kc_of 328 rfl rfl rfl
set_option maxHeartbeats 4000000 in
set_option maxRecDepth 100000 in
theorem c_xDrift (l : Launch) (dC : Nat → ClassId) (dI : Nat → Nat → Nat) (gd : Nat → Nat)  (h0 : Nat) (sc : Nat) (kp : Nat) (bl : Nat) (go : Nat) (ch : Nat) (bo : Nat) (aTp : Nat) (aHl : Nat) (aHs : Nat) (aWk : Nat) (aBk : Nat) (aFc : Nat) (bW : Nat) (bA : Nat) (bE : Nat) (bC : Nat) (ts : Nat) (nh : Nat) (n : Nat) (wz : Nat) (bz : Nat) (cl : Nat) (mi : Int32) (sn : Int32) (sg : Int32) (cdd : Int32) (szz : Int32) (att : Int32) (nmb : Int32) (ik : Int32) (x : Int32) (ed : Int64) (cFc : ClassId) (cbW : ClassId) (cbA : ClassId) (cbE : ClassId) (cbC : ClassId) (fFc : Nat → Int32) (fbW : Nat → Int32) (fbA : Nat → Int32) (fbE : Nat → Int32) (fbC : Nat → Int32) (tpv : Value) (cz : List pCla) (sz : Nat) (zcl : cl ≤ 10) (zE : ∀ k0, k0 < 10 → ∃ e0 : Nat, e0 ≤ 100 ∧ fbE k0 = nI e0) (zC : ∀ k0, k0 < 100 → okC (fbC k0)) (zHC : HC cl sg fbW fbA fbE fbC cz ∧ WfC cz) : Met l yX11_drift wsX11_drift ({ frames := 4, cells := 0, slots := 0, locals := 94 } : Room) (va_Pc [.ref h0, .int x] (fun U => U.heap.size = sz ∧ va_P (dC, dI) vwCl [(zo13rrirrrr h0 sc kp ik bl go ch bo), (zo10ririliiriririr sc aTp (nI ts) aHl (nI nh) ed mi sn aHs (nI n) aWk (nI wz) aBk (nI bz) aFc), (zaI aFc cFc 6 fFc)] U.heap ∧ va_K (dC, dI) vwCl [(cFc, .int)] U ∧ va_D (fun _ => True) [(zo13rrirrrr h0 sc kp ik bl go ch bo), (zo10ririliiriririr sc aTp (nI ts) aHl (nI nh) ed mi sn aHs (nI n) aWk (nI wz) aBk (nI bz) aFc), (zaI aFc cFc 6 fFc)] ∧ Gl gd (va_A [(zo13rrirrrr h0 sc kp ik bl go ch bo), (zo10ririliiriririr sc aTp (nI ts) aHl (nI nh) ed mi sn aHs (nI n) aWk (nI wz) aBk (nI bz) aFc), (zaI aFc cFc 6 fFc)] sz) U ∧ Fz dC dI [(zo7iirrrriviii aHl sg (nI cl) bW bA bE bC cdd tpv szz att nmb), (zaI bW cbW 10 fbW), (zaI bA cbA 10 fbA), (zaI bE cbE 10 fbE), (zaI bC cbC 100 fbC)] [(cbW, .int), (cbA, .int), (cbE, .int), (cbC, .int)] (va_A [(zo13rrirrrr h0 sc kp ik bl go ch bo), (zo10ririliiriririr sc aTp (nI ts) aHl (nI nh) ed mi sn aHs (nI n) aWk (nI wz) aBk (nI bz) aFc), (zaI aFc cFc 6 fFc)] sz) U)) (va_Qi (fun (r : Int32) (u : Nat → Int32) => match u with | fFc9 => r = drR cz mi sn x) (fun (u : Nat → Int32) (t : State) => match u with | fFc9 => va_P (dC, dI) vwCl [(zo13rrirrrr h0 sc kp ik bl go ch bo), (zo10ririliiriririr sc aTp (nI ts) aHl (nI nh) ed mi sn aHs (nI n) aWk (nI wz) aBk (nI bz) aFc), (zaI aFc cFc 6 fFc9)] t.heap ∧ va_K (dC, dI) vwCl [(cFc, .int)] t ∧ va_D (va_A [(zo13rrirrrr h0 sc kp ik bl go ch bo), (zo10ririliiriririr sc aTp (nI ts) aHl (nI nh) ed mi sn aHs (nI n) aWk (nI wz) aBk (nI bz) aFc), (zaI aFc cFc 6 fFc)] sz) [(zo13rrirrrr h0 sc kp ik bl go ch bo), (zo10ririliiriririr sc aTp (nI ts) aHl (nI nh) ed mi sn aHs (nI n) aWk (nI wz) aBk (nI bz) aFc), (zaI aFc cFc 6 fFc9)]) (va_A [(zo13rrirrrr h0 sc kp ik bl go ch bo), (zo10ririliiriririr sc aTp (nI ts) aHl (nI nh) ed mi sn aHs (nI n) aWk (nI wz) aBk (nI bz) aFc), (zaI aFc cFc 6 fFc)] sz)) 0 0 (va_A [(zo13rrirrrr h0 sc kp ik bl go ch bo), (zo10ririliiriririr sc aTp (nI ts) aHl (nI nh) ed mi sn aHs (nI n) aWk (nI wz) aBk (nI bz) aFc), (zaI aFc cFc 6 fFc)] sz) := by
  refine met_ofQ (cc := cX11_drift) (maxL := 2) (ret := (some .int)) (by decide) rfl ?_
  intro p e s m args below meth c s₁ Q B hml hv hQ
  obtain ⟨rfl, hsz, hP, hK, hD0, hG, hZ⟩ := hv
  have hx := B.exec
  have hb := B.bytes
  have hr := B.returns
  have hts := atoms_spec (ws := wsX11_drift) B.pre
  have hown : s.vm.findClass RX11 = some m.cls := findClass_of_methodNamed B.named
  have hlocks := B.notSynchronized
  subst hsz
  have hD := hD0.self (sz := s.heap.size)
  generalize hAe : va_A [(zo13rrirrrr h0 sc kp ik bl go ch bo), (zo10ririliiriririr sc aTp (nI ts) aHl (nI nh) ed mi sn aHs (nI n) aWk (nI wz) aBk (nI bz) aFc), (zaI aFc cFc 6 fFc)] s.heap.size = A at hD hQ hG hZ ⊢
  have hA : ∀ q : Nat, s.heap.size ≤ q → A q := fun q h => by rw [← hAe]; exact Or.inr h
  have hS : va_S A s.heap s.heap [] := va_S.rf
  have hl := lv_entry [.ref h0, .int x] (n := 2) (Nat.le_of_ble_eq_true rfl)
  rw [lg_entry_eq]
  generalize (lg_sl [.ref h0, .int x] ++ List.replicate (2 - (lg_sl [.ref h0, .int x]).length) Slot.unset).toArray = ls at hl ⊢
  generalize hag : ([.ref h0, .int x] : List Value).toArray = args at hts hQ ⊢
  have hl : lv_has ls 2 [(0, .ref h0), (1, .int x)] := hl
  obtain ⟨H, hH⟩ : ∃ H : Heap, H = s.heap := ⟨_, rfl⟩
  rw [← hH] at hP
  rw [← hH]
  have hS : va_S A s.heap H [] := by rw [hH]; exact hS
  obtain ⟨locs, hlo⟩ : ∃ L : List Loc, L = [] := ⟨_, rfl⟩
  rw [← hlo] at hS
  rw [← hlo]
  clear hH hlo
  refine lv_iload_n hx hb dX11_drift_0 rfl (lv_at hl 1 rfl) ?_
  refine vp_callSi (va_runS (As := [.int x]) (rest := []) ⟨hx, hb, hml, hown, hts⟩ (c_xCell l dC dI x) (va_cwS 1 hts gX11_drift_X11_isCell rfl rfl rfl hd_yX11_isCell.2 ⟨Nat.le_of_ble_eq_true rfl, Nat.le_of_ble_eq_true rfl⟩) ⟨fun a U g mk q => ⟨q.1, trivial⟩, fun U hU hW => ⟨rfl, trivial⟩⟩ rfl rfl hl.1 rfl (lv_room (Nat.le_of_ble_eq_true rfl)) dX11_drift_1 ⟨Nat.le_of_ble_eq_true rfl, Nat.le_of_ble_eq_true rfl⟩).run (fun r_1 hw_2 => ?_)
  rcases hw_2 with ⟨rfl, j_3, hj_4, rfl⟩ | ⟨rfl, h_5⟩
  · skip
    refine lv_if_eq (tgt := 18) hx hb dX11_drift_4 (by decide) (fun c_6 => absurd c_6 (by decide)) (fun _ => ?_)
    refine lv_aload_n hx hb dX11_drift_7 rfl (lv_at hl 0 rfl) ?_
    refine va_get (D := (dC, dI)) (ci := 13) (v := .ref sc) (C := RX11) (T := TX11) (N := 7) hx hb hts kc_xDrift_0 hown hK hP 0 rfl rfl 0 (by decide) (hts (.fieldLink RX11 14 "MistHeaps" "scene" "LMistHeaps$Scene;") kc_xDrift_1) (fun _ h9 => h9) rfl dX11_drift_8 ?_
    refine lv_iload_n hx hb dX11_drift_11 rfl (lv_at hl 1 rfl) ?_
    have hPc := hP.sub (ws' := [(zo10ririliiriririr sc aTp (nI ts) aHl (nI nh) ed mi sn aHs (nI n) aWk (nI wz) aBk (nI bz) aFc), (zaI aFc cFc 6 fFc)]) [1, 2] rfl
    have hDc := hD.sub (ws' := [(zo10ririliiriririr sc aTp (nI ts) aHl (nI nh) ed mi sn aHs (nI n) aWk (nI wz) aBk (nI bz) aFc), (zaI aFc cFc 6 fFc)]) [1, 2] (by decide) rfl
    have hKc := hK.sub (tys' := [(cFc, .int)]) [0] rfl
    have hFc := va_free (wc := [(zo10ririliiriririr sc aTp (nI ts) aHl (nI nh) ed mi sn aHs (nI n) aWk (nI wz) aBk (nI bz) aFc), (zaI aFc cFc 6 fFc)]) hD hS hA [1, 2] rfl
    refine va_calli (va_runV (As := [.int (nI j_3)]) (rest := []) ⟨hx, hb, hml, hown, hts⟩ (c_xDriftOn l dC dI gd  sc aTp aHl aHs aWk aBk aFc bW bA bE bC ts nh n wz bz cl mi sn sg cdd szz att nmb (nI j_3) ed cFc cbW cbA cbE cbC fFc fbW fbA fbE fbC tpv cz H.size (zcl) (zE) (zC) (zHC)) (cwV 1 hts gX11_drift_X8_driftOn rfl rfl rfl hd_yX8_driftOn ⟨Nat.le_of_ble_eq_true rfl, Nat.le_of_ble_eq_true rfl⟩) ⟨fun a U g mk q => by obtain ⟨q0, q1, qP, qK, qD, qhG, qhZ⟩ := q; exact ⟨q0, mvz g mk a q1, mvP g mk a qP, mvK g mk a qK, qD, qhG.mv g mk a, qhZ.mv g mk a⟩, va_recv hK hP (ci := 10) (q := (RX8, TX8, 14)) (q0 := 1) rfl rfl, fun U hU hW => ⟨rfl, by rw [hU], by rw [hU]; exact hPc, va_K.moved hW.alike hKc, hDc.weaken (fun _ _ _ _ => trivial), hG.call hS hU hW (fun q h => hFc q h), (hZ.sub [0, 1, 2, 3, 4] [0, 1, 2, 3] rfl rfl).call hS hU hW (fun q h => hFc q h)⟩⟩ rfl rfl hl.1 rfl (lv_room (Nat.le_of_ble_eq_true rfl)) dX11_drift_12 ⟨Nat.le_of_ble_eq_true rfl, Nat.le_of_ble_eq_true rfl⟩) hS (fun q _ h => hFc q h) hFc (fun r_7 u tC H1 locs htC hvm hw_8 hB hz1 hk1 hS => ?_)
    obtain ⟨fFc9_9, rfl⟩ : ∃ z, z = u := ⟨_, rfl⟩
    try dsimp only at hw_8 hB
    obtain ⟨hP1, hK1, hD1⟩ := hB
    rw [htC] at hP1
    have hK1 := va_K.moved hvm.symm hK1
    obtain ⟨hP, hD⟩ := va_join (wr := [(zo13rrirrrr h0 sc kp ik bl go ch bo)]) (w1 := [(zo10ririliiriririr sc aTp (nI ts) aHl (nI nh) ed mi sn aHs (nI n) aWk (nI wz) aBk (nI bz) aFc), (zaI aFc cFc 6 fFc9_9)]) hP hD [1, 2] [0] rfl rfl (by decide) (by decide) hk1 hFc hP1 hD1
    have hK := (hK.sub (tys' := []) [] rfl).app hK1
    generalize H1 = H at hP hS ⊢
    have hP : va_P (dC, dI) vwCl [(zo13rrirrrr h0 sc kp ik bl go ch bo), (zo10ririliiriririr sc aTp (nI ts) aHl (nI nh) ed mi sn aHs (nI n) aWk (nI wz) aBk (nI bz) aFc), (zaI aFc cFc 6 fFc9_9)] H := hP
    have hD : va_D A [(zo13rrirrrr h0 sc kp ik bl go ch bo), (zo10ririliiriririr sc aTp (nI ts) aHl (nI nh) ed mi sn aHs (nI n) aWk (nI wz) aBk (nI bz) aFc), (zaI aFc cFc 6 fFc9_9)] := hD
    have hK : va_K (dC, dI) vwCl [(cFc, .int)] s := hK
    obtain rfl := hw_8
    refine lv_goto (tgt := 19) hx hb dX11_drift_15 (by decide) ?_
    rw [hQ]
    have hP9 := hP.sub (ws' := [(zo13rrirrrr h0 sc kp ik bl go ch bo), (zo10ririliiriririr sc aTp (nI ts) aHl (nI nh) ed mi sn aHs (nI n) aWk (nI wz) aBk (nI bz) aFc), (zaI aFc cFc 6 fFc9_9)]) [0, 1, 2] rfl
    have hD9 := hD.sub (ws' := [(zo13rrirrrr h0 sc kp ik bl go ch bo), (zo10ririliiriririr sc aTp (nI ts) aHl (nI nh) ed mi sn aHs (nI n) aWk (nI wz) aBk (nI bz) aFc), (zaI aFc cFc 6 fFc9_9)]) [0, 1, 2] (by decide) rfl
    have hK9 := hK.sub (tys' := [(cFc, .int)]) [0] rfl
    exact W.iret (v := DRV cz mi sn (nI j_3)) hx hb hr (fun tQ htQ hWQ => ⟨⟨(DRV cz mi sn (nI j_3)), fFc9_9, rfl, drR_x (by omega), by rw [htQ]; exact hP9, va_K.moved hWQ.alike hK9, hD9⟩, hS.F htQ⟩) hS.2.2 dX11_drift_19
  · skip
    refine lv_if_eq (tgt := 18) hx hb dX11_drift_4 (by decide) (fun _ => ?_) (fun c_10 => absurd c_10 (by decide))
    refine lv_iconst (v := (-1)) hx hb dX11_drift_18 (by decide) ?_
    rw [hQ]
    have hP9 := hP.sub (ws' := [(zo13rrirrrr h0 sc kp ik bl go ch bo), (zo10ririliiriririr sc aTp (nI ts) aHl (nI nh) ed mi sn aHs (nI n) aWk (nI wz) aBk (nI bz) aFc), (zaI aFc cFc 6 fFc)]) [0, 1, 2] rfl
    have hD9 := hD.sub (ws' := [(zo13rrirrrr h0 sc kp ik bl go ch bo), (zo10ririliiriririr sc aTp (nI ts) aHl (nI nh) ed mi sn aHs (nI n) aWk (nI wz) aBk (nI bz) aFc), (zaI aFc cFc 6 fFc)]) [0, 1, 2] (by decide) rfl
    have hK9 := hK.sub (tys' := [(cFc, .int)]) [0] rfl
    exact W.iret (v := (-1)) hx hb hr (fun tQ htQ hWQ => ⟨⟨(-1), fFc, rfl, drR_no (cell_no (by assumption)), by rw [htQ]; exact hP9, va_K.moved hWQ.alike hK9, hD9⟩, hS.F htQ⟩) hS.2.2 dX11_drift_19

theorem sub_no {y : Int32} {n : Nat} (hn : n ≤ 1000) (h1 : ¬ y < 50) (h : nI n ≤ y - 50) : ∀ j : Nat, j < n → y - 50 ≠ nI j := fun j hj e => by
  rw [e] at h
  exact absurd ((nI_leI (a := n) (b := j) (by omega) (by omega)).mp h) (by omega)
end mg18a
