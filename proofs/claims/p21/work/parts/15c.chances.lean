section mg15c
theorem ggX0_hit_X11_isIn : GoodIn wsX0_hit wsX11_isIn := gga_of 841 rfl rfl rfl
theorem ggX0_begin_X8_driftOn : GoodIn wsX0_begin wsX8_driftOn := gga_of 809 rfl rfl rfl
theorem gX0_begin_X8_driftOn : GoodIn wsX0_begin (wsV RX0 48 RX8 yX8_driftOn wsX8_driftOn) := goodIn_app (ggh_of [834, 807, 808, 64] rfl rfl rfl) ggX0_begin_X8_driftOn
theorem ggX0_spread_X11_isIn : GoodIn wsX0_spread wsX11_isIn := gga_of 841 rfl rfl rfl
theorem ggX0_spread_X11_besideOrSame : GoodIn wsX0_spread wsX11_besideOrSame := gga_of 845 rfl rfl rfl
theorem ggX0_tellHits_X11_isIn : GoodIn wsX0_tellHits wsX11_isIn := gga_of 841 rfl rfl rfl
theorem ggX0_tellHits_X0_hit : GoodIn wsX0_tellHits wsX0_hit := gga_of 874 rfl rfl rfl
theorem gX0_tellHits_X0_hit : GoodIn wsX0_tellHits (va_wsS RX0 73 yX0_hit wsX0_hit) := goodIn_app (ggh_of [872, 873, 68] rfl rfl rfl) ggX0_tellHits_X0_hit
theorem ggX0_tellHits_X11_besideOrSame : GoodIn wsX0_tellHits wsX11_besideOrSame := gga_of 845 rfl rfl rfl
noncomputable def dk15cchances_cX0_hit_0 : List (Nat × List Nat) := [(0, [30]), (1, [28]), (2, [184, 0, 44]), (5, [153, 0, 7]), (8, [4]), (9, [167, 0, 4]), (12, [3]), (13, [172])]
set_option maxRecDepth 100000 in
theorem dk15cchances_cX0_hit_0_a : btA cX0_hit dk15cchances_cX0_hit_0 = true := by decide +kernel
theorem dX0_hit_0 : decode cX0_hit 0 = .ok (.lload_n 0, 1) := bd30 (btAt dk15cchances_cX0_hit_0_a 0 rfl)
theorem dX0_hit_1 : decode cX0_hit 1 = .ok (.iload_n 2, 1) := bd28 (btAt dk15cchances_cX0_hit_0_a 1 rfl)
theorem dX0_hit_2 : decode cX0_hit 2 = .ok (.invokestatic 44, 3) := bd184 (a := 0) (b := 44) (btAt dk15cchances_cX0_hit_0_a 2 rfl)
theorem dX0_hit_5 : decode cX0_hit 5 = .ok (.ifCond .eq 7, 3) := bd153 (a := 0) (b := 7) (btAt dk15cchances_cX0_hit_0_a 3 rfl)
theorem dX0_hit_8 : decode cX0_hit 8 = .ok (.iconst 1, 1) := bd4 (btAt dk15cchances_cX0_hit_0_a 4 rfl)
theorem dX0_hit_9 : decode cX0_hit 9 = .ok (.goto 4, 3) := bd167 (a := 0) (b := 4) (btAt dk15cchances_cX0_hit_0_a 5 rfl)
theorem dX0_hit_12 : decode cX0_hit 12 = .ok (.iconst 0, 1) := bd3 (btAt dk15cchances_cX0_hit_0_a 6 rfl)
theorem dX0_hit_13 : decode cX0_hit 13 = .ok (.ireturn, 1) := bd172 (btAt dk15cchances_cX0_hit_0_a 7 rfl)
noncomputable def dk15cchances_cX0_begin_0 : List (Nat × List Nat) := [(0, [3]), (1, [62]), (2, [29]), (3, [16, 36]), (5, [162, 0, 38]), (8, [42]), (9, [180, 0, 9]), (12, [29]), (13, [43]), (14, [29]), (15, [182, 0, 48]), (18, [79]), (19, [42]), (20, [180, 0, 17]), (23, [3]), (24, [50]), (25, [29]), (26, [29]), (27, [28]), (28, [160, 0, 7]), (31, [10]), (32, [167, 0, 4]), (35, [9]), (36, [80]), (37, [132, 3, 1]), (40, [167, 255, 218]), (43, [177])]
set_option maxRecDepth 100000 in
theorem dk15cchances_cX0_begin_0_a : btA cX0_begin dk15cchances_cX0_begin_0 = true := by decide +kernel
theorem dX0_begin_0 : decode cX0_begin 0 = .ok (.iconst 0, 1) := bd3 (btAt dk15cchances_cX0_begin_0_a 0 rfl)
theorem dX0_begin_1 : decode cX0_begin 1 = .ok (.istore_n 3, 1) := bd62 (btAt dk15cchances_cX0_begin_0_a 1 rfl)
theorem dX0_begin_2 : decode cX0_begin 2 = .ok (.iload_n 3, 1) := bd29 (btAt dk15cchances_cX0_begin_0_a 2 rfl)
theorem dX0_begin_3 : decode cX0_begin 3 = .ok (.bipush 36, 2) := bd16 (a := 36) (btAt dk15cchances_cX0_begin_0_a 3 rfl)
theorem dX0_begin_5 : decode cX0_begin 5 = .ok (.if_icmp .ge 38, 3) := bd162 (a := 0) (b := 38) (btAt dk15cchances_cX0_begin_0_a 4 rfl)
theorem dX0_begin_8 : decode cX0_begin 8 = .ok (.aload_n 0, 1) := bd42 (btAt dk15cchances_cX0_begin_0_a 5 rfl)
theorem dX0_begin_9 : decode cX0_begin 9 = .ok (.getfield 9, 3) := bd180 (a := 0) (b := 9) (btAt dk15cchances_cX0_begin_0_a 6 rfl)
theorem dX0_begin_12 : decode cX0_begin 12 = .ok (.iload_n 3, 1) := bd29 (btAt dk15cchances_cX0_begin_0_a 7 rfl)
theorem dX0_begin_13 : decode cX0_begin 13 = .ok (.aload_n 1, 1) := bd43 (btAt dk15cchances_cX0_begin_0_a 8 rfl)
theorem dX0_begin_14 : decode cX0_begin 14 = .ok (.iload_n 3, 1) := bd29 (btAt dk15cchances_cX0_begin_0_a 9 rfl)
theorem dX0_begin_15 : decode cX0_begin 15 = .ok (.invokevirtual 48, 3) := bd182 (a := 0) (b := 48) (btAt dk15cchances_cX0_begin_0_a 10 rfl)
theorem dX0_begin_18 : decode cX0_begin 18 = .ok (.iastore, 1) := bd79 (btAt dk15cchances_cX0_begin_0_a 11 rfl)
theorem dX0_begin_19 : decode cX0_begin 19 = .ok (.aload_n 0, 1) := bd42 (btAt dk15cchances_cX0_begin_0_a 12 rfl)
theorem dX0_begin_20 : decode cX0_begin 20 = .ok (.getfield 17, 3) := bd180 (a := 0) (b := 17) (btAt dk15cchances_cX0_begin_0_a 13 rfl)
theorem dX0_begin_23 : decode cX0_begin 23 = .ok (.iconst 0, 1) := bd3 (btAt dk15cchances_cX0_begin_0_a 14 rfl)
theorem dX0_begin_24 : decode cX0_begin 24 = .ok (.aaload, 1) := bd50 (btAt dk15cchances_cX0_begin_0_a 15 rfl)
theorem dX0_begin_25 : decode cX0_begin 25 = .ok (.iload_n 3, 1) := bd29 (btAt dk15cchances_cX0_begin_0_a 16 rfl)
theorem dX0_begin_26 : decode cX0_begin 26 = .ok (.iload_n 3, 1) := bd29 (btAt dk15cchances_cX0_begin_0_a 17 rfl)
theorem dX0_begin_27 : decode cX0_begin 27 = .ok (.iload_n 2, 1) := bd28 (btAt dk15cchances_cX0_begin_0_a 18 rfl)
theorem dX0_begin_28 : decode cX0_begin 28 = .ok (.if_icmp .ne 7, 3) := bd160 (a := 0) (b := 7) (btAt dk15cchances_cX0_begin_0_a 19 rfl)
theorem dX0_begin_31 : decode cX0_begin 31 = .ok (.lconst 1, 1) := bd10 (btAt dk15cchances_cX0_begin_0_a 20 rfl)
theorem dX0_begin_32 : decode cX0_begin 32 = .ok (.goto 4, 3) := bd167 (a := 0) (b := 4) (btAt dk15cchances_cX0_begin_0_a 21 rfl)
theorem dX0_begin_35 : decode cX0_begin 35 = .ok (.lconst 0, 1) := bd9 (btAt dk15cchances_cX0_begin_0_a 22 rfl)
theorem dX0_begin_36 : decode cX0_begin 36 = .ok (.lastore, 1) := bd80 (btAt dk15cchances_cX0_begin_0_a 23 rfl)
theorem dX0_begin_37 : decode cX0_begin 37 = .ok (.iinc 3 1, 3) := bd132 (a := 3) (b := 1) (btAt dk15cchances_cX0_begin_0_a 24 rfl)
theorem dX0_begin_40 : decode cX0_begin 40 = .ok (.goto (-38), 3) := bd167 (a := 255) (b := 218) (btAt dk15cchances_cX0_begin_0_a 25 rfl)
theorem dX0_begin_43 : decode cX0_begin 43 = .ok (.return_, 1) := bd177 (btAt dk15cchances_cX0_begin_0_a 26 rfl)
noncomputable def dk15cchances_cX0_spread_0 : List (Nat × List Nat) := [(0, [3]), (1, [54, 5]), (3, [21, 5]), (5, [16, 36]), (7, [162, 0, 15]), (22, [3]), (23, [54, 5]), (25, [21, 5]), (27, [16, 36]), (29, [162, 0, 133]), (32, [44]), (33, [21, 5]), (35, [47]), (36, [55, 6]), (38, [22, 6]), (40, [9]), (41, [148]), (42, [154, 0, 6]), (45, [167, 0, 111]), (48, [43]), (49, [180, 0, 52]), (52, [21, 5]), (54, [184, 0, 44]), (57, [153, 0, 20]), (60, [25, 4]), (62, [21, 5]), (64, [92]), (65, [47]), (66, [22, 6]), (68, [20, 0, 25]), (71, [105]), (72, [97]), (73, [80]), (74, [167, 0, 82]), (77, [42]), (78, [180, 0, 9]), (81, [21, 5]), (156, [132, 5, 1]), (159, [167, 255, 122]), (162, [177])]
set_option maxRecDepth 100000 in
theorem dk15cchances_cX0_spread_0_a : btA cX0_spread dk15cchances_cX0_spread_0 = true := by decide +kernel
theorem dX0_spread_0 : decode cX0_spread 0 = .ok (.iconst 0, 1) := bd3 (btAt dk15cchances_cX0_spread_0_a 0 rfl)
theorem dX0_spread_1 : decode cX0_spread 1 = .ok (.istore 5, 2) := bd54 (a := 5) (btAt dk15cchances_cX0_spread_0_a 1 rfl)
theorem dX0_spread_3 : decode cX0_spread 3 = .ok (.iload 5, 2) := bd21 (a := 5) (btAt dk15cchances_cX0_spread_0_a 2 rfl)
theorem dX0_spread_5 : decode cX0_spread 5 = .ok (.bipush 36, 2) := bd16 (a := 36) (btAt dk15cchances_cX0_spread_0_a 3 rfl)
theorem dX0_spread_7 : decode cX0_spread 7 = .ok (.if_icmp .ge 15, 3) := bd162 (a := 0) (b := 15) (btAt dk15cchances_cX0_spread_0_a 4 rfl)
theorem dX0_spread_22 : decode cX0_spread 22 = .ok (.iconst 0, 1) := bd3 (btAt dk15cchances_cX0_spread_0_a 5 rfl)
theorem dX0_spread_23 : decode cX0_spread 23 = .ok (.istore 5, 2) := bd54 (a := 5) (btAt dk15cchances_cX0_spread_0_a 6 rfl)
theorem dX0_spread_25 : decode cX0_spread 25 = .ok (.iload 5, 2) := bd21 (a := 5) (btAt dk15cchances_cX0_spread_0_a 7 rfl)
theorem dX0_spread_27 : decode cX0_spread 27 = .ok (.bipush 36, 2) := bd16 (a := 36) (btAt dk15cchances_cX0_spread_0_a 8 rfl)
theorem dX0_spread_29 : decode cX0_spread 29 = .ok (.if_icmp .ge 133, 3) := bd162 (a := 0) (b := 133) (btAt dk15cchances_cX0_spread_0_a 9 rfl)
theorem dX0_spread_32 : decode cX0_spread 32 = .ok (.aload_n 2, 1) := bd44 (btAt dk15cchances_cX0_spread_0_a 10 rfl)
theorem dX0_spread_33 : decode cX0_spread 33 = .ok (.iload 5, 2) := bd21 (a := 5) (btAt dk15cchances_cX0_spread_0_a 11 rfl)
theorem dX0_spread_35 : decode cX0_spread 35 = .ok (.laload, 1) := bd47 (btAt dk15cchances_cX0_spread_0_a 12 rfl)
theorem dX0_spread_36 : decode cX0_spread 36 = .ok (.lstore 6, 2) := bd55 (a := 6) (btAt dk15cchances_cX0_spread_0_a 13 rfl)
theorem dX0_spread_38 : decode cX0_spread 38 = .ok (.lload 6, 2) := bd22 (a := 6) (btAt dk15cchances_cX0_spread_0_a 14 rfl)
theorem dX0_spread_40 : decode cX0_spread 40 = .ok (.lconst 0, 1) := bd9 (btAt dk15cchances_cX0_spread_0_a 15 rfl)
theorem dX0_spread_41 : decode cX0_spread 41 = .ok (.lcmp, 1) := bd148 (btAt dk15cchances_cX0_spread_0_a 16 rfl)
theorem dX0_spread_42 : decode cX0_spread 42 = .ok (.ifCond .ne 6, 3) := bd154 (a := 0) (b := 6) (btAt dk15cchances_cX0_spread_0_a 17 rfl)
theorem dX0_spread_45 : decode cX0_spread 45 = .ok (.goto 111, 3) := bd167 (a := 0) (b := 111) (btAt dk15cchances_cX0_spread_0_a 18 rfl)
theorem dX0_spread_48 : decode cX0_spread 48 = .ok (.aload_n 1, 1) := bd43 (btAt dk15cchances_cX0_spread_0_a 19 rfl)
theorem dX0_spread_49 : decode cX0_spread 49 = .ok (.getfield 52, 3) := bd180 (a := 0) (b := 52) (btAt dk15cchances_cX0_spread_0_a 20 rfl)
theorem dX0_spread_52 : decode cX0_spread 52 = .ok (.iload 5, 2) := bd21 (a := 5) (btAt dk15cchances_cX0_spread_0_a 21 rfl)
theorem dX0_spread_54 : decode cX0_spread 54 = .ok (.invokestatic 44, 3) := bd184 (a := 0) (b := 44) (btAt dk15cchances_cX0_spread_0_a 22 rfl)
theorem dX0_spread_57 : decode cX0_spread 57 = .ok (.ifCond .eq 20, 3) := bd153 (a := 0) (b := 20) (btAt dk15cchances_cX0_spread_0_a 23 rfl)
theorem dX0_spread_60 : decode cX0_spread 60 = .ok (.aload 4, 2) := bd25 (a := 4) (btAt dk15cchances_cX0_spread_0_a 24 rfl)
theorem dX0_spread_62 : decode cX0_spread 62 = .ok (.iload 5, 2) := bd21 (a := 5) (btAt dk15cchances_cX0_spread_0_a 25 rfl)
theorem dX0_spread_64 : decode cX0_spread 64 = .ok (.dup2, 1) := bd92 (btAt dk15cchances_cX0_spread_0_a 26 rfl)
theorem dX0_spread_65 : decode cX0_spread 65 = .ok (.laload, 1) := bd47 (btAt dk15cchances_cX0_spread_0_a 27 rfl)
theorem dX0_spread_66 : decode cX0_spread 66 = .ok (.lload 6, 2) := bd22 (a := 6) (btAt dk15cchances_cX0_spread_0_a 28 rfl)
theorem dX0_spread_68 : decode cX0_spread 68 = .ok (.ldc2_w 25, 3) := bd20 (a := 0) (b := 25) (btAt dk15cchances_cX0_spread_0_a 29 rfl)
theorem dX0_spread_71 : decode cX0_spread 71 = .ok (.lmul, 1) := bd105 (btAt dk15cchances_cX0_spread_0_a 30 rfl)
theorem dX0_spread_72 : decode cX0_spread 72 = .ok (.ladd, 1) := bd97 (btAt dk15cchances_cX0_spread_0_a 31 rfl)
theorem dX0_spread_73 : decode cX0_spread 73 = .ok (.lastore, 1) := bd80 (btAt dk15cchances_cX0_spread_0_a 32 rfl)
theorem dX0_spread_74 : decode cX0_spread 74 = .ok (.goto 82, 3) := bd167 (a := 0) (b := 82) (btAt dk15cchances_cX0_spread_0_a 33 rfl)
theorem dX0_spread_77 : decode cX0_spread 77 = .ok (.aload_n 0, 1) := bd42 (btAt dk15cchances_cX0_spread_0_a 34 rfl)
theorem dX0_spread_78 : decode cX0_spread 78 = .ok (.getfield 9, 3) := bd180 (a := 0) (b := 9) (btAt dk15cchances_cX0_spread_0_a 35 rfl)
theorem dX0_spread_81 : decode cX0_spread 81 = .ok (.iload 5, 2) := bd21 (a := 5) (btAt dk15cchances_cX0_spread_0_a 36 rfl)
theorem dX0_spread_156 : decode cX0_spread 156 = .ok (.iinc 5 1, 3) := bd132 (a := 5) (b := 1) (btAt dk15cchances_cX0_spread_0_a 37 rfl)
theorem dX0_spread_159 : decode cX0_spread 159 = .ok (.goto (-134), 3) := bd167 (a := 255) (b := 122) (btAt dk15cchances_cX0_spread_0_a 38 rfl)
theorem dX0_spread_162 : decode cX0_spread 162 = .ok (.return_, 1) := bd177 (btAt dk15cchances_cX0_spread_0_a 39 rfl)
noncomputable def dk15cchances_cX0_spread_40 : List (Nat × List Nat) := [(83, [46]), (84, [54, 8]), (86, [25, 4]), (88, [21, 5]), (90, [29]), (91, [184, 0, 56]), (94, [92]), (95, [47]), (96, [22, 6]), (98, [16, 20]), (100, [5]), (101, [21, 8]), (103, [104]), (104, [100]), (105, [133]), (106, [105]), (107, [97]), (108, [80]), (109, [25, 4]), (111, [21, 5]), (113, [29]), (114, [16, 7]), (116, [96]), (117, [16, 7]), (119, [126]), (120, [184, 0, 56]), (123, [92]), (124, [47]), (125, [22, 6]), (127, [21, 8]), (129, [133]), (130, [105]), (131, [97]), (132, [80]), (133, [25, 4]), (135, [21, 5]), (137, [29]), (138, [4]), (139, [96]), (140, [16, 7])]
set_option maxRecDepth 100000 in
theorem dk15cchances_cX0_spread_40_a : btA cX0_spread dk15cchances_cX0_spread_40 = true := by decide +kernel
theorem dX0_spread_83 : decode cX0_spread 83 = .ok (.iaload, 1) := bd46 (btAt dk15cchances_cX0_spread_40_a 0 rfl)
theorem dX0_spread_84 : decode cX0_spread 84 = .ok (.istore 8, 2) := bd54 (a := 8) (btAt dk15cchances_cX0_spread_40_a 1 rfl)
theorem dX0_spread_86 : decode cX0_spread 86 = .ok (.aload 4, 2) := bd25 (a := 4) (btAt dk15cchances_cX0_spread_40_a 2 rfl)
theorem dX0_spread_88 : decode cX0_spread 88 = .ok (.iload 5, 2) := bd21 (a := 5) (btAt dk15cchances_cX0_spread_40_a 3 rfl)
theorem dX0_spread_90 : decode cX0_spread 90 = .ok (.iload_n 3, 1) := bd29 (btAt dk15cchances_cX0_spread_40_a 4 rfl)
theorem dX0_spread_91 : decode cX0_spread 91 = .ok (.invokestatic 56, 3) := bd184 (a := 0) (b := 56) (btAt dk15cchances_cX0_spread_40_a 5 rfl)
theorem dX0_spread_94 : decode cX0_spread 94 = .ok (.dup2, 1) := bd92 (btAt dk15cchances_cX0_spread_40_a 6 rfl)
theorem dX0_spread_95 : decode cX0_spread 95 = .ok (.laload, 1) := bd47 (btAt dk15cchances_cX0_spread_40_a 7 rfl)
theorem dX0_spread_96 : decode cX0_spread 96 = .ok (.lload 6, 2) := bd22 (a := 6) (btAt dk15cchances_cX0_spread_40_a 8 rfl)
theorem dX0_spread_98 : decode cX0_spread 98 = .ok (.bipush 20, 2) := bd16 (a := 20) (btAt dk15cchances_cX0_spread_40_a 9 rfl)
theorem dX0_spread_100 : decode cX0_spread 100 = .ok (.iconst 2, 1) := bd5 (btAt dk15cchances_cX0_spread_40_a 10 rfl)
theorem dX0_spread_101 : decode cX0_spread 101 = .ok (.iload 8, 2) := bd21 (a := 8) (btAt dk15cchances_cX0_spread_40_a 11 rfl)
theorem dX0_spread_103 : decode cX0_spread 103 = .ok (.imul, 1) := bd104 (btAt dk15cchances_cX0_spread_40_a 12 rfl)
theorem dX0_spread_104 : decode cX0_spread 104 = .ok (.isub, 1) := bd100 (btAt dk15cchances_cX0_spread_40_a 13 rfl)
theorem dX0_spread_105 : decode cX0_spread 105 = .ok (.i2l, 1) := bd133 (btAt dk15cchances_cX0_spread_40_a 14 rfl)
theorem dX0_spread_106 : decode cX0_spread 106 = .ok (.lmul, 1) := bd105 (btAt dk15cchances_cX0_spread_40_a 15 rfl)
theorem dX0_spread_107 : decode cX0_spread 107 = .ok (.ladd, 1) := bd97 (btAt dk15cchances_cX0_spread_40_a 16 rfl)
theorem dX0_spread_108 : decode cX0_spread 108 = .ok (.lastore, 1) := bd80 (btAt dk15cchances_cX0_spread_40_a 17 rfl)
theorem dX0_spread_109 : decode cX0_spread 109 = .ok (.aload 4, 2) := bd25 (a := 4) (btAt dk15cchances_cX0_spread_40_a 18 rfl)
theorem dX0_spread_111 : decode cX0_spread 111 = .ok (.iload 5, 2) := bd21 (a := 5) (btAt dk15cchances_cX0_spread_40_a 19 rfl)
theorem dX0_spread_113 : decode cX0_spread 113 = .ok (.iload_n 3, 1) := bd29 (btAt dk15cchances_cX0_spread_40_a 20 rfl)
theorem dX0_spread_114 : decode cX0_spread 114 = .ok (.bipush 7, 2) := bd16 (a := 7) (btAt dk15cchances_cX0_spread_40_a 21 rfl)
theorem dX0_spread_116 : decode cX0_spread 116 = .ok (.iadd, 1) := bd96 (btAt dk15cchances_cX0_spread_40_a 22 rfl)
theorem dX0_spread_117 : decode cX0_spread 117 = .ok (.bipush 7, 2) := bd16 (a := 7) (btAt dk15cchances_cX0_spread_40_a 23 rfl)
theorem dX0_spread_119 : decode cX0_spread 119 = .ok (.iand, 1) := bd126 (btAt dk15cchances_cX0_spread_40_a 24 rfl)
theorem dX0_spread_120 : decode cX0_spread 120 = .ok (.invokestatic 56, 3) := bd184 (a := 0) (b := 56) (btAt dk15cchances_cX0_spread_40_a 25 rfl)
theorem dX0_spread_123 : decode cX0_spread 123 = .ok (.dup2, 1) := bd92 (btAt dk15cchances_cX0_spread_40_a 26 rfl)
theorem dX0_spread_124 : decode cX0_spread 124 = .ok (.laload, 1) := bd47 (btAt dk15cchances_cX0_spread_40_a 27 rfl)
theorem dX0_spread_125 : decode cX0_spread 125 = .ok (.lload 6, 2) := bd22 (a := 6) (btAt dk15cchances_cX0_spread_40_a 28 rfl)
theorem dX0_spread_127 : decode cX0_spread 127 = .ok (.iload 8, 2) := bd21 (a := 8) (btAt dk15cchances_cX0_spread_40_a 29 rfl)
theorem dX0_spread_129 : decode cX0_spread 129 = .ok (.i2l, 1) := bd133 (btAt dk15cchances_cX0_spread_40_a 30 rfl)
theorem dX0_spread_130 : decode cX0_spread 130 = .ok (.lmul, 1) := bd105 (btAt dk15cchances_cX0_spread_40_a 31 rfl)
theorem dX0_spread_131 : decode cX0_spread 131 = .ok (.ladd, 1) := bd97 (btAt dk15cchances_cX0_spread_40_a 32 rfl)
theorem dX0_spread_132 : decode cX0_spread 132 = .ok (.lastore, 1) := bd80 (btAt dk15cchances_cX0_spread_40_a 33 rfl)
theorem dX0_spread_133 : decode cX0_spread 133 = .ok (.aload 4, 2) := bd25 (a := 4) (btAt dk15cchances_cX0_spread_40_a 34 rfl)
theorem dX0_spread_135 : decode cX0_spread 135 = .ok (.iload 5, 2) := bd21 (a := 5) (btAt dk15cchances_cX0_spread_40_a 35 rfl)
theorem dX0_spread_137 : decode cX0_spread 137 = .ok (.iload_n 3, 1) := bd29 (btAt dk15cchances_cX0_spread_40_a 36 rfl)
theorem dX0_spread_138 : decode cX0_spread 138 = .ok (.iconst 1, 1) := bd4 (btAt dk15cchances_cX0_spread_40_a 37 rfl)
theorem dX0_spread_139 : decode cX0_spread 139 = .ok (.iadd, 1) := bd96 (btAt dk15cchances_cX0_spread_40_a 38 rfl)
theorem dX0_spread_140 : decode cX0_spread 140 = .ok (.bipush 7, 2) := bd16 (a := 7) (btAt dk15cchances_cX0_spread_40_a 39 rfl)
noncomputable def dk15cchances_cX0_spread_80 : List (Nat × List Nat) := [(10, [25, 4]), (12, [21, 5]), (14, [9]), (15, [80]), (16, [132, 5, 1]), (19, [167, 255, 240]), (142, [126]), (143, [184, 0, 56]), (146, [92]), (147, [47]), (148, [22, 6]), (150, [21, 8]), (152, [133]), (153, [105]), (154, [97]), (155, [80])]
set_option maxRecDepth 100000 in
theorem dk15cchances_cX0_spread_80_a : btA cX0_spread dk15cchances_cX0_spread_80 = true := by decide +kernel
theorem dX0_spread_10 : decode cX0_spread 10 = .ok (.aload 4, 2) := bd25 (a := 4) (btAt dk15cchances_cX0_spread_80_a 0 rfl)
theorem dX0_spread_12 : decode cX0_spread 12 = .ok (.iload 5, 2) := bd21 (a := 5) (btAt dk15cchances_cX0_spread_80_a 1 rfl)
theorem dX0_spread_14 : decode cX0_spread 14 = .ok (.lconst 0, 1) := bd9 (btAt dk15cchances_cX0_spread_80_a 2 rfl)
theorem dX0_spread_15 : decode cX0_spread 15 = .ok (.lastore, 1) := bd80 (btAt dk15cchances_cX0_spread_80_a 3 rfl)
theorem dX0_spread_16 : decode cX0_spread 16 = .ok (.iinc 5 1, 3) := bd132 (a := 5) (b := 1) (btAt dk15cchances_cX0_spread_80_a 4 rfl)
theorem dX0_spread_19 : decode cX0_spread 19 = .ok (.goto (-16), 3) := bd167 (a := 255) (b := 240) (btAt dk15cchances_cX0_spread_80_a 5 rfl)
theorem dX0_spread_142 : decode cX0_spread 142 = .ok (.iand, 1) := bd126 (btAt dk15cchances_cX0_spread_80_a 6 rfl)
theorem dX0_spread_143 : decode cX0_spread 143 = .ok (.invokestatic 56, 3) := bd184 (a := 0) (b := 56) (btAt dk15cchances_cX0_spread_80_a 7 rfl)
theorem dX0_spread_146 : decode cX0_spread 146 = .ok (.dup2, 1) := bd92 (btAt dk15cchances_cX0_spread_80_a 8 rfl)
theorem dX0_spread_147 : decode cX0_spread 147 = .ok (.laload, 1) := bd47 (btAt dk15cchances_cX0_spread_80_a 9 rfl)
theorem dX0_spread_148 : decode cX0_spread 148 = .ok (.lload 6, 2) := bd22 (a := 6) (btAt dk15cchances_cX0_spread_80_a 10 rfl)
theorem dX0_spread_150 : decode cX0_spread 150 = .ok (.iload 8, 2) := bd21 (a := 8) (btAt dk15cchances_cX0_spread_80_a 11 rfl)
theorem dX0_spread_152 : decode cX0_spread 152 = .ok (.i2l, 1) := bd133 (btAt dk15cchances_cX0_spread_80_a 12 rfl)
theorem dX0_spread_153 : decode cX0_spread 153 = .ok (.lmul, 1) := bd105 (btAt dk15cchances_cX0_spread_80_a 13 rfl)
theorem dX0_spread_154 : decode cX0_spread 154 = .ok (.ladd, 1) := bd97 (btAt dk15cchances_cX0_spread_80_a 14 rfl)
theorem dX0_spread_155 : decode cX0_spread 155 = .ok (.lastore, 1) := bd80 (btAt dk15cchances_cX0_spread_80_a 15 rfl)
noncomputable def dk15cchances_cX0_tellHits_0 : List (Nat × List Nat) := [(0, [3]), (1, [54, 4]), (3, [21, 4]), (5, [16, 8]), (7, [162, 0, 134]), (10, [3]), (11, [54, 5]), (13, [21, 5]), (15, [16, 36]), (17, [162, 0, 118]), (20, [42]), (21, [180, 0, 22]), (24, [21, 4]), (26, [50]), (27, [21, 5]), (29, [43]), (30, [180, 0, 52]), (33, [21, 5]), (35, [184, 0, 44]), (38, [153, 0, 15]), (41, [16, 20]), (43, [32]), (44, [21, 5]), (46, [184, 0, 73]), (49, [104]), (50, [167, 0, 78]), (53, [16, 20]), (55, [5]), (56, [42]), (57, [180, 0, 9]), (60, [21, 5]), (62, [46]), (63, [104]), (64, [100]), (128, [79]), (129, [132, 5, 1]), (132, [167, 255, 137]), (135, [132, 4, 1]), (138, [167, 255, 121]), (141, [177])]
set_option maxRecDepth 100000 in
theorem dk15cchances_cX0_tellHits_0_a : btA cX0_tellHits dk15cchances_cX0_tellHits_0 = true := by decide +kernel
theorem dX0_tellHits_0 : decode cX0_tellHits 0 = .ok (.iconst 0, 1) := bd3 (btAt dk15cchances_cX0_tellHits_0_a 0 rfl)
theorem dX0_tellHits_1 : decode cX0_tellHits 1 = .ok (.istore 4, 2) := bd54 (a := 4) (btAt dk15cchances_cX0_tellHits_0_a 1 rfl)
theorem dX0_tellHits_3 : decode cX0_tellHits 3 = .ok (.iload 4, 2) := bd21 (a := 4) (btAt dk15cchances_cX0_tellHits_0_a 2 rfl)
theorem dX0_tellHits_5 : decode cX0_tellHits 5 = .ok (.bipush 8, 2) := bd16 (a := 8) (btAt dk15cchances_cX0_tellHits_0_a 3 rfl)
theorem dX0_tellHits_7 : decode cX0_tellHits 7 = .ok (.if_icmp .ge 134, 3) := bd162 (a := 0) (b := 134) (btAt dk15cchances_cX0_tellHits_0_a 4 rfl)
theorem dX0_tellHits_10 : decode cX0_tellHits 10 = .ok (.iconst 0, 1) := bd3 (btAt dk15cchances_cX0_tellHits_0_a 5 rfl)
theorem dX0_tellHits_11 : decode cX0_tellHits 11 = .ok (.istore 5, 2) := bd54 (a := 5) (btAt dk15cchances_cX0_tellHits_0_a 6 rfl)
theorem dX0_tellHits_13 : decode cX0_tellHits 13 = .ok (.iload 5, 2) := bd21 (a := 5) (btAt dk15cchances_cX0_tellHits_0_a 7 rfl)
theorem dX0_tellHits_15 : decode cX0_tellHits 15 = .ok (.bipush 36, 2) := bd16 (a := 36) (btAt dk15cchances_cX0_tellHits_0_a 8 rfl)
theorem dX0_tellHits_17 : decode cX0_tellHits 17 = .ok (.if_icmp .ge 118, 3) := bd162 (a := 0) (b := 118) (btAt dk15cchances_cX0_tellHits_0_a 9 rfl)
theorem dX0_tellHits_20 : decode cX0_tellHits 20 = .ok (.aload_n 0, 1) := bd42 (btAt dk15cchances_cX0_tellHits_0_a 10 rfl)
theorem dX0_tellHits_21 : decode cX0_tellHits 21 = .ok (.getfield 22, 3) := bd180 (a := 0) (b := 22) (btAt dk15cchances_cX0_tellHits_0_a 11 rfl)
theorem dX0_tellHits_24 : decode cX0_tellHits 24 = .ok (.iload 4, 2) := bd21 (a := 4) (btAt dk15cchances_cX0_tellHits_0_a 12 rfl)
theorem dX0_tellHits_26 : decode cX0_tellHits 26 = .ok (.aaload, 1) := bd50 (btAt dk15cchances_cX0_tellHits_0_a 13 rfl)
theorem dX0_tellHits_27 : decode cX0_tellHits 27 = .ok (.iload 5, 2) := bd21 (a := 5) (btAt dk15cchances_cX0_tellHits_0_a 14 rfl)
theorem dX0_tellHits_29 : decode cX0_tellHits 29 = .ok (.aload_n 1, 1) := bd43 (btAt dk15cchances_cX0_tellHits_0_a 15 rfl)
theorem dX0_tellHits_30 : decode cX0_tellHits 30 = .ok (.getfield 52, 3) := bd180 (a := 0) (b := 52) (btAt dk15cchances_cX0_tellHits_0_a 16 rfl)
theorem dX0_tellHits_33 : decode cX0_tellHits 33 = .ok (.iload 5, 2) := bd21 (a := 5) (btAt dk15cchances_cX0_tellHits_0_a 17 rfl)
theorem dX0_tellHits_35 : decode cX0_tellHits 35 = .ok (.invokestatic 44, 3) := bd184 (a := 0) (b := 44) (btAt dk15cchances_cX0_tellHits_0_a 18 rfl)
theorem dX0_tellHits_38 : decode cX0_tellHits 38 = .ok (.ifCond .eq 15, 3) := bd153 (a := 0) (b := 15) (btAt dk15cchances_cX0_tellHits_0_a 19 rfl)
theorem dX0_tellHits_41 : decode cX0_tellHits 41 = .ok (.bipush 20, 2) := bd16 (a := 20) (btAt dk15cchances_cX0_tellHits_0_a 20 rfl)
theorem dX0_tellHits_43 : decode cX0_tellHits 43 = .ok (.lload_n 2, 1) := bd32 (btAt dk15cchances_cX0_tellHits_0_a 21 rfl)
theorem dX0_tellHits_44 : decode cX0_tellHits 44 = .ok (.iload 5, 2) := bd21 (a := 5) (btAt dk15cchances_cX0_tellHits_0_a 22 rfl)
theorem dX0_tellHits_46 : decode cX0_tellHits 46 = .ok (.invokestatic 73, 3) := bd184 (a := 0) (b := 73) (btAt dk15cchances_cX0_tellHits_0_a 23 rfl)
theorem dX0_tellHits_49 : decode cX0_tellHits 49 = .ok (.imul, 1) := bd104 (btAt dk15cchances_cX0_tellHits_0_a 24 rfl)
theorem dX0_tellHits_50 : decode cX0_tellHits 50 = .ok (.goto 78, 3) := bd167 (a := 0) (b := 78) (btAt dk15cchances_cX0_tellHits_0_a 25 rfl)
theorem dX0_tellHits_53 : decode cX0_tellHits 53 = .ok (.bipush 20, 2) := bd16 (a := 20) (btAt dk15cchances_cX0_tellHits_0_a 26 rfl)
theorem dX0_tellHits_55 : decode cX0_tellHits 55 = .ok (.iconst 2, 1) := bd5 (btAt dk15cchances_cX0_tellHits_0_a 27 rfl)
theorem dX0_tellHits_56 : decode cX0_tellHits 56 = .ok (.aload_n 0, 1) := bd42 (btAt dk15cchances_cX0_tellHits_0_a 28 rfl)
theorem dX0_tellHits_57 : decode cX0_tellHits 57 = .ok (.getfield 9, 3) := bd180 (a := 0) (b := 9) (btAt dk15cchances_cX0_tellHits_0_a 29 rfl)
theorem dX0_tellHits_60 : decode cX0_tellHits 60 = .ok (.iload 5, 2) := bd21 (a := 5) (btAt dk15cchances_cX0_tellHits_0_a 30 rfl)
theorem dX0_tellHits_62 : decode cX0_tellHits 62 = .ok (.iaload, 1) := bd46 (btAt dk15cchances_cX0_tellHits_0_a 31 rfl)
theorem dX0_tellHits_63 : decode cX0_tellHits 63 = .ok (.imul, 1) := bd104 (btAt dk15cchances_cX0_tellHits_0_a 32 rfl)
theorem dX0_tellHits_64 : decode cX0_tellHits 64 = .ok (.isub, 1) := bd100 (btAt dk15cchances_cX0_tellHits_0_a 33 rfl)
theorem dX0_tellHits_128 : decode cX0_tellHits 128 = .ok (.iastore, 1) := bd79 (btAt dk15cchances_cX0_tellHits_0_a 34 rfl)
theorem dX0_tellHits_129 : decode cX0_tellHits 129 = .ok (.iinc 5 1, 3) := bd132 (a := 5) (b := 1) (btAt dk15cchances_cX0_tellHits_0_a 35 rfl)
theorem dX0_tellHits_132 : decode cX0_tellHits 132 = .ok (.goto (-119), 3) := bd167 (a := 255) (b := 137) (btAt dk15cchances_cX0_tellHits_0_a 36 rfl)
theorem dX0_tellHits_135 : decode cX0_tellHits 135 = .ok (.iinc 4 1, 3) := bd132 (a := 4) (b := 1) (btAt dk15cchances_cX0_tellHits_0_a 37 rfl)
theorem dX0_tellHits_138 : decode cX0_tellHits 138 = .ok (.goto (-135), 3) := bd167 (a := 255) (b := 121) (btAt dk15cchances_cX0_tellHits_0_a 38 rfl)
theorem dX0_tellHits_141 : decode cX0_tellHits 141 = .ok (.return_, 1) := bd177 (btAt dk15cchances_cX0_tellHits_0_a 39 rfl)
noncomputable def dk15cchances_cX0_tellHits_40 : List (Nat × List Nat) := [(65, [32]), (66, [21, 5]), (68, [21, 4]), (70, [184, 0, 56]), (73, [184, 0, 73]), (76, [104]), (77, [42]), (78, [180, 0, 9]), (81, [21, 5]), (83, [46]), (84, [32]), (85, [21, 5]), (87, [21, 4]), (89, [16, 7]), (91, [96]), (92, [16, 7]), (94, [126]), (95, [184, 0, 56]), (98, [184, 0, 73]), (101, [104]), (102, [96]), (103, [42]), (104, [180, 0, 9]), (107, [21, 5]), (109, [46]), (110, [32]), (111, [21, 5]), (113, [21, 4]), (115, [4]), (116, [96]), (117, [16, 7]), (119, [126]), (120, [184, 0, 56]), (123, [184, 0, 73]), (126, [104]), (127, [96])]
set_option maxRecDepth 100000 in
theorem dk15cchances_cX0_tellHits_40_a : btA cX0_tellHits dk15cchances_cX0_tellHits_40 = true := by decide +kernel
theorem dX0_tellHits_65 : decode cX0_tellHits 65 = .ok (.lload_n 2, 1) := bd32 (btAt dk15cchances_cX0_tellHits_40_a 0 rfl)
theorem dX0_tellHits_66 : decode cX0_tellHits 66 = .ok (.iload 5, 2) := bd21 (a := 5) (btAt dk15cchances_cX0_tellHits_40_a 1 rfl)
theorem dX0_tellHits_68 : decode cX0_tellHits 68 = .ok (.iload 4, 2) := bd21 (a := 4) (btAt dk15cchances_cX0_tellHits_40_a 2 rfl)
theorem dX0_tellHits_70 : decode cX0_tellHits 70 = .ok (.invokestatic 56, 3) := bd184 (a := 0) (b := 56) (btAt dk15cchances_cX0_tellHits_40_a 3 rfl)
theorem dX0_tellHits_73 : decode cX0_tellHits 73 = .ok (.invokestatic 73, 3) := bd184 (a := 0) (b := 73) (btAt dk15cchances_cX0_tellHits_40_a 4 rfl)
theorem dX0_tellHits_76 : decode cX0_tellHits 76 = .ok (.imul, 1) := bd104 (btAt dk15cchances_cX0_tellHits_40_a 5 rfl)
theorem dX0_tellHits_77 : decode cX0_tellHits 77 = .ok (.aload_n 0, 1) := bd42 (btAt dk15cchances_cX0_tellHits_40_a 6 rfl)
theorem dX0_tellHits_78 : decode cX0_tellHits 78 = .ok (.getfield 9, 3) := bd180 (a := 0) (b := 9) (btAt dk15cchances_cX0_tellHits_40_a 7 rfl)
theorem dX0_tellHits_81 : decode cX0_tellHits 81 = .ok (.iload 5, 2) := bd21 (a := 5) (btAt dk15cchances_cX0_tellHits_40_a 8 rfl)
theorem dX0_tellHits_83 : decode cX0_tellHits 83 = .ok (.iaload, 1) := bd46 (btAt dk15cchances_cX0_tellHits_40_a 9 rfl)
theorem dX0_tellHits_84 : decode cX0_tellHits 84 = .ok (.lload_n 2, 1) := bd32 (btAt dk15cchances_cX0_tellHits_40_a 10 rfl)
theorem dX0_tellHits_85 : decode cX0_tellHits 85 = .ok (.iload 5, 2) := bd21 (a := 5) (btAt dk15cchances_cX0_tellHits_40_a 11 rfl)
theorem dX0_tellHits_87 : decode cX0_tellHits 87 = .ok (.iload 4, 2) := bd21 (a := 4) (btAt dk15cchances_cX0_tellHits_40_a 12 rfl)
theorem dX0_tellHits_89 : decode cX0_tellHits 89 = .ok (.bipush 7, 2) := bd16 (a := 7) (btAt dk15cchances_cX0_tellHits_40_a 13 rfl)
theorem dX0_tellHits_91 : decode cX0_tellHits 91 = .ok (.iadd, 1) := bd96 (btAt dk15cchances_cX0_tellHits_40_a 14 rfl)
theorem dX0_tellHits_92 : decode cX0_tellHits 92 = .ok (.bipush 7, 2) := bd16 (a := 7) (btAt dk15cchances_cX0_tellHits_40_a 15 rfl)
theorem dX0_tellHits_94 : decode cX0_tellHits 94 = .ok (.iand, 1) := bd126 (btAt dk15cchances_cX0_tellHits_40_a 16 rfl)
theorem dX0_tellHits_95 : decode cX0_tellHits 95 = .ok (.invokestatic 56, 3) := bd184 (a := 0) (b := 56) (btAt dk15cchances_cX0_tellHits_40_a 17 rfl)
theorem dX0_tellHits_98 : decode cX0_tellHits 98 = .ok (.invokestatic 73, 3) := bd184 (a := 0) (b := 73) (btAt dk15cchances_cX0_tellHits_40_a 18 rfl)
theorem dX0_tellHits_101 : decode cX0_tellHits 101 = .ok (.imul, 1) := bd104 (btAt dk15cchances_cX0_tellHits_40_a 19 rfl)
theorem dX0_tellHits_102 : decode cX0_tellHits 102 = .ok (.iadd, 1) := bd96 (btAt dk15cchances_cX0_tellHits_40_a 20 rfl)
theorem dX0_tellHits_103 : decode cX0_tellHits 103 = .ok (.aload_n 0, 1) := bd42 (btAt dk15cchances_cX0_tellHits_40_a 21 rfl)
theorem dX0_tellHits_104 : decode cX0_tellHits 104 = .ok (.getfield 9, 3) := bd180 (a := 0) (b := 9) (btAt dk15cchances_cX0_tellHits_40_a 22 rfl)
theorem dX0_tellHits_107 : decode cX0_tellHits 107 = .ok (.iload 5, 2) := bd21 (a := 5) (btAt dk15cchances_cX0_tellHits_40_a 23 rfl)
theorem dX0_tellHits_109 : decode cX0_tellHits 109 = .ok (.iaload, 1) := bd46 (btAt dk15cchances_cX0_tellHits_40_a 24 rfl)
theorem dX0_tellHits_110 : decode cX0_tellHits 110 = .ok (.lload_n 2, 1) := bd32 (btAt dk15cchances_cX0_tellHits_40_a 25 rfl)
theorem dX0_tellHits_111 : decode cX0_tellHits 111 = .ok (.iload 5, 2) := bd21 (a := 5) (btAt dk15cchances_cX0_tellHits_40_a 26 rfl)
theorem dX0_tellHits_113 : decode cX0_tellHits 113 = .ok (.iload 4, 2) := bd21 (a := 4) (btAt dk15cchances_cX0_tellHits_40_a 27 rfl)
theorem dX0_tellHits_115 : decode cX0_tellHits 115 = .ok (.iconst 1, 1) := bd4 (btAt dk15cchances_cX0_tellHits_40_a 28 rfl)
theorem dX0_tellHits_116 : decode cX0_tellHits 116 = .ok (.iadd, 1) := bd96 (btAt dk15cchances_cX0_tellHits_40_a 29 rfl)
theorem dX0_tellHits_117 : decode cX0_tellHits 117 = .ok (.bipush 7, 2) := bd16 (a := 7) (btAt dk15cchances_cX0_tellHits_40_a 30 rfl)
theorem dX0_tellHits_119 : decode cX0_tellHits 119 = .ok (.iand, 1) := bd126 (btAt dk15cchances_cX0_tellHits_40_a 31 rfl)
theorem dX0_tellHits_120 : decode cX0_tellHits 120 = .ok (.invokestatic 56, 3) := bd184 (a := 0) (b := 56) (btAt dk15cchances_cX0_tellHits_40_a 32 rfl)
theorem dX0_tellHits_123 : decode cX0_tellHits 123 = .ok (.invokestatic 73, 3) := bd184 (a := 0) (b := 73) (btAt dk15cchances_cX0_tellHits_40_a 33 rfl)
theorem dX0_tellHits_126 : decode cX0_tellHits 126 = .ok (.imul, 1) := bd104 (btAt dk15cchances_cX0_tellHits_40_a 34 rfl)
theorem dX0_tellHits_127 : decode cX0_tellHits 127 = .ok (.iadd, 1) := bd96 (btAt dk15cchances_cX0_tellHits_40_a 35 rfl)
noncomputable def dk15cchances_cX0_tryLast_0 : List (Nat × List Nat) := [(0, [3]), (1, [62]), (2, [29]), (3, [16, 8]), (5, [162, 0, 74]), (8, [9]), (9, [55, 4]), (11, [3]), (12, [54, 6]), (14, [21, 6]), (16, [16, 36]), (18, [162, 0, 29]), (21, [22, 4]), (23, [43]), (24, [21, 6]), (26, [47]), (27, [42]), (28, [180, 0, 22]), (31, [29]), (32, [50]), (33, [21, 6]), (35, [46]), (47, [22, 4]), (49, [42]), (50, [180, 0, 66]), (53, [148]), (54, [158, 0, 19]), (57, [42]), (58, [22, 4]), (60, [181, 0, 66]), (63, [42]), (64, [28]), (65, [16, 8]), (67, [104]), (68, [29]), (69, [96]), (70, [181, 0, 77]), (73, [132, 3, 1]), (76, [167, 255, 182]), (79, [177])]
set_option maxRecDepth 100000 in
theorem dk15cchances_cX0_tryLast_0_a : btA cX0_tryLast dk15cchances_cX0_tryLast_0 = true := by decide +kernel
theorem dX0_tryLast_0 : decode cX0_tryLast 0 = .ok (.iconst 0, 1) := bd3 (btAt dk15cchances_cX0_tryLast_0_a 0 rfl)
theorem dX0_tryLast_1 : decode cX0_tryLast 1 = .ok (.istore_n 3, 1) := bd62 (btAt dk15cchances_cX0_tryLast_0_a 1 rfl)
theorem dX0_tryLast_2 : decode cX0_tryLast 2 = .ok (.iload_n 3, 1) := bd29 (btAt dk15cchances_cX0_tryLast_0_a 2 rfl)
theorem dX0_tryLast_3 : decode cX0_tryLast 3 = .ok (.bipush 8, 2) := bd16 (a := 8) (btAt dk15cchances_cX0_tryLast_0_a 3 rfl)
theorem dX0_tryLast_5 : decode cX0_tryLast 5 = .ok (.if_icmp .ge 74, 3) := bd162 (a := 0) (b := 74) (btAt dk15cchances_cX0_tryLast_0_a 4 rfl)
theorem dX0_tryLast_8 : decode cX0_tryLast 8 = .ok (.lconst 0, 1) := bd9 (btAt dk15cchances_cX0_tryLast_0_a 5 rfl)
theorem dX0_tryLast_9 : decode cX0_tryLast 9 = .ok (.lstore 4, 2) := bd55 (a := 4) (btAt dk15cchances_cX0_tryLast_0_a 6 rfl)
theorem dX0_tryLast_11 : decode cX0_tryLast 11 = .ok (.iconst 0, 1) := bd3 (btAt dk15cchances_cX0_tryLast_0_a 7 rfl)
theorem dX0_tryLast_12 : decode cX0_tryLast 12 = .ok (.istore 6, 2) := bd54 (a := 6) (btAt dk15cchances_cX0_tryLast_0_a 8 rfl)
theorem dX0_tryLast_14 : decode cX0_tryLast 14 = .ok (.iload 6, 2) := bd21 (a := 6) (btAt dk15cchances_cX0_tryLast_0_a 9 rfl)
theorem dX0_tryLast_16 : decode cX0_tryLast 16 = .ok (.bipush 36, 2) := bd16 (a := 36) (btAt dk15cchances_cX0_tryLast_0_a 10 rfl)
theorem dX0_tryLast_18 : decode cX0_tryLast 18 = .ok (.if_icmp .ge 29, 3) := bd162 (a := 0) (b := 29) (btAt dk15cchances_cX0_tryLast_0_a 11 rfl)
theorem dX0_tryLast_21 : decode cX0_tryLast 21 = .ok (.lload 4, 2) := bd22 (a := 4) (btAt dk15cchances_cX0_tryLast_0_a 12 rfl)
theorem dX0_tryLast_23 : decode cX0_tryLast 23 = .ok (.aload_n 1, 1) := bd43 (btAt dk15cchances_cX0_tryLast_0_a 13 rfl)
theorem dX0_tryLast_24 : decode cX0_tryLast 24 = .ok (.iload 6, 2) := bd21 (a := 6) (btAt dk15cchances_cX0_tryLast_0_a 14 rfl)
theorem dX0_tryLast_26 : decode cX0_tryLast 26 = .ok (.laload, 1) := bd47 (btAt dk15cchances_cX0_tryLast_0_a 15 rfl)
theorem dX0_tryLast_27 : decode cX0_tryLast 27 = .ok (.aload_n 0, 1) := bd42 (btAt dk15cchances_cX0_tryLast_0_a 16 rfl)
theorem dX0_tryLast_28 : decode cX0_tryLast 28 = .ok (.getfield 22, 3) := bd180 (a := 0) (b := 22) (btAt dk15cchances_cX0_tryLast_0_a 17 rfl)
theorem dX0_tryLast_31 : decode cX0_tryLast 31 = .ok (.iload_n 3, 1) := bd29 (btAt dk15cchances_cX0_tryLast_0_a 18 rfl)
theorem dX0_tryLast_32 : decode cX0_tryLast 32 = .ok (.aaload, 1) := bd50 (btAt dk15cchances_cX0_tryLast_0_a 19 rfl)
theorem dX0_tryLast_33 : decode cX0_tryLast 33 = .ok (.iload 6, 2) := bd21 (a := 6) (btAt dk15cchances_cX0_tryLast_0_a 20 rfl)
theorem dX0_tryLast_35 : decode cX0_tryLast 35 = .ok (.iaload, 1) := bd46 (btAt dk15cchances_cX0_tryLast_0_a 21 rfl)
theorem dX0_tryLast_47 : decode cX0_tryLast 47 = .ok (.lload 4, 2) := bd22 (a := 4) (btAt dk15cchances_cX0_tryLast_0_a 22 rfl)
theorem dX0_tryLast_49 : decode cX0_tryLast 49 = .ok (.aload_n 0, 1) := bd42 (btAt dk15cchances_cX0_tryLast_0_a 23 rfl)
theorem dX0_tryLast_50 : decode cX0_tryLast 50 = .ok (.getfield 66, 3) := bd180 (a := 0) (b := 66) (btAt dk15cchances_cX0_tryLast_0_a 24 rfl)
theorem dX0_tryLast_53 : decode cX0_tryLast 53 = .ok (.lcmp, 1) := bd148 (btAt dk15cchances_cX0_tryLast_0_a 25 rfl)
theorem dX0_tryLast_54 : decode cX0_tryLast 54 = .ok (.ifCond .le 19, 3) := bd158 (a := 0) (b := 19) (btAt dk15cchances_cX0_tryLast_0_a 26 rfl)
theorem dX0_tryLast_57 : decode cX0_tryLast 57 = .ok (.aload_n 0, 1) := bd42 (btAt dk15cchances_cX0_tryLast_0_a 27 rfl)
theorem dX0_tryLast_58 : decode cX0_tryLast 58 = .ok (.lload 4, 2) := bd22 (a := 4) (btAt dk15cchances_cX0_tryLast_0_a 28 rfl)
theorem dX0_tryLast_60 : decode cX0_tryLast 60 = .ok (.putfield 66, 3) := bd181 (a := 0) (b := 66) (btAt dk15cchances_cX0_tryLast_0_a 29 rfl)
theorem dX0_tryLast_63 : decode cX0_tryLast 63 = .ok (.aload_n 0, 1) := bd42 (btAt dk15cchances_cX0_tryLast_0_a 30 rfl)
theorem dX0_tryLast_64 : decode cX0_tryLast 64 = .ok (.iload_n 2, 1) := bd28 (btAt dk15cchances_cX0_tryLast_0_a 31 rfl)
theorem dX0_tryLast_65 : decode cX0_tryLast 65 = .ok (.bipush 8, 2) := bd16 (a := 8) (btAt dk15cchances_cX0_tryLast_0_a 32 rfl)
theorem dX0_tryLast_67 : decode cX0_tryLast 67 = .ok (.imul, 1) := bd104 (btAt dk15cchances_cX0_tryLast_0_a 33 rfl)
theorem dX0_tryLast_68 : decode cX0_tryLast 68 = .ok (.iload_n 3, 1) := bd29 (btAt dk15cchances_cX0_tryLast_0_a 34 rfl)
theorem dX0_tryLast_69 : decode cX0_tryLast 69 = .ok (.iadd, 1) := bd96 (btAt dk15cchances_cX0_tryLast_0_a 35 rfl)
theorem dX0_tryLast_70 : decode cX0_tryLast 70 = .ok (.putfield 77, 3) := bd181 (a := 0) (b := 77) (btAt dk15cchances_cX0_tryLast_0_a 36 rfl)
theorem dX0_tryLast_73 : decode cX0_tryLast 73 = .ok (.iinc 3 1, 3) := bd132 (a := 3) (b := 1) (btAt dk15cchances_cX0_tryLast_0_a 37 rfl)
theorem dX0_tryLast_76 : decode cX0_tryLast 76 = .ok (.goto (-74), 3) := bd167 (a := 255) (b := 182) (btAt dk15cchances_cX0_tryLast_0_a 38 rfl)
theorem dX0_tryLast_79 : decode cX0_tryLast 79 = .ok (.return_, 1) := bd177 (btAt dk15cchances_cX0_tryLast_0_a 39 rfl)
noncomputable def dk15cchances_cX0_tryLast_40 : List (Nat × List Nat) := [(36, [133]), (37, [105]), (38, [97]), (39, [55, 4]), (41, [132, 6, 1]), (44, [167, 255, 226])]
set_option maxRecDepth 100000 in
theorem dk15cchances_cX0_tryLast_40_a : btA cX0_tryLast dk15cchances_cX0_tryLast_40 = true := by decide +kernel
theorem dX0_tryLast_36 : decode cX0_tryLast 36 = .ok (.i2l, 1) := bd133 (btAt dk15cchances_cX0_tryLast_40_a 0 rfl)
theorem dX0_tryLast_37 : decode cX0_tryLast 37 = .ok (.lmul, 1) := bd105 (btAt dk15cchances_cX0_tryLast_40_a 1 rfl)
theorem dX0_tryLast_38 : decode cX0_tryLast 38 = .ok (.ladd, 1) := bd97 (btAt dk15cchances_cX0_tryLast_40_a 2 rfl)
theorem dX0_tryLast_39 : decode cX0_tryLast 39 = .ok (.lstore 4, 2) := bd55 (a := 4) (btAt dk15cchances_cX0_tryLast_40_a 3 rfl)
theorem dX0_tryLast_41 : decode cX0_tryLast 41 = .ok (.iinc 6 1, 3) := bd132 (a := 6) (b := 1) (btAt dk15cchances_cX0_tryLast_40_a 4 rfl)
theorem dX0_tryLast_44 : decode cX0_tryLast 44 = .ok (.goto (-30), 3) := bd167 (a := 255) (b := 226) (btAt dk15cchances_cX0_tryLast_40_a 5 rfl)
noncomputable def dk15cchances_cX0_foundWay_0 : List (Nat × List Nat) := [(0, [42]), (1, [180, 0, 77]), (4, [6]), (5, [27]), (6, [4]), (7, [100]), (8, [28]), (9, [100]), (10, [104]), (11, [122]), (12, [16, 7]), (14, [126]), (15, [172])]
set_option maxRecDepth 100000 in
theorem dk15cchances_cX0_foundWay_0_a : btA cX0_foundWay dk15cchances_cX0_foundWay_0 = true := by decide +kernel
theorem dX0_foundWay_0 : decode cX0_foundWay 0 = .ok (.aload_n 0, 1) := bd42 (btAt dk15cchances_cX0_foundWay_0_a 0 rfl)
theorem dX0_foundWay_1 : decode cX0_foundWay 1 = .ok (.getfield 77, 3) := bd180 (a := 0) (b := 77) (btAt dk15cchances_cX0_foundWay_0_a 1 rfl)
theorem dX0_foundWay_4 : decode cX0_foundWay 4 = .ok (.iconst 3, 1) := bd6 (btAt dk15cchances_cX0_foundWay_0_a 2 rfl)
theorem dX0_foundWay_5 : decode cX0_foundWay 5 = .ok (.iload_n 1, 1) := bd27 (btAt dk15cchances_cX0_foundWay_0_a 3 rfl)
theorem dX0_foundWay_6 : decode cX0_foundWay 6 = .ok (.iconst 1, 1) := bd4 (btAt dk15cchances_cX0_foundWay_0_a 4 rfl)
theorem dX0_foundWay_7 : decode cX0_foundWay 7 = .ok (.isub, 1) := bd100 (btAt dk15cchances_cX0_foundWay_0_a 5 rfl)
theorem dX0_foundWay_8 : decode cX0_foundWay 8 = .ok (.iload_n 2, 1) := bd28 (btAt dk15cchances_cX0_foundWay_0_a 6 rfl)
theorem dX0_foundWay_9 : decode cX0_foundWay 9 = .ok (.isub, 1) := bd100 (btAt dk15cchances_cX0_foundWay_0_a 7 rfl)
theorem dX0_foundWay_10 : decode cX0_foundWay 10 = .ok (.imul, 1) := bd104 (btAt dk15cchances_cX0_foundWay_0_a 8 rfl)
theorem dX0_foundWay_11 : decode cX0_foundWay 11 = .ok (.ishr, 1) := bd122 (btAt dk15cchances_cX0_foundWay_0_a 9 rfl)
theorem dX0_foundWay_12 : decode cX0_foundWay 12 = .ok (.bipush 7, 2) := bd16 (a := 7) (btAt dk15cchances_cX0_foundWay_0_a 10 rfl)
theorem dX0_foundWay_14 : decode cX0_foundWay 14 = .ok (.iand, 1) := bd126 (btAt dk15cchances_cX0_foundWay_0_a 11 rfl)
theorem dX0_foundWay_15 : decode cX0_foundWay 15 = .ok (.ireturn, 1) := bd172 (btAt dk15cchances_cX0_foundWay_0_a 12 rfl)
theorem and7 (x : Int32) : ∃ k : Nat, k < 8 ∧ x &&& 7 = nI k := pk_andE x (m := 7) 3 (by decide)
theorem and1 {i r : Nat} (hi : i < 100) (h : i % 2 = r) : nI i &&& 1 = nI r := (pk_andN (n := i) (by omega) 1 (by decide)).trans (congrArg nI h)
theorem eight {k : Nat} (h : k < 8) : k = 0 ∨ k = 1 ∨ k = 2 ∨ k = 3 ∨ k = 4 ∨ k = 5 ∨ k = 6 ∨ k = 7 := by omega
section
variable {p : Program} {l : Launch} {e : Env} {R : Room} {s : State} {m : MethodId} {args : Array Value} {below : List Frame} {meth : Method} {c : Code} {H : Heap} {locs : List Loc} {cells slots : Nat} {Q : State → Prop} {cc : ByteArray} {pc : Nat} {ls : Array Slot} {rest : List Value} {D : va_G} {cl : List vw_C} {a : Nat} {tys : List (ClassId × FieldType)} {ws : va_W}
/-- a place of an array of arrays is read -/
theorem va_alda (hexec : p.tables.exec = Jvm.exec) (hb : c.code = cc) (hK : va_K D cl tys s) (hP : va_P D cl ws H) (q0 t0 : Nat) {cA : ClassId} {ty : FieldType} {n : Nat} {f : Nat → Option Nat} (ha : ws[q0]? = some (zaR a cA n f)) (ht : tys[t0]? = some (cA, .array ty)) {i : Int32} (hin : vp_in i n) (hdg : decode cc pc = .ok (.aaload, 1))
    (kk : W p l e R s m args below meth c H locs cells slots Q (F0 m (pc + 1) ls (va_rf (f i.toNatClampNeg) :: rest))) : W p l e R s m args below meth c H locs cells slots Q (F0 m pc ls (.int i :: .ref a :: rest)) := by
  have hlt : i.toNatClampNeg < n := Nat.not_le.mp fun q => hin (Or.inr q)
  exact W.aald (v := va_rf (f i.toNatClampNeg)) (ty := .array ty) hexec hb (hP q0 _ ha) ((hK.2 t0 _ ht).1 n (fun j => va_rf (f j))) rfl (fun q => by cases q) (by show ¬ (i < 0 ∨ (arrV _ _ _).slots.size ≤ _); rw [arrV_size]; exact hin) (by show (arrV _ _ _).slots[_]? = _; rw [arrV_read _ _ hlt]) rfl rfl hdg kk
end

theorem kc_hit_0 : (.initialized RX11 : Cond) ∈ wsX0_hit := kc_of 63 rfl rfl rfl
theorem kc_hit_1 : (.static yX11_isIn : Cond) ∈ wsX0_hit := kc_of 840 rfl rfl rfl
set_option maxHeartbeats 4000000 in
set_option maxRecDepth 100000 in
theorem c_hit (l : Launch) (dC : Nat → ClassId) (dI : Nat → Nat → Nat) (gd : Nat → Nat) (ma j : Nat) (hma : ma < 2 ^ 62) (hj : j < 36) : Met l yX0_hit wsX0_hit ({ frames := 1, cells := 0, slots := 0, locals := 22 } : Room) (va_Pc [.long (lN ma), .int (nI j)] (fun U => Gl gd (fun _ => False) U)) (vp_Si (fun r => r = nI (hbN ma j))) 0 0 (fun _ => False) := by
  refine met_ofQ (cc := cX0_hit) (maxL := 3) (ret := (some .int)) (by decide) rfl ?_
  intro p e s m args below meth c s₁ Q B hml hv hQ
  obtain ⟨rfl, hG⟩ := hv
  have hx := B.exec
  have hb := B.bytes
  have hr := B.returns
  have hts := atoms_spec (ws := wsX0_hit) B.pre
  have hown : s.vm.findClass RX0 = some m.cls := findClass_of_methodNamed B.named
  have hlocks := B.notSynchronized
  obtain ⟨A, hAe⟩ : ∃ A : Nat → Prop, A = fun _ => False := ⟨_, rfl⟩
  rw [← hAe] at hQ hG
  have hS : va_S A s.heap s.heap [] := va_S.rf
  have hl := lv_entry [.long (lN ma), .int (nI j)] (n := 3) (Nat.le_of_ble_eq_true rfl)
  rw [lg_entry_eq]
  generalize (lg_sl [.long (lN ma), .int (nI j)] ++ List.replicate (3 - (lg_sl [.long (lN ma), .int (nI j)]).length) Slot.unset).toArray = ls at hl ⊢
  generalize hag : ([.long (lN ma), .int (nI j)] : List Value).toArray = args at hts hQ ⊢
  have hl : lv_has ls 3 [(0, .long (lN ma)), (2, .int (nI j))] := hl
  refine lv_lload_n hx hb dX0_hit_0 rfl (lv_at hl 0 rfl) ?_
  refine lv_iload_n hx hb dX0_hit_1 rfl (lv_at hl 1 rfl) ?_
  refine vp_callSi (va_runSN (As := [.long (lN ma), .int (nI j)]) (rest := []) ⟨hx, hb, hml, hown, hts⟩ (c_isIn l dC dI (lN ma) (nI j)) ⟨va_cnB 2 hts ggX0_hit_X11_isIn rfl rfl rfl (hG.1 (.methodLinkNest RX0 44 yX11_isIn "MistHeaps") (by decide +kernel)) (hts (.initialized RX11) kc_hit_0) (by decide +kernel) ⟨Nat.le_of_ble_eq_true rfl, Nat.le_of_ble_eq_true rfl⟩, (hts (.static yX11_isIn) kc_hit_1), trivial⟩ ⟨fun a U g mk q => ⟨q.1, trivial⟩, fun U hU hW => ⟨rfl, trivial⟩⟩ rfl rfl hl.1 rfl (lv_room (Nat.le_of_ble_eq_true rfl)) dX0_hit_2 ⟨Nat.le_of_ble_eq_true rfl, Nat.le_of_ble_eq_true rfl⟩).run (fun r_1 hw_2 => ?_)
  rcases hw_2 with ⟨rfl, hd_3⟩ | ⟨rfl, hd_3⟩
  · skip
    refine lv_if_eq (tgt := 12) hx hb dX0_hit_5 (by decide) (fun c_4 => absurd c_4 (by decide)) (fun _ => ?_)
    refine lv_iconst (v := 1) hx hb dX0_hit_8 (by decide) ?_
    refine lv_goto (tgt := 13) hx hb dX0_hit_9 (by decide) ?_
    rw [hQ]
    exact W.iret (v := 1) hx hb hr (fun tQ htQ hWQ => ⟨1, rfl, hb_y hma hj hd_3, by rw [htQ]⟩) (fun q hq => absurd hq List.not_mem_nil) dX0_hit_13
  · skip
    refine lv_if_eq (tgt := 12) hx hb dX0_hit_5 (by decide) (fun _ => ?_) (fun c_5 => absurd c_5 (by decide))
    refine lv_iconst (v := 0) hx hb dX0_hit_12 (by decide) ?_
    rw [hQ]
    exact W.iret (v := 0) hx hb hr (fun tQ htQ hWQ => ⟨0, rfl, hb_n hma hj hd_3, by rw [htQ]⟩) (fun q hq => absurd hq List.not_mem_nil) dX0_hit_13

theorem kc_xBegin_0 : ∀ w ∈ wsX00, w ∈ wsX0_begin := fun w h => List.mem_cons_of_mem _ (gin_wsX00 w h)
theorem kc_xBegin_1 : (.fieldLink RX0 9 "MistHeaps$Chances" "drifts" "[I" : Cond) ∈ wsX0_begin := kc_of 287 rfl rfl rfl
theorem kc_xBegin_2 : (.fieldLink RX0 17 "MistHeaps$Chances" "times" "[[J" : Cond) ∈ wsX0_begin := kc_of 288 rfl rfl rfl
set_option maxHeartbeats 4000000 in
set_option maxRecDepth 100000 in
theorem c_xBegin (l : Launch) (dC : Nat → ClassId) (dI : Nat → Nat → Nat) (gd : Nat → Nat)  (sc : Nat) (ch : Nat) (aTp : Nat) (aHl : Nat) (aHs : Nat) (aWk : Nat) (aBk : Nat) (aFc : Nat) (bW : Nat) (bA : Nat) (bE : Nat) (bC : Nat) (dr : Nat) (tO : Nat) (hO : Nat) (ts : Nat) (nh : Nat) (n : Nat) (wz : Nat) (bz : Nat) (cl : Nat) (i : Nat) (j : Nat) (mi : Int32) (sn : Int32) (sg : Int32) (cdd : Int32) (szz : Int32) (att : Int32) (nmb : Int32) (fr : Int32) (ed : Int64) (ft : Int64) (cFc : ClassId) (cbW : ClassId) (cbA : ClassId) (cbE : ClassId) (cbC : ClassId) (cD : ClassId) (cTO : ClassId) (cT : ClassId) (fFc : Nat → Int32) (fbW : Nat → Int32) (fbA : Nat → Int32) (fbE : Nat → Int32) (fbC : Nat → Int32) (fD : Nat → Int32) (ft0 : Nat → Int64) (rt : Nat → Nat) (tpv : Value) (cz : List pCla) (sz : Nat) (zcl : cl ≤ 10) (zE : ∀ k0, k0 < 10 → ∃ e0 : Nat, e0 ≤ 100 ∧ fbE k0 = nI e0) (zC : ∀ k0, k0 < 100 → okC (fbC k0)) (hj36 : j < 36) (zHC : HC cl sg fbW fbA fbE fbC cz ∧ WfC cz) : Met l yX0_begin wsX0_begin ({ frames := 4, cells := 0, slots := 0, locals := 94 } : Room) (va_Pc [.ref ch, .ref sc, .int (nI j)] (fun U => U.heap.size = sz ∧ va_P (dC, dI) vwCl [(zo2lirrr ch ft fr dr tO hO), (zaI dr cD 36 fD), (zaR tO cTO 3 (fun i => if i < 3 then some (rt i) else none)), (zaL (rt 0) cT 36 ft0), (zo10ririliiriririr sc aTp (nI ts) aHl (nI nh) ed mi sn aHs (nI n) aWk (nI wz) aBk (nI bz) aFc), (zaI aFc cFc 6 fFc)] U.heap ∧ va_K (dC, dI) vwCl [(cD, .int), (cTO, .array .long), (cT, .long), (cFc, .int)] U ∧ va_D (fun _ => True) [(zo2lirrr ch ft fr dr tO hO), (zaI dr cD 36 fD), (zaR tO cTO 3 (fun i => if i < 3 then some (rt i) else none)), (zaL (rt 0) cT 36 ft0), (zo10ririliiriririr sc aTp (nI ts) aHl (nI nh) ed mi sn aHs (nI n) aWk (nI wz) aBk (nI bz) aFc), (zaI aFc cFc 6 fFc)] ∧ Gl gd (va_A [(zo2lirrr ch ft fr dr tO hO), (zaI dr cD 36 fD), (zaR tO cTO 3 (fun i => if i < 3 then some (rt i) else none)), (zaL (rt 0) cT 36 ft0), (zo10ririliiriririr sc aTp (nI ts) aHl (nI nh) ed mi sn aHs (nI n) aWk (nI wz) aBk (nI bz) aFc), (zaI aFc cFc 6 fFc)] sz) U ∧ Fz dC dI [(zo7iirrrriviii aHl sg (nI cl) bW bA bE bC cdd tpv szz att nmb), (zaI bW cbW 10 fbW), (zaI bA cbA 10 fbA), (zaI bE cbE 10 fbE), (zaI bC cbC 100 fbC)] [(cbW, .int), (cbA, .int), (cbE, .int), (cbC, .int)] (va_A [(zo2lirrr ch ft fr dr tO hO), (zaI dr cD 36 fD), (zaR tO cTO 3 (fun i => if i < 3 then some (rt i) else none)), (zaL (rt 0) cT 36 ft0), (zo10ririliiriririr sc aTp (nI ts) aHl (nI nh) ed mi sn aHs (nI n) aWk (nI wz) aBk (nI bz) aFc), (zaI aFc cFc 6 fFc)] sz) U)) (va_Qv (fun (u : (Nat → Int32) × (Nat → Int64) × (Nat → Int32)) => match u with | (fD9, ft09, fFc9) => (∀ k0, k0 < 36 → fD9 k0 = DRV cz mi sn (nI k0)) ∧ ∀ k0, k0 < 36 → ft09 k0 = lN (if k0 = j then 1 else 0)) (fun (u : (Nat → Int32) × (Nat → Int64) × (Nat → Int32)) (t : State) => match u with | (fD9, ft09, fFc9) => va_P (dC, dI) vwCl [(zo2lirrr ch ft fr dr tO hO), (zaI dr cD 36 fD9), (zaR tO cTO 3 (fun i => if i < 3 then some (rt i) else none)), (zaL (rt 0) cT 36 ft09), (zo10ririliiriririr sc aTp (nI ts) aHl (nI nh) ed mi sn aHs (nI n) aWk (nI wz) aBk (nI bz) aFc), (zaI aFc cFc 6 fFc9)] t.heap ∧ va_K (dC, dI) vwCl [(cD, .int), (cTO, .array .long), (cT, .long), (cFc, .int)] t ∧ va_D (va_A [(zo2lirrr ch ft fr dr tO hO), (zaI dr cD 36 fD), (zaR tO cTO 3 (fun i => if i < 3 then some (rt i) else none)), (zaL (rt 0) cT 36 ft0), (zo10ririliiriririr sc aTp (nI ts) aHl (nI nh) ed mi sn aHs (nI n) aWk (nI wz) aBk (nI bz) aFc), (zaI aFc cFc 6 fFc)] sz) [(zo2lirrr ch ft fr dr tO hO), (zaI dr cD 36 fD9), (zaR tO cTO 3 (fun i => if i < 3 then some (rt i) else none)), (zaL (rt 0) cT 36 ft09), (zo10ririliiriririr sc aTp (nI ts) aHl (nI nh) ed mi sn aHs (nI n) aWk (nI wz) aBk (nI bz) aFc), (zaI aFc cFc 6 fFc9)]) (va_A [(zo2lirrr ch ft fr dr tO hO), (zaI dr cD 36 fD), (zaR tO cTO 3 (fun i => if i < 3 then some (rt i) else none)), (zaL (rt 0) cT 36 ft0), (zo10ririliiriririr sc aTp (nI ts) aHl (nI nh) ed mi sn aHs (nI n) aWk (nI wz) aBk (nI bz) aFc), (zaI aFc cFc 6 fFc)] sz)) 0 0 (va_A [(zo2lirrr ch ft fr dr tO hO), (zaI dr cD 36 fD), (zaR tO cTO 3 (fun i => if i < 3 then some (rt i) else none)), (zaL (rt 0) cT 36 ft0), (zo10ririliiriririr sc aTp (nI ts) aHl (nI nh) ed mi sn aHs (nI n) aWk (nI wz) aBk (nI bz) aFc), (zaI aFc cFc 6 fFc)] sz) := by
  refine met_ofQ (cc := cX0_begin) (maxL := 4) (ret := none) (by decide) rfl ?_
  intro p e s m args below meth c s₁ Q B hml hv hQ
  obtain ⟨rfl, hsz, hP, hK, hD0, hG, hZ⟩ := hv
  have hx := B.exec
  have hb := B.bytes
  have hr := B.returns
  have hts := atoms_spec (ws := wsX0_begin) B.pre
  have hown : s.vm.findClass RX0 = some m.cls := findClass_of_methodNamed B.named
  have hlocks := B.notSynchronized
  subst hsz
  have hD := hD0.self (sz := s.heap.size)
  generalize hAe : va_A [(zo2lirrr ch ft fr dr tO hO), (zaI dr cD 36 fD), (zaR tO cTO 3 (fun i => if i < 3 then some (rt i) else none)), (zaL (rt 0) cT 36 ft0), (zo10ririliiriririr sc aTp (nI ts) aHl (nI nh) ed mi sn aHs (nI n) aWk (nI wz) aBk (nI bz) aFc), (zaI aFc cFc 6 fFc)] s.heap.size = A at hD hQ hG hZ ⊢
  have hA : ∀ q : Nat, s.heap.size ≤ q → A q := fun q h => by rw [← hAe]; exact Or.inr h
  have hS : va_S A s.heap s.heap [] := va_S.rf
  have hl := lv_entry [.ref ch, .ref sc, .int (nI j)] (n := 4) (Nat.le_of_ble_eq_true rfl)
  rw [lg_entry_eq]
  generalize (lg_sl [.ref ch, .ref sc, .int (nI j)] ++ List.replicate (4 - (lg_sl [.ref ch, .ref sc, .int (nI j)]).length) Slot.unset).toArray = ls at hl ⊢
  generalize hag : ([.ref ch, .ref sc, .int (nI j)] : List Value).toArray = args at hts hQ ⊢
  have hl : lv_has ls 4 [(0, .ref ch), (1, .ref sc), (2, .int (nI j))] := hl
  obtain ⟨H, hH⟩ : ∃ H : Heap, H = s.heap := ⟨_, rfl⟩
  rw [← hH] at hP
  rw [← hH]
  have hS : va_S A s.heap H [] := by rw [hH]; exact hS
  obtain ⟨locs, hlo⟩ : ∃ L : List Loc, L = [] := ⟨_, rfl⟩
  rw [← hlo] at hS
  rw [← hlo]
  clear hH hlo
  refine lv_iconst (v := 0) hx hb dX0_begin_0 (by decide) ?_
  refine lv_istore_n (lv' := [(3, .int 0), (0, .ref ch), (1, .ref sc), (2, .int (nI j))]) hx hb dX0_begin_1 rfl hl (by decide) rfl (fun ls hl => ?_)
  have L2 : ∀ (nF : Nat) (i : Nat) (fD2 : Nat → Int32) (ft02 : Nat → Int64) (fFc2 : Nat → Int32), 36 - i < nF → (i ≤ 36) → (∀ k0, k0 < i → fD2 k0 = DRV cz mi sn (nI k0)) → (∀ k0, k0 < i → ft02 k0 = lN (if k0 = j then 1 else 0)) → ∀ (H : Heap) (locs : List Loc), va_K (dC, dI) vwCl [(cD, .int), (cTO, .array .long), (cT, .long), (cFc, .int)] s → va_P (dC, dI) vwCl [(zo2lirrr ch ft fr dr tO hO), (zaI dr cD 36 fD2), (zaR tO cTO 3 (fun i => if i < 3 then some (rt i) else none)), (zaL (rt 0) cT 36 ft02), (zo10ririliiriririr sc aTp (nI ts) aHl (nI nh) ed mi sn aHs (nI n) aWk (nI wz) aBk (nI bz) aFc), (zaI aFc cFc 6 fFc2)] H → va_D A [(zo2lirrr ch ft fr dr tO hO), (zaI dr cD 36 fD2), (zaR tO cTO 3 (fun i => if i < 3 then some (rt i) else none)), (zaL (rt 0) cT 36 ft02), (zo10ririliiriririr sc aTp (nI ts) aHl (nI nh) ed mi sn aHs (nI n) aWk (nI wz) aBk (nI bz) aFc), (zaI aFc cFc 6 fFc2)] → va_S A s.heap H locs → ∀ (ls : Array Slot), lv_has ls 4 [(0, .ref ch), (1, .ref sc), (2, .int (nI j)), (3, .int (nI i))] → W p l e ({ frames := 4, cells := 0, slots := 0, locals := 94 } : Room) s m args below meth c H locs 0 0 Q (F0 m 2 ls []) := by
    intro nF
    induction nF with
    | zero => intro i fD2 ft02 fFc2 hm; exact absurd hm (Nat.not_lt_zero _)
    | succ nF ih2 =>
      intro i fD2 ft02 fFc2 hm hii hd9 hb9 H locs hK hP hD hS ls hl
      refine lv_iload_n hx hb dX0_begin_2 rfl (lv_at hl 3 rfl) ?_
      refine lv_bipush (v := 36) hx hb dX0_begin_3 (by decide) ?_
      refine lv_icmp_ge (tgt := 43) hx hb dX0_begin_5 (by decide) (fun c_1 => ?_) (fun c_1 => ?_)
      · skip
        have c_1 : 36 ≤ i := (nI_leI (a := 36) (b := i) (by omega) (by omega)).mp c_1
        rw [hQ]
        have hP9 := hP.sub (ws' := [(zo2lirrr ch ft fr dr tO hO), (zaI dr cD 36 fD2), (zaR tO cTO 3 (fun i => if i < 3 then some (rt i) else none)), (zaL (rt 0) cT 36 ft02), (zo10ririliiriririr sc aTp (nI ts) aHl (nI nh) ed mi sn aHs (nI n) aWk (nI wz) aBk (nI bz) aFc), (zaI aFc cFc 6 fFc2)]) [0, 1, 2, 3, 4, 5] rfl
        have hD9 := hD.sub (ws' := [(zo2lirrr ch ft fr dr tO hO), (zaI dr cD 36 fD2), (zaR tO cTO 3 (fun i => if i < 3 then some (rt i) else none)), (zaL (rt 0) cT 36 ft02), (zo10ririliiriririr sc aTp (nI ts) aHl (nI nh) ed mi sn aHs (nI n) aWk (nI wz) aBk (nI bz) aFc), (zaI aFc cFc 6 fFc2)]) [0, 1, 2, 3, 4, 5] (by decide) rfl
        have hK9 := hK.sub (tys' := [(cD, .int), (cTO, .array .long), (cT, .long), (cFc, .int)]) [0, 1, 2, 3] rfl
        exact W.vret hx hb hr (fun tQ htQ hWQ => ⟨⟨(fD2, ft02, fFc2), rfl, ⟨fun k0 h0 => hd9 k0 (by omega), fun k0 h0 => hb9 k0 (by omega)⟩, by rw [htQ]; exact hP9, va_K.moved hWQ.alike hK9, hD9⟩, hS.F htQ⟩) hS.2.2 dX0_begin_43
      · skip
        have c_1 : ¬ 36 ≤ i := fun q => c_1 ((nI_leI (a := 36) (b := i) (by omega) (by omega)).mpr q)
        refine lv_aload_n hx hb dX0_begin_8 rfl (lv_at hl 0 rfl) ?_
        refine va_get (D := (dC, dI)) (ci := 2) (v := .ref dr) (C := RX0) (T := TX0) (N := 5) hx hb hts kc_xBegin_0 hown hK hP 0 rfl rfl 2 (by decide) (hts (.fieldLink RX0 9 "MistHeaps$Chances" "drifts" "[I") kc_xBegin_1) (fun _ h9 => h9) rfl dX0_begin_9 ?_
        refine lv_iload_n hx hb dX0_begin_12 rfl (lv_at hl 3 rfl) ?_
        refine lv_aload_n hx hb dX0_begin_13 rfl (lv_at hl 1 rfl) ?_
        refine lv_iload_n hx hb dX0_begin_14 rfl (lv_at hl 3 rfl) ?_
        have hPc := hP.sub (ws' := [(zo10ririliiriririr sc aTp (nI ts) aHl (nI nh) ed mi sn aHs (nI n) aWk (nI wz) aBk (nI bz) aFc), (zaI aFc cFc 6 fFc2)]) [4, 5] rfl
        have hDc := hD.sub (ws' := [(zo10ririliiriririr sc aTp (nI ts) aHl (nI nh) ed mi sn aHs (nI n) aWk (nI wz) aBk (nI bz) aFc), (zaI aFc cFc 6 fFc2)]) [4, 5] (by decide) rfl
        have hKc := hK.sub (tys' := [(cFc, .int)]) [3] rfl
        have hFc := va_free (wc := [(zo10ririliiriririr sc aTp (nI ts) aHl (nI nh) ed mi sn aHs (nI n) aWk (nI wz) aBk (nI bz) aFc), (zaI aFc cFc 6 fFc2)]) hD hS hA [4, 5] rfl
        refine va_calli (va_runV (As := [.int (nI i)]) (rest := [.int (nI i), .ref dr]) ⟨hx, hb, hml, hown, hts⟩ (c_xDriftOn l dC dI gd  sc aTp aHl aHs aWk aBk aFc bW bA bE bC ts nh n wz bz cl mi sn sg cdd szz att nmb (nI i) ed cFc cbW cbA cbE cbC fFc2 fbW fbA fbE fbC tpv cz H.size (zcl) (zE) (zC) (zHC)) (cwV 1 hts gX0_begin_X8_driftOn rfl rfl rfl hd_yX8_driftOn ⟨Nat.le_of_ble_eq_true rfl, Nat.le_of_ble_eq_true rfl⟩) ⟨fun a U g mk q => by obtain ⟨q0, q1, qP, qK, qD, qhG, qhZ⟩ := q; exact ⟨q0, mvz g mk a q1, mvP g mk a qP, mvK g mk a qK, qD, qhG.mv g mk a, qhZ.mv g mk a⟩, va_recv hK hP (ci := 10) (q := (RX8, TX8, 14)) (q0 := 4) rfl rfl, fun U hU hW => ⟨rfl, by rw [hU], by rw [hU]; exact hPc, va_K.moved hW.alike hKc, hDc.weaken (fun _ _ _ _ => trivial), hG.call hS hU hW (fun q h => hFc q h), (hZ.sub [0, 1, 2, 3, 4] [0, 1, 2, 3] rfl rfl).call hS hU hW (fun q h => hFc q h)⟩⟩ rfl rfl hl.1 rfl (lv_room (Nat.le_of_ble_eq_true rfl)) dX0_begin_15 ⟨Nat.le_of_ble_eq_true rfl, Nat.le_of_ble_eq_true rfl⟩) hS (fun q _ h => hFc q h) hFc (fun r_2 u tC H1 locs htC hvm hw_3 hB hz1 hk1 hS => ?_)
        obtain ⟨fFc9_4, rfl⟩ : ∃ z, z = u := ⟨_, rfl⟩
        try dsimp only at hw_3 hB
        obtain ⟨hP1, hK1, hD1⟩ := hB
        rw [htC] at hP1
        have hK1 := va_K.moved hvm.symm hK1
        obtain ⟨hP, hD⟩ := va_join (wr := [(zo2lirrr ch ft fr dr tO hO), (zaI dr cD 36 fD2), (zaR tO cTO 3 (fun i => if i < 3 then some (rt i) else none)), (zaL (rt 0) cT 36 ft02)]) (w1 := [(zo10ririliiriririr sc aTp (nI ts) aHl (nI nh) ed mi sn aHs (nI n) aWk (nI wz) aBk (nI bz) aFc), (zaI aFc cFc 6 fFc9_4)]) hP hD [4, 5] [0, 1, 2, 3] rfl rfl (by decide) (by decide) hk1 hFc hP1 hD1
        have hK := (hK.sub (tys' := [(cD, .int), (cTO, .array .long), (cT, .long)]) [0, 1, 2] rfl).app hK1
        generalize H1 = H at hP hS ⊢
        have hP : va_P (dC, dI) vwCl [(zo2lirrr ch ft fr dr tO hO), (zaI dr cD 36 fD2), (zaR tO cTO 3 (fun i => if i < 3 then some (rt i) else none)), (zaL (rt 0) cT 36 ft02), (zo10ririliiriririr sc aTp (nI ts) aHl (nI nh) ed mi sn aHs (nI n) aWk (nI wz) aBk (nI bz) aFc), (zaI aFc cFc 6 fFc9_4)] H := hP
        have hD : va_D A [(zo2lirrr ch ft fr dr tO hO), (zaI dr cD 36 fD2), (zaR tO cTO 3 (fun i => if i < 3 then some (rt i) else none)), (zaL (rt 0) cT 36 ft02), (zo10ririliiriririr sc aTp (nI ts) aHl (nI nh) ed mi sn aHs (nI n) aWk (nI wz) aBk (nI bz) aFc), (zaI aFc cFc 6 fFc9_4)] := hD
        have hK : va_K (dC, dI) vwCl [(cD, .int), (cTO, .array .long), (cT, .long), (cFc, .int)] s := hK
        obtain rfl := hw_3
        refine va_iast hx hb hK hP hD hS 1 0 rfl rfl (vp_in_nI (n := i) (N := 36) (by omega) (by omega)) dX0_begin_18 (fun H locs hP hD hS => ?_)
        rw [nI_clamp (n := i) (by omega)] at hP hD
        have hP : va_P (dC, dI) vwCl [(zo2lirrr ch ft fr dr tO hO), (zaI dr cD 36 (upd fD2 i (DRV cz mi sn (nI i)))), (zaR tO cTO 3 (fun i => if i < 3 then some (rt i) else none)), (zaL (rt 0) cT 36 ft02), (zo10ririliiriririr sc aTp (nI ts) aHl (nI nh) ed mi sn aHs (nI n) aWk (nI wz) aBk (nI bz) aFc), (zaI aFc cFc 6 fFc9_4)] H := hP
        have hD : va_D A [(zo2lirrr ch ft fr dr tO hO), (zaI dr cD 36 (upd fD2 i (DRV cz mi sn (nI i)))), (zaR tO cTO 3 (fun i => if i < 3 then some (rt i) else none)), (zaL (rt 0) cT 36 ft02), (zo10ririliiriririr sc aTp (nI ts) aHl (nI nh) ed mi sn aHs (nI n) aWk (nI wz) aBk (nI bz) aFc), (zaI aFc cFc 6 fFc9_4)] := hD
        refine lv_aload_n hx hb dX0_begin_19 rfl (lv_at hl 0 rfl) ?_
        refine va_get (D := (dC, dI)) (ci := 2) (v := .ref tO) (C := RX0) (T := TX0) (N := 5) hx hb hts kc_xBegin_0 hown hK hP 0 rfl rfl 3 (by decide) (hts (.fieldLink RX0 17 "MistHeaps$Chances" "times" "[[J") kc_xBegin_2) (fun _ h9 => h9) rfl dX0_begin_20 ?_
        refine lv_iconst (v := 0) hx hb dX0_begin_23 (by decide) ?_
        refine va_alda hx hb hK hP 2 1 rfl rfl (vp_in_nI (n := 0) (N := 3) (by omega) (by omega)) dX0_begin_24 ?_
        refine qq_as (v := .ref (rt 0)) (rfl) ?_
        refine lv_iload_n hx hb dX0_begin_25 rfl (lv_at hl 3 rfl) ?_
        refine lv_iload_n hx hb dX0_begin_26 rfl (lv_at hl 3 rfl) ?_
        refine lv_iload_n hx hb dX0_begin_27 rfl (lv_at hl 2 rfl) ?_
        refine lv_icmp_ne (tgt := 35) hx hb dX0_begin_28 (by decide) (fun c_5 => ?_) (fun c_5 => ?_)
        · skip
          have c_5 : ¬ i = j := fun q => c_5 ((nI_eq (a := i) (b := j) (by omega) (by omega)).mpr q)
          refine lv_lconst (v := 0) hx hb dX0_begin_35 (by decide) ?_
          refine va_last hx hb hK hP hD hS 3 2 rfl rfl (vp_in_nI (n := i) (N := 36) (by omega) (by omega)) dX0_begin_36 (fun H locs hP hD hS => ?_)
          rw [nI_clamp (n := i) (by omega)] at hP hD
          have hP : va_P (dC, dI) vwCl [(zo2lirrr ch ft fr dr tO hO), (zaI dr cD 36 (upd fD2 i (DRV cz mi sn (nI i)))), (zaR tO cTO 3 (fun i => if i < 3 then some (rt i) else none)), (zaL (rt 0) cT 36 (vp_updL ft02 i 0)), (zo10ririliiriririr sc aTp (nI ts) aHl (nI nh) ed mi sn aHs (nI n) aWk (nI wz) aBk (nI bz) aFc), (zaI aFc cFc 6 fFc9_4)] H := hP
          have hD : va_D A [(zo2lirrr ch ft fr dr tO hO), (zaI dr cD 36 (upd fD2 i (DRV cz mi sn (nI i)))), (zaR tO cTO 3 (fun i => if i < 3 then some (rt i) else none)), (zaL (rt 0) cT 36 (vp_updL ft02 i 0)), (zo10ririliiriririr sc aTp (nI ts) aHl (nI nh) ed mi sn aHs (nI n) aWk (nI wz) aBk (nI bz) aFc), (zaI aFc cFc 6 fFc9_4)] := hD
          refine lv_iinc (v := nI (i + 1)) (lv' := [(3, .int (nI (i + 1))), (0, .ref ch), (1, .ref sc), (2, .int (nI j))]) hx hb dX0_begin_37 hl (k := 3) rfl (nI_add i 1) (by decide) rfl (fun ls hl => ?_)
          refine lv_goto (tgt := 2) hx hb dX0_begin_40 (by decide) ?_
          exact ih2 (i + 1) ((upd fD2 i (DRV cz mi sn (nI i)))) ((vp_updL ft02 i 0)) _ (by omega) (by omega) (me_up (g := fun k0 => DRV cz mi sn (nI k0)) hd9) (bg_f hb9 (by omega)) _ _ (hK.sub [0, 1, 2, 3] rfl) (hP.sub [0, 1, 2, 3, 4, 5] rfl) (hD.sub [0, 1, 2, 3, 4, 5] (by decide) rfl) hS ls (lv_sub hl [1, 2, 3, 0] rfl)
        · skip
          have c_5 : i = j := (nI_eq (a := i) (b := j) (by omega) (by omega)).mp c_5
          refine lv_lconst (v := 1) hx hb dX0_begin_31 (by decide) ?_
          refine lv_goto (tgt := 36) hx hb dX0_begin_32 (by decide) ?_
          refine va_last hx hb hK hP hD hS 3 2 rfl rfl (vp_in_nI (n := i) (N := 36) (by omega) (by omega)) dX0_begin_36 (fun H locs hP hD hS => ?_)
          rw [nI_clamp (n := i) (by omega)] at hP hD
          have hP : va_P (dC, dI) vwCl [(zo2lirrr ch ft fr dr tO hO), (zaI dr cD 36 (upd fD2 i (DRV cz mi sn (nI i)))), (zaR tO cTO 3 (fun i => if i < 3 then some (rt i) else none)), (zaL (rt 0) cT 36 (vp_updL ft02 i 1)), (zo10ririliiriririr sc aTp (nI ts) aHl (nI nh) ed mi sn aHs (nI n) aWk (nI wz) aBk (nI bz) aFc), (zaI aFc cFc 6 fFc9_4)] H := hP
          have hD : va_D A [(zo2lirrr ch ft fr dr tO hO), (zaI dr cD 36 (upd fD2 i (DRV cz mi sn (nI i)))), (zaR tO cTO 3 (fun i => if i < 3 then some (rt i) else none)), (zaL (rt 0) cT 36 (vp_updL ft02 i 1)), (zo10ririliiriririr sc aTp (nI ts) aHl (nI nh) ed mi sn aHs (nI n) aWk (nI wz) aBk (nI bz) aFc), (zaI aFc cFc 6 fFc9_4)] := hD
          refine lv_iinc (v := nI (i + 1)) (lv' := [(3, .int (nI (i + 1))), (0, .ref ch), (1, .ref sc), (2, .int (nI j))]) hx hb dX0_begin_37 hl (k := 3) rfl (nI_add i 1) (by decide) rfl (fun ls hl => ?_)
          refine lv_goto (tgt := 2) hx hb dX0_begin_40 (by decide) ?_
          exact ih2 (i + 1) ((upd fD2 i (DRV cz mi sn (nI i)))) ((vp_updL ft02 i 1)) _ (by omega) (by omega) (me_up (g := fun k0 => DRV cz mi sn (nI k0)) hd9) (bg_t hb9 (by omega)) _ _ (hK.sub [0, 1, 2, 3] rfl) (hP.sub [0, 1, 2, 3, 4, 5] rfl) (hD.sub [0, 1, 2, 3, 4, 5] (by decide) rfl) hS ls (lv_sub hl [1, 2, 3, 0] rfl)
  exact L2 _ (0) (fD) (ft0) _ (Nat.lt_succ_self _) (by omega) (fun k0 h0 => absurd h0 (Nat.not_lt_zero k0)) (fun k0 h0 => absurd h0 (Nat.not_lt_zero k0)) _ _ (hK.sub [0, 1, 2, 3] rfl) (hP.sub [0, 1, 2, 3, 4, 5] rfl) (hD.sub [0, 1, 2, 3, 4, 5] (by decide) rfl) hS ls (lv_sub hl [1, 2, 3, 0] rfl)

theorem kc_xSpread_0 : ∀ w ∈ wsX80, w ∈ wsX0_spread := fun w h => List.mem_cons_of_mem _ (gin_wsX80 w h)
theorem kc_xSpread_1 : (.fieldLink RX0 52 "MistHeaps$Scene" "edges" "J" : Cond) ∈ wsX0_spread := kc_of 162 rfl rfl rfl
theorem kc_xSpread_2 : (.initialized RX11 : Cond) ∈ wsX0_spread := kc_of 63 rfl rfl rfl
theorem kc_xSpread_3 : (.static yX11_isIn : Cond) ∈ wsX0_spread := kc_of 840 rfl rfl rfl
theorem kc_xSpread_4 : (.constantLong RX0 25 (20) : Cond) ∈ wsX0_spread := kc_of 842 rfl rfl rfl
theorem kc_xSpread_5 : ∀ w ∈ wsX00, w ∈ wsX0_spread := fun w h => List.mem_cons_of_mem _ (gin_wsX00 w h)
theorem kc_xSpread_6 : (.fieldLink RX0 9 "MistHeaps$Chances" "drifts" "[I" : Cond) ∈ wsX0_spread := kc_of 287 rfl rfl rfl
theorem kc_xSpread_7 : (.static yX11_besideOrSame : Cond) ∈ wsX0_spread := kc_of 844 rfl rfl rfl
set_option maxHeartbeats 4000000 in
set_option maxRecDepth 100000 in
theorem c_xSpread (l : Launch) (dC : Nat → ClassId) (dI : Nat → Nat → Nat) (gd : Nat → Nat) (sc : Nat) (ch : Nat) (aTp : Nat) (aHl : Nat) (aHs : Nat) (aWk : Nat) (aBk : Nat) (aFc : Nat) (dr : Nat) (tO : Nat) (hO : Nat) (ts : Nat) (nh : Nat) (n : Nat) (wz : Nat) (bz : Nat) (k : Nat) (mi : Int32) (sn : Int32) (fr : Int32) (ft : Int64) (cD : ClassId) (fD : Nat → Int32) (fa : Nat) (ta : Nat) (cA1 : ClassId) (cA2 : ClassId) (ff : Nat → Int64) (tt : Nat → Int64) (ee : Nat) (T drf : Nat → Nat) (sz : Nat) (hk8 : k < 8) (hT : lnA ff T) (hTb : ∀ k0, k0 < 36 → T k0 ≤ 64000000) (hdr : ∀ k0, k0 < 36 → fD k0 = nI (drf k0) ∧ drf k0 ≤ 5) (hee : ee < 2 ^ 36) : Met l yX0_spread wsX0_spread ({ frames := 2, cells := 0, slots := 0, locals := 44 } : Room) (va_Pc [.ref ch, .ref sc, .ref fa, .int (nI k), .ref ta] (fun U => U.heap.size = sz ∧ va_P (dC, dI) vwCl [(zo2lirrr ch ft fr dr tO hO), (zaI dr cD 36 fD), (zo10ririliiriririr sc aTp (nI ts) aHl (nI nh) (lN ee) mi sn aHs (nI n) aWk (nI wz) aBk (nI bz) aFc), (zaL fa cA1 36 ff), (zaL ta cA2 36 tt)] U.heap ∧ va_K (dC, dI) vwCl [(cD, .int), (cA1, .long), (cA2, .long)] U ∧ va_D (fun _ => True) [(zo2lirrr ch ft fr dr tO hO), (zaI dr cD 36 fD), (zo10ririliiriririr sc aTp (nI ts) aHl (nI nh) (lN ee) mi sn aHs (nI n) aWk (nI wz) aBk (nI bz) aFc), (zaL fa cA1 36 ff), (zaL ta cA2 36 tt)] ∧ Gl gd (va_A [(zo2lirrr ch ft fr dr tO hO), (zaI dr cD 36 fD), (zo10ririliiriririr sc aTp (nI ts) aHl (nI nh) (lN ee) mi sn aHs (nI n) aWk (nI wz) aBk (nI bz) aFc), (zaL fa cA1 36 ff), (zaL ta cA2 36 tt)] sz) U)) (va_Qv (fun (u : Nat → Int64) => match u with | tt9 => lnA tt9 (gsF (edB ee) drf k T 36)) (fun (u : Nat → Int64) (t : State) => match u with | tt9 => va_P (dC, dI) vwCl [(zo2lirrr ch ft fr dr tO hO), (zaI dr cD 36 fD), (zo10ririliiriririr sc aTp (nI ts) aHl (nI nh) (lN ee) mi sn aHs (nI n) aWk (nI wz) aBk (nI bz) aFc), (zaL fa cA1 36 ff), (zaL ta cA2 36 tt9)] t.heap ∧ va_K (dC, dI) vwCl [(cD, .int), (cA1, .long), (cA2, .long)] t ∧ va_D (va_A [(zo2lirrr ch ft fr dr tO hO), (zaI dr cD 36 fD), (zo10ririliiriririr sc aTp (nI ts) aHl (nI nh) (lN ee) mi sn aHs (nI n) aWk (nI wz) aBk (nI bz) aFc), (zaL fa cA1 36 ff), (zaL ta cA2 36 tt)] sz) [(zo2lirrr ch ft fr dr tO hO), (zaI dr cD 36 fD), (zo10ririliiriririr sc aTp (nI ts) aHl (nI nh) (lN ee) mi sn aHs (nI n) aWk (nI wz) aBk (nI bz) aFc), (zaL fa cA1 36 ff), (zaL ta cA2 36 tt9)]) (va_A [(zo2lirrr ch ft fr dr tO hO), (zaI dr cD 36 fD), (zo10ririliiriririr sc aTp (nI ts) aHl (nI nh) (lN ee) mi sn aHs (nI n) aWk (nI wz) aBk (nI bz) aFc), (zaL fa cA1 36 ff), (zaL ta cA2 36 tt)] sz)) 0 0 (va_A [(zo2lirrr ch ft fr dr tO hO), (zaI dr cD 36 fD), (zo10ririliiriririr sc aTp (nI ts) aHl (nI nh) (lN ee) mi sn aHs (nI n) aWk (nI wz) aBk (nI bz) aFc), (zaL fa cA1 36 ff), (zaL ta cA2 36 tt)] sz) := by
  refine met_ofQ (cc := cX0_spread) (maxL := 9) (ret := none) (by decide) rfl ?_
  intro p e s m args below meth c s₁ Q B hml hv hQ
  obtain ⟨rfl, hsz, hP, hK, hD0, hG⟩ := hv
  have hx := B.exec
  have hb := B.bytes
  have hr := B.returns
  have hts := atoms_spec (ws := wsX0_spread) B.pre
  have hown : s.vm.findClass RX0 = some m.cls := findClass_of_methodNamed B.named
  have hlocks := B.notSynchronized
  subst hsz
  have hD := hD0.self (sz := s.heap.size)
  generalize hAe : va_A [(zo2lirrr ch ft fr dr tO hO), (zaI dr cD 36 fD), (zo10ririliiriririr sc aTp (nI ts) aHl (nI nh) (lN ee) mi sn aHs (nI n) aWk (nI wz) aBk (nI bz) aFc), (zaL fa cA1 36 ff), (zaL ta cA2 36 tt)] s.heap.size = A at hD hQ hG ⊢
  have hA : ∀ q : Nat, s.heap.size ≤ q → A q := fun q h => by rw [← hAe]; exact Or.inr h
  have hS : va_S A s.heap s.heap [] := va_S.rf
  have hl := lv_entry [.ref ch, .ref sc, .ref fa, .int (nI k), .ref ta] (n := 9) (Nat.le_of_ble_eq_true rfl)
  rw [lg_entry_eq]
  generalize (lg_sl [.ref ch, .ref sc, .ref fa, .int (nI k), .ref ta] ++ List.replicate (9 - (lg_sl [.ref ch, .ref sc, .ref fa, .int (nI k), .ref ta]).length) Slot.unset).toArray = ls at hl ⊢
  generalize hag : ([.ref ch, .ref sc, .ref fa, .int (nI k), .ref ta] : List Value).toArray = args at hts hQ ⊢
  have hl : lv_has ls 9 [(0, .ref ch), (1, .ref sc), (2, .ref fa), (3, .int (nI k)), (4, .ref ta)] := hl
  obtain ⟨H, hH⟩ : ∃ H : Heap, H = s.heap := ⟨_, rfl⟩
  rw [← hH] at hP
  rw [← hH]
  have hS : va_S A s.heap H [] := by rw [hH]; exact hS
  obtain ⟨locs, hlo⟩ : ∃ L : List Loc, L = [] := ⟨_, rfl⟩
  rw [← hlo] at hS
  rw [← hlo]
  clear hH hlo
  refine lv_iconst (v := 0) hx hb dX0_spread_0 (by decide) ?_
  refine lv_istore (lv' := [(5, .int 0), (0, .ref ch), (1, .ref sc), (2, .ref fa), (3, .int (nI k)), (4, .ref ta)]) hx hb dX0_spread_1 hl (by decide) rfl (fun ls hl => ?_)
  have L3 : ∀ (nF : Nat) (i : Nat) (tt2 : Nat → Int64), 36 - i < nF → (i ≤ 36) → (∀ k0, k0 < i → tt2 k0 = 0) → ∀ (H : Heap) (locs : List Loc), va_K (dC, dI) vwCl [(cD, .int), (cA1, .long), (cA2, .long)] s → va_P (dC, dI) vwCl [(zo2lirrr ch ft fr dr tO hO), (zaI dr cD 36 fD), (zo10ririliiriririr sc aTp (nI ts) aHl (nI nh) (lN ee) mi sn aHs (nI n) aWk (nI wz) aBk (nI bz) aFc), (zaL fa cA1 36 ff), (zaL ta cA2 36 tt2)] H → va_D A [(zo2lirrr ch ft fr dr tO hO), (zaI dr cD 36 fD), (zo10ririliiriririr sc aTp (nI ts) aHl (nI nh) (lN ee) mi sn aHs (nI n) aWk (nI wz) aBk (nI bz) aFc), (zaL fa cA1 36 ff), (zaL ta cA2 36 tt2)] → va_S A s.heap H locs → ∀ (ls : Array Slot), lv_has ls 9 [(0, .ref ch), (1, .ref sc), (2, .ref fa), (3, .int (nI k)), (4, .ref ta), (5, .int (nI i))] → W p l e ({ frames := 2, cells := 0, slots := 0, locals := 44 } : Room) s m args below meth c H locs 0 0 Q (F0 m 3 ls []) := by
    intro nF
    induction nF with
    | zero => intro i tt2 hm; exact absurd hm (Nat.not_lt_zero _)
    | succ nF ih3 =>
      intro i tt2 hm hii hz9 H locs hK hP hD hS ls hl
      refine lv_iload hx hb dX0_spread_3 (lv_at hl 5 rfl) ?_
      refine lv_bipush (v := 36) hx hb dX0_spread_5 (by decide) ?_
      refine lv_icmp_ge (tgt := 22) hx hb dX0_spread_7 (by decide) (fun c_1 => ?_) (fun c_1 => ?_)
      · skip
        have c_1 : 36 ≤ i := (nI_leI (a := 36) (b := i) (by omega) (by omega)).mp c_1
        refine lv_iconst (v := 0) hx hb dX0_spread_22 (by decide) ?_
        refine lv_istore (lv' := [(5, .int 0), (0, .ref ch), (1, .ref sc), (2, .ref fa), (3, .int (nI k)), (4, .ref ta)]) hx hb dX0_spread_23 hl (by decide) rfl (fun ls hl => ?_)
        have L25 : ∀ (nF : Nat) (i : Nat) (tt2 : Nat → Int64), 36 - i < nF → (i ≤ 36) → (lnA tt2 (gsF (edB ee) drf k T i)) → ∀ (H : Heap) (locs : List Loc), va_K (dC, dI) vwCl [(cD, .int), (cA1, .long), (cA2, .long)] s → va_P (dC, dI) vwCl [(zo2lirrr ch ft fr dr tO hO), (zaI dr cD 36 fD), (zo10ririliiriririr sc aTp (nI ts) aHl (nI nh) (lN ee) mi sn aHs (nI n) aWk (nI wz) aBk (nI bz) aFc), (zaL fa cA1 36 ff), (zaL ta cA2 36 tt2)] H → va_D A [(zo2lirrr ch ft fr dr tO hO), (zaI dr cD 36 fD), (zo10ririliiriririr sc aTp (nI ts) aHl (nI nh) (lN ee) mi sn aHs (nI n) aWk (nI wz) aBk (nI bz) aFc), (zaL fa cA1 36 ff), (zaL ta cA2 36 tt2)] → va_S A s.heap H locs → ∀ (ls : Array Slot), lv_has ls 9 [(0, .ref ch), (1, .ref sc), (2, .ref fa), (3, .int (nI k)), (4, .ref ta), (5, .int (nI i))] → W p l e ({ frames := 2, cells := 0, slots := 0, locals := 44 } : Room) s m args below meth c H locs 0 0 Q (F0 m 25 ls []) := by
          intro nF
          induction nF with
          | zero => intro i tt2 hm; exact absurd hm (Nat.not_lt_zero _)
          | succ nF ih25 =>
            intro i tt2 hm hii hg9 H locs hK hP hD hS ls hl
            refine lv_iload hx hb dX0_spread_25 (lv_at hl 5 rfl) ?_
            refine lv_bipush (v := 36) hx hb dX0_spread_27 (by decide) ?_
            refine lv_icmp_ge (tgt := 162) hx hb dX0_spread_29 (by decide) (fun c_2 => ?_) (fun c_2 => ?_)
            · skip
              have c_2 : 36 ≤ i := (nI_leI (a := 36) (b := i) (by omega) (by omega)).mp c_2
              rw [hQ]
              have hP9 := hP.sub (ws' := [(zo2lirrr ch ft fr dr tO hO), (zaI dr cD 36 fD), (zo10ririliiriririr sc aTp (nI ts) aHl (nI nh) (lN ee) mi sn aHs (nI n) aWk (nI wz) aBk (nI bz) aFc), (zaL fa cA1 36 ff), (zaL ta cA2 36 tt2)]) [0, 1, 2, 3, 4] rfl
              have hD9 := hD.sub (ws' := [(zo2lirrr ch ft fr dr tO hO), (zaI dr cD 36 fD), (zo10ririliiriririr sc aTp (nI ts) aHl (nI nh) (lN ee) mi sn aHs (nI n) aWk (nI wz) aBk (nI bz) aFc), (zaL fa cA1 36 ff), (zaL ta cA2 36 tt2)]) [0, 1, 2, 3, 4] (by decide) rfl
              have hK9 := hK.sub (tys' := [(cD, .int), (cA1, .long), (cA2, .long)]) [0, 1, 2] rfl
              exact W.vret hx hb hr (fun tQ htQ hWQ => ⟨⟨tt2, rfl, fun k0 h0 => by rw [show i = 36 by omega] at hg9; exact hg9 k0 h0, by rw [htQ]; exact hP9, va_K.moved hWQ.alike hK9, hD9⟩, hS.F htQ⟩) hS.2.2 dX0_spread_162
            · skip
              have c_2 : ¬ 36 ≤ i := fun q => c_2 ((nI_leI (a := 36) (b := i) (by omega) (by omega)).mpr q)
              have hTi := hTb i (by omega)
              have hd5 := (hdr i (by omega)).2
              by_cases hz : T i = 0
              · skip
                refine lv_aload_n hx hb dX0_spread_32 rfl (lv_at hl 2 rfl) ?_
                refine lv_iload hx hb dX0_spread_33 (lv_at hl 5 rfl) ?_
                refine va_lald hx hb hK hP 3 1 rfl rfl (vp_in_nI (n := i) (N := 36) (by omega) (by omega)) dX0_spread_35 ?_
                refine ql_as (y := lN (T i)) ((show ff (nI i : Int32).toNatClampNeg = ff i from by rw [nI_clamp (by omega)]).trans (hT i (by omega))) ?_
                refine lv_lstore (lv' := [(6, .long (lN (T i))), (0, .ref ch), (1, .ref sc), (2, .ref fa), (3, .int (nI k)), (4, .ref ta), (5, .int (nI i))]) hx hb dX0_spread_36 hl (by decide) rfl (fun ls hl => ?_)
                refine lv_lload hx hb dX0_spread_38 (lv_at hl 0 rfl) ?_
                refine lv_lconst (v := 0) hx hb dX0_spread_40 (by decide) ?_
                refine W.lcmp hx hb dX0_spread_41 ?_
                refine lv_if_ne (tgt := 48) hx hb dX0_spread_42 (by decide) (fun c_3 => absurd c_3 (fun q9 => q9 ((tz_eq (by omega)).mpr hz))) (fun c_3 => ?_)
                refine lv_goto (tgt := 156) hx hb dX0_spread_45 (by decide) ?_
                refine lv_iinc (v := nI (i + 1)) (lv' := [(5, .int (nI (i + 1))), (6, .long (lN (T i))), (0, .ref ch), (1, .ref sc), (2, .ref fa), (3, .int (nI k)), (4, .ref ta)]) hx hb dX0_spread_156 hl (k := 6) rfl (nI_add i 1) (by decide) rfl (fun ls hl => ?_)
                refine lv_goto (tgt := 25) hx hb dX0_spread_159 (by decide) ?_
                exact ih25 (i + 1) (tt2) (by omega) (by omega) (by rw [gs_0 hz]; exact hg9) _ _ (hK.sub [0, 1, 2] rfl) (hP.sub [0, 1, 2, 3, 4] rfl) (hD.sub [0, 1, 2, 3, 4] (by decide) rfl) hS ls (lv_sub hl [2, 3, 4, 5, 6, 0] rfl)
              · skip
                refine lv_aload_n hx hb dX0_spread_32 rfl (lv_at hl 2 rfl) ?_
                refine lv_iload hx hb dX0_spread_33 (lv_at hl 5 rfl) ?_
                refine va_lald hx hb hK hP 3 1 rfl rfl (vp_in_nI (n := i) (N := 36) (by omega) (by omega)) dX0_spread_35 ?_
                refine ql_as (y := lN (T i)) ((show ff (nI i : Int32).toNatClampNeg = ff i from by rw [nI_clamp (by omega)]).trans (hT i (by omega))) ?_
                refine lv_lstore (lv' := [(6, .long (lN (T i))), (0, .ref ch), (1, .ref sc), (2, .ref fa), (3, .int (nI k)), (4, .ref ta), (5, .int (nI i))]) hx hb dX0_spread_36 hl (by decide) rfl (fun ls hl => ?_)
                refine lv_lload hx hb dX0_spread_38 (lv_at hl 0 rfl) ?_
                refine lv_lconst (v := 0) hx hb dX0_spread_40 (by decide) ?_
                refine W.lcmp hx hb dX0_spread_41 ?_
                refine lv_if_ne (tgt := 48) hx hb dX0_spread_42 (by decide) (fun c_4 => ?_) (fun c_4 => absurd c_4 (fun z9 => hz ((tz_eq (by omega)).mp z9)))
                refine lv_aload_n hx hb dX0_spread_48 rfl (lv_at hl 2 rfl) ?_
                refine va_get (D := (dC, dI)) (ci := 10) (v := .long (lN ee)) (C := RX8) (T := TX8) (N := 14) hx hb hts kc_xSpread_0 hown hK hP 2 rfl rfl 4 (by decide) (hts (.fieldLink RX0 52 "MistHeaps$Scene" "edges" "J") kc_xSpread_1) (fun _ h9 => h9) rfl dX0_spread_49 ?_
                refine lv_iload hx hb dX0_spread_52 (lv_at hl 6 rfl) ?_
                refine vp_callSi (va_runSN (As := [.long (lN ee), .int (nI i)]) (rest := []) ⟨hx, hb, hml, hown, hts⟩ (c_isIn l dC dI (lN ee) (nI i)) ⟨va_cnB 2 hts ggX0_spread_X11_isIn rfl rfl rfl (hG.1 (.methodLinkNest RX0 44 yX11_isIn "MistHeaps") (by decide +kernel)) (hts (.initialized RX11) kc_xSpread_2) (by decide +kernel) ⟨Nat.le_of_ble_eq_true rfl, Nat.le_of_ble_eq_true rfl⟩, (hts (.static yX11_isIn) kc_xSpread_3), trivial⟩ ⟨fun a U g mk q => ⟨q.1, trivial⟩, fun U hU hW => ⟨rfl, trivial⟩⟩ rfl rfl hl.1 rfl (lv_room (Nat.le_of_ble_eq_true rfl)) dX0_spread_54 ⟨Nat.le_of_ble_eq_true rfl, Nat.le_of_ble_eq_true rfl⟩).run (fun r_5 hw_6 => ?_)
                rcases hw_6 with ⟨rfl, hd_7⟩ | ⟨rfl, hd_7⟩
                · skip
                  refine lv_if_eq (tgt := 77) hx hb dX0_spread_57 (by decide) (fun c_8 => absurd c_8 (by decide)) (fun _ => ?_)
                  refine lv_aload hx hb dX0_spread_60 (lv_at hl 5 rfl) ?_
                  refine lv_iload hx hb dX0_spread_62 (lv_at hl 6 rfl) ?_
                  refine lv_dup2_11 hx hb dX0_spread_64 rfl rfl ?_
                  refine va_lald hx hb hK hP 4 2 rfl rfl (vp_in_nI (n := i) (N := 36) (by omega) (by omega)) dX0_spread_65 ?_
                  refine ql_as (y := tt2 i) (by rw [nI_clamp (by omega)]) ?_
                  refine lv_lload hx hb dX0_spread_66 (lv_at hl 0 rfl) ?_
                  refine lv_ldc2 (v := 20) hx hb hown (hts (.constantLong RX0 25 (20)) kc_xSpread_4) dX0_spread_68 ?_
                  refine lv_lmul hx hb dX0_spread_71 ?_
                  refine ql_as (y := lN (20 * T i)) (l20r _) ?_
                  refine lv_ladd hx hb dX0_spread_72 ?_
                  refine va_last hx hb hK hP hD hS 4 2 rfl rfl (vp_in_nI (n := i) (N := 36) (by omega) (by omega)) dX0_spread_73 (fun H locs hP hD hS => ?_)
                  rw [nI_clamp (n := i) (by omega)] at hP hD
                  have hP : va_P (dC, dI) vwCl [(zo2lirrr ch ft fr dr tO hO), (zaI dr cD 36 fD), (zo10ririliiriririr sc aTp (nI ts) aHl (nI nh) (lN ee) mi sn aHs (nI n) aWk (nI wz) aBk (nI bz) aFc), (zaL fa cA1 36 ff), (zaL ta cA2 36 (vp_updL tt2 i ((tt2 i) + (lN (20 * T i)))))] H := hP
                  have hD : va_D A [(zo2lirrr ch ft fr dr tO hO), (zaI dr cD 36 fD), (zo10ririliiriririr sc aTp (nI ts) aHl (nI nh) (lN ee) mi sn aHs (nI n) aWk (nI wz) aBk (nI bz) aFc), (zaL fa cA1 36 ff), (zaL ta cA2 36 (vp_updL tt2 i ((tt2 i) + (lN (20 * T i)))))] := hD
                  refine lv_goto (tgt := 156) hx hb dX0_spread_74 (by decide) ?_
                  refine lv_iinc (v := nI (i + 1)) (lv' := [(5, .int (nI (i + 1))), (6, .long (lN (T i))), (0, .ref ch), (1, .ref sc), (2, .ref fa), (3, .int (nI k)), (4, .ref ta)]) hx hb dX0_spread_156 hl (k := 6) rfl (nI_add i 1) (by decide) rfl (fun ls hl => ?_)
                  refine lv_goto (tgt := 25) hx hb dX0_spread_159 (by decide) ?_
                  exact ih25 (i + 1) ((vp_updL tt2 i ((tt2 i) + (lN (20 * T i))))) (by omega) (by omega) (by rw [gs_e hz ((in_E hee (by omega)).mp hd_7)]; exact ln_ad hg9 (by omega)) _ _ (hK.sub [0, 1, 2] rfl) (hP.sub [0, 1, 2, 3, 4] rfl) (hD.sub [0, 1, 2, 3, 4] (by decide) rfl) hS ls (lv_sub hl [2, 3, 4, 5, 6, 0] rfl)
                · skip
                  refine lv_if_eq (tgt := 77) hx hb dX0_spread_57 (by decide) (fun _ => ?_) (fun c_9 => absurd c_9 (by decide))
                  refine lv_aload_n hx hb dX0_spread_77 rfl (lv_at hl 1 rfl) ?_
                  refine va_get (D := (dC, dI)) (ci := 2) (v := .ref dr) (C := RX0) (T := TX0) (N := 5) hx hb hts kc_xSpread_5 hown hK hP 0 rfl rfl 2 (by decide) (hts (.fieldLink RX0 9 "MistHeaps$Chances" "drifts" "[I") kc_xSpread_6) (fun _ h9 => h9) rfl dX0_spread_78 ?_
                  refine lv_iload hx hb dX0_spread_81 (lv_at hl 6 rfl) ?_
                  refine va_iald hx hb hK hP 1 0 rfl rfl (vp_in_nI (n := i) (N := 36) (by omega) (by omega)) dX0_spread_83 ?_
                  refine qi_as (y := nI (drf i)) ((show fD (nI i : Int32).toNatClampNeg = fD i from by rw [nI_clamp (by omega)]).trans ((hdr i (by omega)).1)) ?_
                  refine lv_istore (lv' := [(8, .int (nI (drf i))), (6, .long (lN (T i))), (0, .ref ch), (1, .ref sc), (2, .ref fa), (3, .int (nI k)), (4, .ref ta), (5, .int (nI i))]) hx hb dX0_spread_84 hl (by decide) rfl (fun ls hl => ?_)
                  refine lv_aload hx hb dX0_spread_86 (lv_at hl 6 rfl) ?_
                  refine lv_iload hx hb dX0_spread_88 (lv_at hl 7 rfl) ?_
                  refine lv_iload_n hx hb dX0_spread_90 rfl (lv_at hl 5 rfl) ?_
                  have hnx := nx_lt i (by omega) k (by omega)
                  refine vp_callSi (va_runSN (As := [.int (nI i), .int (nI k)]) (rest := [.ref ta]) ⟨hx, hb, hml, hown, hts⟩ (c_beside l dC dI gd i k (by omega) (by omega)) ⟨va_cnB 2 hts ggX0_spread_X11_besideOrSame rfl rfl rfl (hG.1 (.methodLinkNest RX0 56 yX11_besideOrSame "MistHeaps") (by decide +kernel)) (hts (.initialized RX11) kc_xSpread_2) (by decide +kernel) ⟨Nat.le_of_ble_eq_true rfl, Nat.le_of_ble_eq_true rfl⟩, (hts (.static yX11_besideOrSame) kc_xSpread_7), trivial⟩ ⟨fun a U g mk q => by obtain ⟨q0, qhG⟩ := q; exact ⟨q0, qhG.mv g mk a⟩, fun U hU hW => ⟨rfl, hG.callF hS hU hW⟩⟩ rfl rfl hl.1 rfl (lv_room (Nat.le_of_ble_eq_true rfl)) dX0_spread_91 ⟨Nat.le_of_ble_eq_true rfl, Nat.le_of_ble_eq_true rfl⟩).run (fun r_10 hw_11 => ?_)
                  obtain rfl := hw_11
                  refine lv_dup2_11 hx hb dX0_spread_94 rfl rfl ?_
                  refine va_lald hx hb hK hP 4 2 rfl rfl (vp_in_nI (n := nxN i k) (N := 36) (by omega) (by omega)) dX0_spread_95 ?_
                  refine ql_as (y := tt2 (nxN i k)) (by rw [nI_clamp (by omega)]) ?_
                  refine lv_lload hx hb dX0_spread_96 (lv_at hl 1 rfl) ?_
                  refine lv_bipush (v := 20) hx hb dX0_spread_98 (by decide) ?_
                  refine lv_iconst (v := 2) hx hb dX0_spread_100 (by decide) ?_
                  refine lv_iload hx hb dX0_spread_101 (lv_at hl 0 rfl) ?_
                  refine lv_imul hx hb dX0_spread_103 ?_
                  refine qi_as (y := nI (2 * (drf i))) (pk_mul 2 (drf i)) ?_
                  refine lv_isub hx hb dX0_spread_104 ?_
                  refine qi_as (y := nI (20 - (2 * (drf i)))) (pk_sub (a := 20) (b := 2 * (drf i)) (by omega)) ?_
                  refine lv_i2l (v := lN (20 - 2 * drf i)) hx hb dX0_spread_105 (nI_l (by omega)) ?_
                  refine lv_lmul hx hb dX0_spread_106 ?_
                  refine ql_as (y := lN ((20 - 2 * drf i) * T i)) (lN_mr _ _) ?_
                  refine lv_ladd hx hb dX0_spread_107 ?_
                  refine va_last hx hb hK hP hD hS 4 2 rfl rfl (vp_in_nI (n := nxN i k) (N := 36) (by omega) (by omega)) dX0_spread_108 (fun H locs hP hD hS => ?_)
                  rw [nI_clamp (n := nxN i k) (by omega)] at hP hD
                  have hP : va_P (dC, dI) vwCl [(zo2lirrr ch ft fr dr tO hO), (zaI dr cD 36 fD), (zo10ririliiriririr sc aTp (nI ts) aHl (nI nh) (lN ee) mi sn aHs (nI n) aWk (nI wz) aBk (nI bz) aFc), (zaL fa cA1 36 ff), (zaL ta cA2 36 (vp_updL tt2 (nxN i k) ((tt2 (nxN i k)) + (lN ((20 - 2 * drf i) * T i)))))] H := hP
                  have hD : va_D A [(zo2lirrr ch ft fr dr tO hO), (zaI dr cD 36 fD), (zo10ririliiriririr sc aTp (nI ts) aHl (nI nh) (lN ee) mi sn aHs (nI n) aWk (nI wz) aBk (nI bz) aFc), (zaL fa cA1 36 ff), (zaL ta cA2 36 (vp_updL tt2 (nxN i k) ((tt2 (nxN i k)) + (lN ((20 - 2 * drf i) * T i)))))] := hD
                  refine lv_aload hx hb dX0_spread_109 (lv_at hl 6 rfl) ?_
                  refine lv_iload hx hb dX0_spread_111 (lv_at hl 7 rfl) ?_
                  refine lv_iload_n hx hb dX0_spread_113 rfl (lv_at hl 5 rfl) ?_
                  refine lv_bipush (v := 7) hx hb dX0_spread_114 (by decide) ?_
                  refine lv_iadd hx hb dX0_spread_116 ?_
                  refine qi_as (y := nI (k + 7)) (nI_add k 7) ?_
                  refine lv_bipush (v := 7) hx hb dX0_spread_117 (by decide) ?_
                  refine lv_iand hx hb dX0_spread_119 ?_
                  refine qi_as (y := nI ((k + 7) % 8)) (and7n (k + 7) (by omega)) ?_
                  have hnx := nx_lt i (by omega) ((k + 7) % 8) (by omega)
                  refine vp_callSi (va_runSN (As := [.int (nI i), .int (nI ((k + 7) % 8))]) (rest := [.ref ta]) ⟨hx, hb, hml, hown, hts⟩ (c_beside l dC dI gd i ((k + 7) % 8) (by omega) (by omega)) ⟨va_cnB 2 hts ggX0_spread_X11_besideOrSame rfl rfl rfl (hG.1 (.methodLinkNest RX0 56 yX11_besideOrSame "MistHeaps") (by decide +kernel)) (hts (.initialized RX11) kc_xSpread_2) (by decide +kernel) ⟨Nat.le_of_ble_eq_true rfl, Nat.le_of_ble_eq_true rfl⟩, (hts (.static yX11_besideOrSame) kc_xSpread_7), trivial⟩ ⟨fun a U g mk q => by obtain ⟨q0, qhG⟩ := q; exact ⟨q0, qhG.mv g mk a⟩, fun U hU hW => ⟨rfl, hG.callF hS hU hW⟩⟩ rfl rfl hl.1 rfl (lv_room (Nat.le_of_ble_eq_true rfl)) dX0_spread_120 ⟨Nat.le_of_ble_eq_true rfl, Nat.le_of_ble_eq_true rfl⟩).run (fun r_12 hw_13 => ?_)
                  obtain rfl := hw_13
                  refine lv_dup2_11 hx hb dX0_spread_123 rfl rfl ?_
                  refine va_lald hx hb hK hP 4 2 rfl rfl (vp_in_nI (n := nxN i ((k + 7) % 8)) (N := 36) (by omega) (by omega)) dX0_spread_124 ?_
                  refine ql_as (y := (vp_updL tt2 (nxN i k) ((tt2 (nxN i k)) + (lN ((20 - 2 * drf i) * T i)))) (nxN i ((k + 7) % 8))) (by rw [nI_clamp (by omega)]) ?_
                  refine lv_lload hx hb dX0_spread_125 (lv_at hl 1 rfl) ?_
                  refine lv_iload hx hb dX0_spread_127 (lv_at hl 0 rfl) ?_
                  refine lv_i2l (v := lN (drf i)) hx hb dX0_spread_129 (nI_l (by omega)) ?_
                  refine lv_lmul hx hb dX0_spread_130 ?_
                  refine ql_as (y := lN (drf i * T i)) (lN_mr _ _) ?_
                  refine lv_ladd hx hb dX0_spread_131 ?_
                  refine va_last hx hb hK hP hD hS 4 2 rfl rfl (vp_in_nI (n := nxN i ((k + 7) % 8)) (N := 36) (by omega) (by omega)) dX0_spread_132 (fun H locs hP hD hS => ?_)
                  rw [nI_clamp (n := nxN i ((k + 7) % 8)) (by omega)] at hP hD
                  have hP : va_P (dC, dI) vwCl [(zo2lirrr ch ft fr dr tO hO), (zaI dr cD 36 fD), (zo10ririliiriririr sc aTp (nI ts) aHl (nI nh) (lN ee) mi sn aHs (nI n) aWk (nI wz) aBk (nI bz) aFc), (zaL fa cA1 36 ff), (zaL ta cA2 36 (vp_updL (vp_updL tt2 (nxN i k) ((tt2 (nxN i k)) + (lN ((20 - 2 * drf i) * T i)))) (nxN i ((k + 7) % 8)) (((vp_updL tt2 (nxN i k) ((tt2 (nxN i k)) + (lN ((20 - 2 * drf i) * T i)))) (nxN i ((k + 7) % 8))) + (lN (drf i * T i)))))] H := hP
                  have hD : va_D A [(zo2lirrr ch ft fr dr tO hO), (zaI dr cD 36 fD), (zo10ririliiriririr sc aTp (nI ts) aHl (nI nh) (lN ee) mi sn aHs (nI n) aWk (nI wz) aBk (nI bz) aFc), (zaL fa cA1 36 ff), (zaL ta cA2 36 (vp_updL (vp_updL tt2 (nxN i k) ((tt2 (nxN i k)) + (lN ((20 - 2 * drf i) * T i)))) (nxN i ((k + 7) % 8)) (((vp_updL tt2 (nxN i k) ((tt2 (nxN i k)) + (lN ((20 - 2 * drf i) * T i)))) (nxN i ((k + 7) % 8))) + (lN (drf i * T i)))))] := hD
                  refine lv_aload hx hb dX0_spread_133 (lv_at hl 6 rfl) ?_
                  refine lv_iload hx hb dX0_spread_135 (lv_at hl 7 rfl) ?_
                  refine lv_iload_n hx hb dX0_spread_137 rfl (lv_at hl 5 rfl) ?_
                  refine lv_iconst (v := 1) hx hb dX0_spread_138 (by decide) ?_
                  refine lv_iadd hx hb dX0_spread_139 ?_
                  refine qi_as (y := nI (k + 1)) (nI_add k 1) ?_
                  refine lv_bipush (v := 7) hx hb dX0_spread_140 (by decide) ?_
                  refine lv_iand hx hb dX0_spread_142 ?_
                  refine qi_as (y := nI ((k + 1) % 8)) (and7n (k + 1) (by omega)) ?_
                  have hnx := nx_lt i (by omega) ((k + 1) % 8) (by omega)
                  refine vp_callSi (va_runSN (As := [.int (nI i), .int (nI ((k + 1) % 8))]) (rest := [.ref ta]) ⟨hx, hb, hml, hown, hts⟩ (c_beside l dC dI gd i ((k + 1) % 8) (by omega) (by omega)) ⟨va_cnB 2 hts ggX0_spread_X11_besideOrSame rfl rfl rfl (hG.1 (.methodLinkNest RX0 56 yX11_besideOrSame "MistHeaps") (by decide +kernel)) (hts (.initialized RX11) kc_xSpread_2) (by decide +kernel) ⟨Nat.le_of_ble_eq_true rfl, Nat.le_of_ble_eq_true rfl⟩, (hts (.static yX11_besideOrSame) kc_xSpread_7), trivial⟩ ⟨fun a U g mk q => by obtain ⟨q0, qhG⟩ := q; exact ⟨q0, qhG.mv g mk a⟩, fun U hU hW => ⟨rfl, hG.callF hS hU hW⟩⟩ rfl rfl hl.1 rfl (lv_room (Nat.le_of_ble_eq_true rfl)) dX0_spread_143 ⟨Nat.le_of_ble_eq_true rfl, Nat.le_of_ble_eq_true rfl⟩).run (fun r_14 hw_15 => ?_)
                  obtain rfl := hw_15
                  refine lv_dup2_11 hx hb dX0_spread_146 rfl rfl ?_
                  refine va_lald hx hb hK hP 4 2 rfl rfl (vp_in_nI (n := nxN i ((k + 1) % 8)) (N := 36) (by omega) (by omega)) dX0_spread_147 ?_
                  refine ql_as (y := (vp_updL (vp_updL tt2 (nxN i k) ((tt2 (nxN i k)) + (lN ((20 - 2 * drf i) * T i)))) (nxN i ((k + 7) % 8)) (((vp_updL tt2 (nxN i k) ((tt2 (nxN i k)) + (lN ((20 - 2 * drf i) * T i)))) (nxN i ((k + 7) % 8))) + (lN (drf i * T i)))) (nxN i ((k + 1) % 8))) (by rw [nI_clamp (by omega)]) ?_
                  refine lv_lload hx hb dX0_spread_148 (lv_at hl 1 rfl) ?_
                  refine lv_iload hx hb dX0_spread_150 (lv_at hl 0 rfl) ?_
                  refine lv_i2l (v := lN (drf i)) hx hb dX0_spread_152 (nI_l (by omega)) ?_
                  refine lv_lmul hx hb dX0_spread_153 ?_
                  refine ql_as (y := lN (drf i * T i)) (lN_mr _ _) ?_
                  refine lv_ladd hx hb dX0_spread_154 ?_
                  refine va_last hx hb hK hP hD hS 4 2 rfl rfl (vp_in_nI (n := nxN i ((k + 1) % 8)) (N := 36) (by omega) (by omega)) dX0_spread_155 (fun H locs hP hD hS => ?_)
                  rw [nI_clamp (n := nxN i ((k + 1) % 8)) (by omega)] at hP hD
                  have hP : va_P (dC, dI) vwCl [(zo2lirrr ch ft fr dr tO hO), (zaI dr cD 36 fD), (zo10ririliiriririr sc aTp (nI ts) aHl (nI nh) (lN ee) mi sn aHs (nI n) aWk (nI wz) aBk (nI bz) aFc), (zaL fa cA1 36 ff), (zaL ta cA2 36 (vp_updL (vp_updL (vp_updL tt2 (nxN i k) ((tt2 (nxN i k)) + (lN ((20 - 2 * drf i) * T i)))) (nxN i ((k + 7) % 8)) (((vp_updL tt2 (nxN i k) ((tt2 (nxN i k)) + (lN ((20 - 2 * drf i) * T i)))) (nxN i ((k + 7) % 8))) + (lN (drf i * T i)))) (nxN i ((k + 1) % 8)) (((vp_updL (vp_updL tt2 (nxN i k) ((tt2 (nxN i k)) + (lN ((20 - 2 * drf i) * T i)))) (nxN i ((k + 7) % 8)) (((vp_updL tt2 (nxN i k) ((tt2 (nxN i k)) + (lN ((20 - 2 * drf i) * T i)))) (nxN i ((k + 7) % 8))) + (lN (drf i * T i)))) (nxN i ((k + 1) % 8))) + (lN (drf i * T i)))))] H := hP
                  have hD : va_D A [(zo2lirrr ch ft fr dr tO hO), (zaI dr cD 36 fD), (zo10ririliiriririr sc aTp (nI ts) aHl (nI nh) (lN ee) mi sn aHs (nI n) aWk (nI wz) aBk (nI bz) aFc), (zaL fa cA1 36 ff), (zaL ta cA2 36 (vp_updL (vp_updL (vp_updL tt2 (nxN i k) ((tt2 (nxN i k)) + (lN ((20 - 2 * drf i) * T i)))) (nxN i ((k + 7) % 8)) (((vp_updL tt2 (nxN i k) ((tt2 (nxN i k)) + (lN ((20 - 2 * drf i) * T i)))) (nxN i ((k + 7) % 8))) + (lN (drf i * T i)))) (nxN i ((k + 1) % 8)) (((vp_updL (vp_updL tt2 (nxN i k) ((tt2 (nxN i k)) + (lN ((20 - 2 * drf i) * T i)))) (nxN i ((k + 7) % 8)) (((vp_updL tt2 (nxN i k) ((tt2 (nxN i k)) + (lN ((20 - 2 * drf i) * T i)))) (nxN i ((k + 7) % 8))) + (lN (drf i * T i)))) (nxN i ((k + 1) % 8))) + (lN (drf i * T i)))))] := hD
                  refine lv_iinc (v := nI (i + 1)) (lv' := [(5, .int (nI (i + 1))), (8, .int (nI (drf i))), (6, .long (lN (T i))), (0, .ref ch), (1, .ref sc), (2, .ref fa), (3, .int (nI k)), (4, .ref ta)]) hx hb dX0_spread_156 hl (k := 7) rfl (nI_add i 1) (by decide) rfl (fun ls hl => ?_)
                  refine lv_goto (tgt := 25) hx hb dX0_spread_159 (by decide) ?_
                  exact ih25 (i + 1) ((vp_updL (vp_updL (vp_updL tt2 (nxN i k) ((tt2 (nxN i k)) + (lN ((20 - 2 * drf i) * T i)))) (nxN i ((k + 7) % 8)) (((vp_updL tt2 (nxN i k) ((tt2 (nxN i k)) + (lN ((20 - 2 * drf i) * T i)))) (nxN i ((k + 7) % 8))) + (lN (drf i * T i)))) (nxN i ((k + 1) % 8)) (((vp_updL (vp_updL tt2 (nxN i k) ((tt2 (nxN i k)) + (lN ((20 - 2 * drf i) * T i)))) (nxN i ((k + 7) % 8)) (((vp_updL tt2 (nxN i k) ((tt2 (nxN i k)) + (lN ((20 - 2 * drf i) * T i)))) (nxN i ((k + 7) % 8))) + (lN (drf i * T i)))) (nxN i ((k + 1) % 8))) + (lN (drf i * T i))))) (by omega) (by omega) (by rw [gs_n hz (fun z9 => hd_7 ((in_E hee (by omega)).mpr z9))]; exact ln_ad (ln_ad (ln_ad hg9 (nx_lt i (by omega) k hk8)) (nx_lt i (by omega) _ (Nat.mod_lt _ (by decide)))) (nx_lt i (by omega) _ (Nat.mod_lt _ (by decide)))) _ _ (hK.sub [0, 1, 2] rfl) (hP.sub [0, 1, 2, 3, 4] rfl) (hD.sub [0, 1, 2, 3, 4] (by decide) rfl) hS ls (lv_sub hl [3, 4, 5, 6, 7, 0] rfl)
        exact L25 _ (0) (tt2) (Nat.lt_succ_self _) (by omega) (fun k0 h0 => (hz9 k0 (by omega)).trans (show (0 : Int64) = lN 0 from rfl)) _ _ (hK.sub [0, 1, 2] rfl) (hP.sub [0, 1, 2, 3, 4] rfl) (hD.sub [0, 1, 2, 3, 4] (by decide) rfl) hS ls (lv_sub hl [1, 2, 3, 4, 5, 0] rfl)
      · skip
        have c_1 : ¬ 36 ≤ i := fun q => c_1 ((nI_leI (a := 36) (b := i) (by omega) (by omega)).mpr q)
        refine lv_aload hx hb dX0_spread_10 (lv_at hl 4 rfl) ?_
        refine lv_iload hx hb dX0_spread_12 (lv_at hl 5 rfl) ?_
        refine lv_lconst (v := 0) hx hb dX0_spread_14 (by decide) ?_
        refine va_last hx hb hK hP hD hS 4 2 rfl rfl (vp_in_nI (n := i) (N := 36) (by omega) (by omega)) dX0_spread_15 (fun H locs hP hD hS => ?_)
        rw [nI_clamp (n := i) (by omega)] at hP hD
        have hP : va_P (dC, dI) vwCl [(zo2lirrr ch ft fr dr tO hO), (zaI dr cD 36 fD), (zo10ririliiriririr sc aTp (nI ts) aHl (nI nh) (lN ee) mi sn aHs (nI n) aWk (nI wz) aBk (nI bz) aFc), (zaL fa cA1 36 ff), (zaL ta cA2 36 (vp_updL tt2 i 0))] H := hP
        have hD : va_D A [(zo2lirrr ch ft fr dr tO hO), (zaI dr cD 36 fD), (zo10ririliiriririr sc aTp (nI ts) aHl (nI nh) (lN ee) mi sn aHs (nI n) aWk (nI wz) aBk (nI bz) aFc), (zaL fa cA1 36 ff), (zaL ta cA2 36 (vp_updL tt2 i 0))] := hD
        refine lv_iinc (v := nI (i + 1)) (lv' := [(5, .int (nI (i + 1))), (0, .ref ch), (1, .ref sc), (2, .ref fa), (3, .int (nI k)), (4, .ref ta)]) hx hb dX0_spread_16 hl (k := 5) rfl (nI_add i 1) (by decide) rfl (fun ls hl => ?_)
        refine lv_goto (tgt := 3) hx hb dX0_spread_19 (by decide) ?_
        exact ih3 (i + 1) ((vp_updL tt2 i 0)) (by omega) (by omega) (z_up hz9) _ _ (hK.sub [0, 1, 2] rfl) (hP.sub [0, 1, 2, 3, 4] rfl) (hD.sub [0, 1, 2, 3, 4] (by decide) rfl) hS ls (lv_sub hl [1, 2, 3, 4, 5, 0] rfl)
  exact L3 _ (0) (tt) (Nat.lt_succ_self _) (by omega) (fun k0 h0 => absurd h0 (Nat.not_lt_zero k0)) _ _ (hK.sub [0, 1, 2] rfl) (hP.sub [0, 1, 2, 3, 4] rfl) (hD.sub [0, 1, 2, 3, 4] (by decide) rfl) hS ls (lv_sub hl [1, 2, 3, 4, 5, 0] rfl)

theorem kc_xTellHits_0 : ∀ w ∈ wsX00, w ∈ wsX0_tellHits := fun w h => List.mem_cons_of_mem _ (gin_wsX00 w h)
theorem kc_xTellHits_1 : (.fieldLink RX0 22 "MistHeaps$Chances" "hits" "[[I" : Cond) ∈ wsX0_tellHits := kc_of 289 rfl rfl rfl
theorem kc_xTellHits_2 : ∀ w ∈ wsX80, w ∈ wsX0_tellHits := fun w h => List.mem_cons_of_mem _ (gin_wsX80 w h)
theorem kc_xTellHits_3 : (.fieldLink RX0 52 "MistHeaps$Scene" "edges" "J" : Cond) ∈ wsX0_tellHits := kc_of 162 rfl rfl rfl
theorem kc_xTellHits_4 : (.initialized RX11 : Cond) ∈ wsX0_tellHits := kc_of 63 rfl rfl rfl
theorem kc_xTellHits_5 : (.static yX11_isIn : Cond) ∈ wsX0_tellHits := kc_of 840 rfl rfl rfl
theorem kc_xTellHits_6 : (.fieldLink RX0 9 "MistHeaps$Chances" "drifts" "[I" : Cond) ∈ wsX0_tellHits := kc_of 287 rfl rfl rfl
theorem kc_xTellHits_7 : (.static yX11_besideOrSame : Cond) ∈ wsX0_tellHits := kc_of 844 rfl rfl rfl
set_option maxHeartbeats 4000000 in
set_option maxRecDepth 100000 in
theorem c_xTellHits (l : Launch) (dC : Nat → ClassId) (dI : Nat → Nat → Nat) (gd : Nat → Nat) (sc : Nat) (ch : Nat) (aTp : Nat) (aHl : Nat) (aHs : Nat) (aWk : Nat) (aBk : Nat) (aFc : Nat) (dr : Nat) (tO : Nat) (hO : Nat) (ts : Nat) (nh : Nat) (n : Nat) (wz : Nat) (bz : Nat) (i : Nat) (mi : Int32) (sn : Int32) (fr : Int32) (ft : Int64) (cD : ClassId) (cHO : ClassId) (cH : ClassId) (fD : Nat → Int32) (g0 : Nat → Int32) (g1 : Nat → Int32) (g2 : Nat → Int32) (g3 : Nat → Int32) (g4 : Nat → Int32) (g5 : Nat → Int32) (g6 : Nat → Int32) (g7 : Nat → Int32) (rh : Nat → Nat) (ee : Nat) (ma : Nat) (drf : Nat → Nat) (sz : Nat) (hma : ma < 2 ^ 62) (hdr : ∀ k0, k0 < 36 → fD k0 = nI (drf k0) ∧ drf k0 ≤ 5) (hee : ee < 2 ^ 36) : Met l yX0_tellHits wsX0_tellHits ({ frames := 2, cells := 0, slots := 0, locals := 44 } : Room) (va_Pc [.ref ch, .ref sc, .long (lN ma)] (fun U => U.heap.size = sz ∧ va_P (dC, dI) vwCl [(zo2lirrr ch ft fr dr tO hO), (zaI dr cD 36 fD), (zaR hO cHO 8 (fun i => if i < 8 then some (rh i) else none)), (zaI (rh 0) cH 36 g0), (zaI (rh 1) cH 36 g1), (zaI (rh 2) cH 36 g2), (zaI (rh 3) cH 36 g3), (zaI (rh 4) cH 36 g4), (zaI (rh 5) cH 36 g5), (zaI (rh 6) cH 36 g6), (zaI (rh 7) cH 36 g7), (zo10ririliiriririr sc aTp (nI ts) aHl (nI nh) (lN ee) mi sn aHs (nI n) aWk (nI wz) aBk (nI bz) aFc)] U.heap ∧ va_K (dC, dI) vwCl [(cD, .int), (cHO, .array .int), (cH, .int), (cH, .int), (cH, .int), (cH, .int), (cH, .int), (cH, .int), (cH, .int), (cH, .int)] U ∧ va_D (fun _ => True) [(zo2lirrr ch ft fr dr tO hO), (zaI dr cD 36 fD), (zaR hO cHO 8 (fun i => if i < 8 then some (rh i) else none)), (zaI (rh 0) cH 36 g0), (zaI (rh 1) cH 36 g1), (zaI (rh 2) cH 36 g2), (zaI (rh 3) cH 36 g3), (zaI (rh 4) cH 36 g4), (zaI (rh 5) cH 36 g5), (zaI (rh 6) cH 36 g6), (zaI (rh 7) cH 36 g7), (zo10ririliiriririr sc aTp (nI ts) aHl (nI nh) (lN ee) mi sn aHs (nI n) aWk (nI wz) aBk (nI bz) aFc)] ∧ Gl gd (va_A [(zo2lirrr ch ft fr dr tO hO), (zaI dr cD 36 fD), (zaR hO cHO 8 (fun i => if i < 8 then some (rh i) else none)), (zaI (rh 0) cH 36 g0), (zaI (rh 1) cH 36 g1), (zaI (rh 2) cH 36 g2), (zaI (rh 3) cH 36 g3), (zaI (rh 4) cH 36 g4), (zaI (rh 5) cH 36 g5), (zaI (rh 6) cH 36 g6), (zaI (rh 7) cH 36 g7), (zo10ririliiriririr sc aTp (nI ts) aHl (nI nh) (lN ee) mi sn aHs (nI n) aWk (nI wz) aBk (nI bz) aFc)] sz) U)) (va_Qv (fun (u : (Nat → Int32) × (Nat → Int32) × (Nat → Int32) × (Nat → Int32) × (Nat → Int32) × (Nat → Int32) × (Nat → Int32) × (Nat → Int32)) => match u with | (g09, g19, g29, g39, g49, g59, g69, g79) => (∀ k0, k0 < 36 → g09 k0 = nI (htN (edB ee) drf ma 0 k0)) ∧ (∀ k0, k0 < 36 → g19 k0 = nI (htN (edB ee) drf ma 1 k0)) ∧ (∀ k0, k0 < 36 → g29 k0 = nI (htN (edB ee) drf ma 2 k0)) ∧ (∀ k0, k0 < 36 → g39 k0 = nI (htN (edB ee) drf ma 3 k0)) ∧ (∀ k0, k0 < 36 → g49 k0 = nI (htN (edB ee) drf ma 4 k0)) ∧ (∀ k0, k0 < 36 → g59 k0 = nI (htN (edB ee) drf ma 5 k0)) ∧ (∀ k0, k0 < 36 → g69 k0 = nI (htN (edB ee) drf ma 6 k0)) ∧ (∀ k0, k0 < 36 → g79 k0 = nI (htN (edB ee) drf ma 7 k0))) (fun (u : (Nat → Int32) × (Nat → Int32) × (Nat → Int32) × (Nat → Int32) × (Nat → Int32) × (Nat → Int32) × (Nat → Int32) × (Nat → Int32)) (t : State) => match u with | (g09, g19, g29, g39, g49, g59, g69, g79) => va_P (dC, dI) vwCl [(zo2lirrr ch ft fr dr tO hO), (zaI dr cD 36 fD), (zaR hO cHO 8 (fun i => if i < 8 then some (rh i) else none)), (zaI (rh 0) cH 36 g09), (zaI (rh 1) cH 36 g19), (zaI (rh 2) cH 36 g29), (zaI (rh 3) cH 36 g39), (zaI (rh 4) cH 36 g49), (zaI (rh 5) cH 36 g59), (zaI (rh 6) cH 36 g69), (zaI (rh 7) cH 36 g79), (zo10ririliiriririr sc aTp (nI ts) aHl (nI nh) (lN ee) mi sn aHs (nI n) aWk (nI wz) aBk (nI bz) aFc)] t.heap ∧ va_K (dC, dI) vwCl [(cD, .int), (cHO, .array .int), (cH, .int), (cH, .int), (cH, .int), (cH, .int), (cH, .int), (cH, .int), (cH, .int), (cH, .int)] t ∧ va_D (va_A [(zo2lirrr ch ft fr dr tO hO), (zaI dr cD 36 fD), (zaR hO cHO 8 (fun i => if i < 8 then some (rh i) else none)), (zaI (rh 0) cH 36 g0), (zaI (rh 1) cH 36 g1), (zaI (rh 2) cH 36 g2), (zaI (rh 3) cH 36 g3), (zaI (rh 4) cH 36 g4), (zaI (rh 5) cH 36 g5), (zaI (rh 6) cH 36 g6), (zaI (rh 7) cH 36 g7), (zo10ririliiriririr sc aTp (nI ts) aHl (nI nh) (lN ee) mi sn aHs (nI n) aWk (nI wz) aBk (nI bz) aFc)] sz) [(zo2lirrr ch ft fr dr tO hO), (zaI dr cD 36 fD), (zaR hO cHO 8 (fun i => if i < 8 then some (rh i) else none)), (zaI (rh 0) cH 36 g09), (zaI (rh 1) cH 36 g19), (zaI (rh 2) cH 36 g29), (zaI (rh 3) cH 36 g39), (zaI (rh 4) cH 36 g49), (zaI (rh 5) cH 36 g59), (zaI (rh 6) cH 36 g69), (zaI (rh 7) cH 36 g79), (zo10ririliiriririr sc aTp (nI ts) aHl (nI nh) (lN ee) mi sn aHs (nI n) aWk (nI wz) aBk (nI bz) aFc)]) (va_A [(zo2lirrr ch ft fr dr tO hO), (zaI dr cD 36 fD), (zaR hO cHO 8 (fun i => if i < 8 then some (rh i) else none)), (zaI (rh 0) cH 36 g0), (zaI (rh 1) cH 36 g1), (zaI (rh 2) cH 36 g2), (zaI (rh 3) cH 36 g3), (zaI (rh 4) cH 36 g4), (zaI (rh 5) cH 36 g5), (zaI (rh 6) cH 36 g6), (zaI (rh 7) cH 36 g7), (zo10ririliiriririr sc aTp (nI ts) aHl (nI nh) (lN ee) mi sn aHs (nI n) aWk (nI wz) aBk (nI bz) aFc)] sz)) 0 0 (va_A [(zo2lirrr ch ft fr dr tO hO), (zaI dr cD 36 fD), (zaR hO cHO 8 (fun i => if i < 8 then some (rh i) else none)), (zaI (rh 0) cH 36 g0), (zaI (rh 1) cH 36 g1), (zaI (rh 2) cH 36 g2), (zaI (rh 3) cH 36 g3), (zaI (rh 4) cH 36 g4), (zaI (rh 5) cH 36 g5), (zaI (rh 6) cH 36 g6), (zaI (rh 7) cH 36 g7), (zo10ririliiriririr sc aTp (nI ts) aHl (nI nh) (lN ee) mi sn aHs (nI n) aWk (nI wz) aBk (nI bz) aFc)] sz) := by
  refine met_ofQ (cc := cX0_tellHits) (maxL := 6) (ret := none) (by decide) rfl ?_
  intro p e s m args below meth c s₁ Q B hml hv hQ
  obtain ⟨rfl, hsz, hP, hK, hD0, hG⟩ := hv
  have hx := B.exec
  have hb := B.bytes
  have hr := B.returns
  have hts := atoms_spec (ws := wsX0_tellHits) B.pre
  have hown : s.vm.findClass RX0 = some m.cls := findClass_of_methodNamed B.named
  have hlocks := B.notSynchronized
  subst hsz
  have hD := hD0.self (sz := s.heap.size)
  generalize hAe : va_A [(zo2lirrr ch ft fr dr tO hO), (zaI dr cD 36 fD), (zaR hO cHO 8 (fun i => if i < 8 then some (rh i) else none)), (zaI (rh 0) cH 36 g0), (zaI (rh 1) cH 36 g1), (zaI (rh 2) cH 36 g2), (zaI (rh 3) cH 36 g3), (zaI (rh 4) cH 36 g4), (zaI (rh 5) cH 36 g5), (zaI (rh 6) cH 36 g6), (zaI (rh 7) cH 36 g7), (zo10ririliiriririr sc aTp (nI ts) aHl (nI nh) (lN ee) mi sn aHs (nI n) aWk (nI wz) aBk (nI bz) aFc)] s.heap.size = A at hD hQ hG ⊢
  have hA : ∀ q : Nat, s.heap.size ≤ q → A q := fun q h => by rw [← hAe]; exact Or.inr h
  have hS : va_S A s.heap s.heap [] := va_S.rf
  have hl := lv_entry [.ref ch, .ref sc, .long (lN ma)] (n := 6) (Nat.le_of_ble_eq_true rfl)
  rw [lg_entry_eq]
  generalize (lg_sl [.ref ch, .ref sc, .long (lN ma)] ++ List.replicate (6 - (lg_sl [.ref ch, .ref sc, .long (lN ma)]).length) Slot.unset).toArray = ls at hl ⊢
  generalize hag : ([.ref ch, .ref sc, .long (lN ma)] : List Value).toArray = args at hts hQ ⊢
  have hl : lv_has ls 6 [(0, .ref ch), (1, .ref sc), (2, .long (lN ma))] := hl
  obtain ⟨H, hH⟩ : ∃ H : Heap, H = s.heap := ⟨_, rfl⟩
  rw [← hH] at hP
  rw [← hH]
  have hS : va_S A s.heap H [] := by rw [hH]; exact hS
  obtain ⟨locs, hlo⟩ : ∃ L : List Loc, L = [] := ⟨_, rfl⟩
  rw [← hlo] at hS
  rw [← hlo]
  clear hH hlo
  refine lv_iconst (v := 0) hx hb dX0_tellHits_0 (by decide) ?_
  refine lv_istore (lv' := [(4, .int 0), (0, .ref ch), (1, .ref sc), (2, .long (lN ma))]) hx hb dX0_tellHits_1 hl (by decide) rfl (fun ls hl => ?_)
  have L3 : ∀ (nF : Nat) (k : Nat) (g02 : Nat → Int32) (g12 : Nat → Int32) (g22 : Nat → Int32) (g32 : Nat → Int32) (g42 : Nat → Int32) (g52 : Nat → Int32) (g62 : Nat → Int32) (g72 : Nat → Int32), 8 - k < nF → (k ≤ 8) → (0 < k → ∀ k0, k0 < 36 → g02 k0 = nI (htN (edB ee) drf ma 0 k0)) → (1 < k → ∀ k0, k0 < 36 → g12 k0 = nI (htN (edB ee) drf ma 1 k0)) → (2 < k → ∀ k0, k0 < 36 → g22 k0 = nI (htN (edB ee) drf ma 2 k0)) → (3 < k → ∀ k0, k0 < 36 → g32 k0 = nI (htN (edB ee) drf ma 3 k0)) → (4 < k → ∀ k0, k0 < 36 → g42 k0 = nI (htN (edB ee) drf ma 4 k0)) → (5 < k → ∀ k0, k0 < 36 → g52 k0 = nI (htN (edB ee) drf ma 5 k0)) → (6 < k → ∀ k0, k0 < 36 → g62 k0 = nI (htN (edB ee) drf ma 6 k0)) → (7 < k → ∀ k0, k0 < 36 → g72 k0 = nI (htN (edB ee) drf ma 7 k0)) → ∀ (H : Heap) (locs : List Loc), va_K (dC, dI) vwCl [(cD, .int), (cHO, .array .int), (cH, .int), (cH, .int), (cH, .int), (cH, .int), (cH, .int), (cH, .int), (cH, .int), (cH, .int)] s → va_P (dC, dI) vwCl [(zo2lirrr ch ft fr dr tO hO), (zaI dr cD 36 fD), (zaR hO cHO 8 (fun i => if i < 8 then some (rh i) else none)), (zaI (rh 0) cH 36 g02), (zaI (rh 1) cH 36 g12), (zaI (rh 2) cH 36 g22), (zaI (rh 3) cH 36 g32), (zaI (rh 4) cH 36 g42), (zaI (rh 5) cH 36 g52), (zaI (rh 6) cH 36 g62), (zaI (rh 7) cH 36 g72), (zo10ririliiriririr sc aTp (nI ts) aHl (nI nh) (lN ee) mi sn aHs (nI n) aWk (nI wz) aBk (nI bz) aFc)] H → va_D A [(zo2lirrr ch ft fr dr tO hO), (zaI dr cD 36 fD), (zaR hO cHO 8 (fun i => if i < 8 then some (rh i) else none)), (zaI (rh 0) cH 36 g02), (zaI (rh 1) cH 36 g12), (zaI (rh 2) cH 36 g22), (zaI (rh 3) cH 36 g32), (zaI (rh 4) cH 36 g42), (zaI (rh 5) cH 36 g52), (zaI (rh 6) cH 36 g62), (zaI (rh 7) cH 36 g72), (zo10ririliiriririr sc aTp (nI ts) aHl (nI nh) (lN ee) mi sn aHs (nI n) aWk (nI wz) aBk (nI bz) aFc)] → va_S A s.heap H locs → ∀ (ls : Array Slot), lv_has ls 6 [(0, .ref ch), (1, .ref sc), (2, .long (lN ma)), (4, .int (nI k))] → W p l e ({ frames := 2, cells := 0, slots := 0, locals := 44 } : Room) s m args below meth c H locs 0 0 Q (F0 m 3 ls []) := by
    intro nF
    induction nF with
    | zero => intro k g02 g12 g22 g32 g42 g52 g62 g72 hm; exact absurd hm (Nat.not_lt_zero _)
    | succ nF ih3 =>
      intro k g02 g12 g22 g32 g42 g52 g62 g72 hm hik hh0 hh1 hh2 hh3 hh4 hh5 hh6 hh7 H locs hK hP hD hS ls hl
      refine lv_iload hx hb dX0_tellHits_3 (lv_at hl 3 rfl) ?_
      refine lv_bipush (v := 8) hx hb dX0_tellHits_5 (by decide) ?_
      refine lv_icmp_ge (tgt := 141) hx hb dX0_tellHits_7 (by decide) (fun c_1 => ?_) (fun c_1 => ?_)
      · skip
        have c_1 : 8 ≤ k := (nI_leI (a := 8) (b := k) (by omega) (by omega)).mp c_1
        rw [hQ]
        have hP9 := hP.sub (ws' := [(zo2lirrr ch ft fr dr tO hO), (zaI dr cD 36 fD), (zaR hO cHO 8 (fun i => if i < 8 then some (rh i) else none)), (zaI (rh 0) cH 36 g02), (zaI (rh 1) cH 36 g12), (zaI (rh 2) cH 36 g22), (zaI (rh 3) cH 36 g32), (zaI (rh 4) cH 36 g42), (zaI (rh 5) cH 36 g52), (zaI (rh 6) cH 36 g62), (zaI (rh 7) cH 36 g72), (zo10ririliiriririr sc aTp (nI ts) aHl (nI nh) (lN ee) mi sn aHs (nI n) aWk (nI wz) aBk (nI bz) aFc)]) [0, 1, 2, 3, 4, 5, 6, 7, 8, 9, 10, 11] rfl
        have hD9 := hD.sub (ws' := [(zo2lirrr ch ft fr dr tO hO), (zaI dr cD 36 fD), (zaR hO cHO 8 (fun i => if i < 8 then some (rh i) else none)), (zaI (rh 0) cH 36 g02), (zaI (rh 1) cH 36 g12), (zaI (rh 2) cH 36 g22), (zaI (rh 3) cH 36 g32), (zaI (rh 4) cH 36 g42), (zaI (rh 5) cH 36 g52), (zaI (rh 6) cH 36 g62), (zaI (rh 7) cH 36 g72), (zo10ririliiriririr sc aTp (nI ts) aHl (nI nh) (lN ee) mi sn aHs (nI n) aWk (nI wz) aBk (nI bz) aFc)]) [0, 1, 2, 3, 4, 5, 6, 7, 8, 9, 10, 11] (by decide) rfl
        have hK9 := hK.sub (tys' := [(cD, .int), (cHO, .array .int), (cH, .int), (cH, .int), (cH, .int), (cH, .int), (cH, .int), (cH, .int), (cH, .int), (cH, .int)]) [0, 1, 2, 3, 4, 5, 6, 7, 8, 9] rfl
        exact W.vret hx hb hr (fun tQ htQ hWQ => ⟨⟨(g02, g12, g22, g32, g42, g52, g62, g72), rfl, ⟨hh0 (by omega), hh1 (by omega), hh2 (by omega), hh3 (by omega), hh4 (by omega), hh5 (by omega), hh6 (by omega), hh7 (by omega)⟩, by rw [htQ]; exact hP9, va_K.moved hWQ.alike hK9, hD9⟩, hS.F htQ⟩) hS.2.2 dX0_tellHits_141
      · skip
        have c_1 : ¬ 8 ≤ k := fun q => c_1 ((nI_leI (a := 8) (b := k) (by omega) (by omega)).mpr q)
        rcases eight (k := k) (by omega) with rfl | rfl | rfl | rfl | rfl | rfl | rfl | rfl
        · skip
          refine lv_iconst (v := 0) hx hb dX0_tellHits_10 (by decide) ?_
          refine lv_istore (lv' := [(5, .int 0), (0, .ref ch), (1, .ref sc), (2, .long (lN ma)), (4, .int 0)]) hx hb dX0_tellHits_11 hl (by decide) rfl (fun ls hl => ?_)
          have L13 : ∀ (nF : Nat) (i : Nat) (f9 : Nat → Int32), 36 - i < nF → (i ≤ 36) → (∀ k0, k0 < i → f9 k0 = nI (htN (edB ee) drf ma 0 k0)) → ∀ (H : Heap) (locs : List Loc), va_K (dC, dI) vwCl [(cD, .int), (cHO, .array .int), (cH, .int), (cH, .int), (cH, .int), (cH, .int), (cH, .int), (cH, .int), (cH, .int), (cH, .int)] s → va_P (dC, dI) vwCl [(zo2lirrr ch ft fr dr tO hO), (zaI dr cD 36 fD), (zaR hO cHO 8 (fun i => if i < 8 then some (rh i) else none)), (zaI (rh 0) cH 36 f9), (zaI (rh 1) cH 36 g12), (zaI (rh 2) cH 36 g22), (zaI (rh 3) cH 36 g32), (zaI (rh 4) cH 36 g42), (zaI (rh 5) cH 36 g52), (zaI (rh 6) cH 36 g62), (zaI (rh 7) cH 36 g72), (zo10ririliiriririr sc aTp (nI ts) aHl (nI nh) (lN ee) mi sn aHs (nI n) aWk (nI wz) aBk (nI bz) aFc)] H → va_D A [(zo2lirrr ch ft fr dr tO hO), (zaI dr cD 36 fD), (zaR hO cHO 8 (fun i => if i < 8 then some (rh i) else none)), (zaI (rh 0) cH 36 f9), (zaI (rh 1) cH 36 g12), (zaI (rh 2) cH 36 g22), (zaI (rh 3) cH 36 g32), (zaI (rh 4) cH 36 g42), (zaI (rh 5) cH 36 g52), (zaI (rh 6) cH 36 g62), (zaI (rh 7) cH 36 g72), (zo10ririliiriririr sc aTp (nI ts) aHl (nI nh) (lN ee) mi sn aHs (nI n) aWk (nI wz) aBk (nI bz) aFc)] → va_S A s.heap H locs → ∀ (ls : Array Slot), lv_has ls 6 [(0, .ref ch), (1, .ref sc), (2, .long (lN ma)), (4, .int 0), (5, .int (nI i))] → W p l e ({ frames := 2, cells := 0, slots := 0, locals := 44 } : Room) s m args below meth c H locs 0 0 Q (F0 m 13 ls []) := by
            intro nF
            induction nF with
            | zero => intro i f9 hm; exact absurd hm (Nat.not_lt_zero _)
            | succ nF ih13 =>
              intro i f9 hm hi hf9 H locs hK hP hD hS ls hl
              refine lv_iload hx hb dX0_tellHits_13 (lv_at hl 4 rfl) ?_
              refine lv_bipush (v := 36) hx hb dX0_tellHits_15 (by decide) ?_
              refine lv_icmp_ge (tgt := 135) hx hb dX0_tellHits_17 (by decide) (fun c_2 => ?_) (fun c_2 => ?_)
              · skip
                have c_2 : 36 ≤ i := (nI_leI (a := 36) (b := i) (by omega) (by omega)).mp c_2
                refine lv_iinc (v := 1) (lv' := [(4, .int 1), (0, .ref ch), (1, .ref sc), (2, .long (lN ma)), (5, .int (nI i))]) hx hb dX0_tellHits_135 hl (k := 3) rfl (by decide) (by decide) rfl (fun ls hl => ?_)
                refine lv_goto (tgt := 3) hx hb dX0_tellHits_138 (by decide) ?_
                exact ih3 (1) (f9) (g12) (g22) (g32) (g42) (g52) (g62) (g72) (by omega) (by omega) (fun _ k0 h0 => hf9 k0 (by omega)) (fun z9 => absurd z9 (by omega)) (fun z9 => absurd z9 (by omega)) (fun z9 => absurd z9 (by omega)) (fun z9 => absurd z9 (by omega)) (fun z9 => absurd z9 (by omega)) (fun z9 => absurd z9 (by omega)) (fun z9 => absurd z9 (by omega)) _ _ (hK.sub [0, 1, 2, 3, 4, 5, 6, 7, 8, 9] rfl) (hP.sub [0, 1, 2, 3, 4, 5, 6, 7, 8, 9, 10, 11] rfl) (hD.sub [0, 1, 2, 3, 4, 5, 6, 7, 8, 9, 10, 11] (by decide) rfl) hS ls (lv_sub hl [1, 2, 3, 0] rfl)
              · skip
                have c_2 : ¬ 36 ≤ i := fun q => c_2 ((nI_leI (a := 36) (b := i) (by omega) (by omega)).mpr q)
                refine lv_aload_n hx hb dX0_tellHits_20 rfl (lv_at hl 0 rfl) ?_
                refine va_get (D := (dC, dI)) (ci := 2) (v := .ref hO) (C := RX0) (T := TX0) (N := 5) hx hb hts kc_xTellHits_0 hown hK hP 0 rfl rfl 4 (by decide) (hts (.fieldLink RX0 22 "MistHeaps$Chances" "hits" "[[I") kc_xTellHits_1) (fun _ h9 => h9) rfl dX0_tellHits_21 ?_
                refine lv_iload hx hb dX0_tellHits_24 (lv_at hl 3 rfl) ?_
                refine va_alda hx hb hK hP 2 1 rfl rfl (vp_in_nI (n := 0) (N := 8) (by omega) (by omega)) dX0_tellHits_26 ?_
                refine qq_as (v := .ref (rh 0)) (rfl) ?_
                refine lv_iload hx hb dX0_tellHits_27 (lv_at hl 4 rfl) ?_
                refine lv_aload_n hx hb dX0_tellHits_29 rfl (lv_at hl 1 rfl) ?_
                refine va_get (D := (dC, dI)) (ci := 10) (v := .long (lN ee)) (C := RX8) (T := TX8) (N := 14) hx hb hts kc_xTellHits_2 hown hK hP 11 rfl rfl 4 (by decide) (hts (.fieldLink RX0 52 "MistHeaps$Scene" "edges" "J") kc_xTellHits_3) (fun _ h9 => h9) rfl dX0_tellHits_30 ?_
                refine lv_iload hx hb dX0_tellHits_33 (lv_at hl 4 rfl) ?_
                refine vp_callSi (va_runSN (As := [.long (lN ee), .int (nI i)]) (rest := [.int (nI i), .ref (rh 0)]) ⟨hx, hb, hml, hown, hts⟩ (c_isIn l dC dI (lN ee) (nI i)) ⟨va_cnB 2 hts ggX0_tellHits_X11_isIn rfl rfl rfl (hG.1 (.methodLinkNest RX0 44 yX11_isIn "MistHeaps") (by decide +kernel)) (hts (.initialized RX11) kc_xTellHits_4) (by decide +kernel) ⟨Nat.le_of_ble_eq_true rfl, Nat.le_of_ble_eq_true rfl⟩, (hts (.static yX11_isIn) kc_xTellHits_5), trivial⟩ ⟨fun a U g mk q => ⟨q.1, trivial⟩, fun U hU hW => ⟨rfl, trivial⟩⟩ rfl rfl hl.1 rfl (lv_room (Nat.le_of_ble_eq_true rfl)) dX0_tellHits_35 ⟨Nat.le_of_ble_eq_true rfl, Nat.le_of_ble_eq_true rfl⟩).run (fun r_3 hw_4 => ?_)
                rcases hw_4 with ⟨rfl, hd_5⟩ | ⟨rfl, hd_5⟩
                · skip
                  refine lv_if_eq (tgt := 53) hx hb dX0_tellHits_38 (by decide) (fun c_6 => absurd c_6 (by decide)) (fun _ => ?_)
                  refine lv_bipush (v := 20) hx hb dX0_tellHits_41 (by decide) ?_
                  refine lv_lload_n hx hb dX0_tellHits_43 rfl (lv_at hl 2 rfl) ?_
                  refine lv_iload hx hb dX0_tellHits_44 (lv_at hl 4 rfl) ?_
                  refine vp_callSi (va_runS (As := [.long (lN ma), .int (nI i)]) (rest := [.int 20, .int (nI i), .ref (rh 0)]) ⟨hx, hb, hml, hown, hts⟩ (c_hit l dC dI gd ma i hma (by omega)) (va_cwS 2 hts gX0_tellHits_X0_hit rfl rfl rfl hd_yX0_hit.2 ⟨Nat.le_of_ble_eq_true rfl, Nat.le_of_ble_eq_true rfl⟩) ⟨fun a U g mk q => by obtain ⟨q0, qhG⟩ := q; exact ⟨q0, qhG.mv g mk a⟩, fun U hU hW => ⟨rfl, hG.callF hS hU hW⟩⟩ rfl rfl hl.1 rfl (lv_room (Nat.le_of_ble_eq_true rfl)) dX0_tellHits_46 ⟨Nat.le_of_ble_eq_true rfl, Nat.le_of_ble_eq_true rfl⟩).run (fun r_7 hw_8 => ?_)
                  obtain rfl := hw_8
                  have hb2 := hb_2 (ma := ma) (c := i)
                  refine lv_imul hx hb dX0_tellHits_49 ?_
                  refine qi_as (y := nI (20 * (hbN ma i))) (pk_mul 20 (hbN ma i)) ?_
                  refine lv_goto (tgt := 128) hx hb dX0_tellHits_50 (by decide) ?_
                  refine va_iast hx hb hK hP hD hS 3 2 rfl rfl (vp_in_nI (n := i) (N := 36) (by omega) (by omega)) dX0_tellHits_128 (fun H locs hP hD hS => ?_)
                  rw [nI_clamp (n := i) (by omega)] at hP hD
                  have hP : va_P (dC, dI) vwCl [(zo2lirrr ch ft fr dr tO hO), (zaI dr cD 36 fD), (zaR hO cHO 8 (fun i => if i < 8 then some (rh i) else none)), (zaI (rh 0) cH 36 (upd f9 i (nI (20 * (hbN ma i))))), (zaI (rh 1) cH 36 g12), (zaI (rh 2) cH 36 g22), (zaI (rh 3) cH 36 g32), (zaI (rh 4) cH 36 g42), (zaI (rh 5) cH 36 g52), (zaI (rh 6) cH 36 g62), (zaI (rh 7) cH 36 g72), (zo10ririliiriririr sc aTp (nI ts) aHl (nI nh) (lN ee) mi sn aHs (nI n) aWk (nI wz) aBk (nI bz) aFc)] H := hP
                  have hD : va_D A [(zo2lirrr ch ft fr dr tO hO), (zaI dr cD 36 fD), (zaR hO cHO 8 (fun i => if i < 8 then some (rh i) else none)), (zaI (rh 0) cH 36 (upd f9 i (nI (20 * (hbN ma i))))), (zaI (rh 1) cH 36 g12), (zaI (rh 2) cH 36 g22), (zaI (rh 3) cH 36 g32), (zaI (rh 4) cH 36 g42), (zaI (rh 5) cH 36 g52), (zaI (rh 6) cH 36 g62), (zaI (rh 7) cH 36 g72), (zo10ririliiriririr sc aTp (nI ts) aHl (nI nh) (lN ee) mi sn aHs (nI n) aWk (nI wz) aBk (nI bz) aFc)] := hD
                  refine lv_iinc (v := nI (i + 1)) (lv' := [(5, .int (nI (i + 1))), (0, .ref ch), (1, .ref sc), (2, .long (lN ma)), (4, .int 0)]) hx hb dX0_tellHits_129 hl (k := 4) rfl (nI_add i 1) (by decide) rfl (fun ls hl => ?_)
                  refine lv_goto (tgt := 13) hx hb dX0_tellHits_132 (by decide) ?_
                  exact ih13 (i + 1) ((upd f9 i (nI (20 * (hbN ma i))))) (by omega) (by omega) (up_g (g := fun k0 => nI (htN (edB ee) drf ma 0 k0)) hf9 (congrArg nI (ht_e ((in_E hee (by omega)).mp hd_5))).symm) _ _ (hK.sub [0, 1, 2, 3, 4, 5, 6, 7, 8, 9] rfl) (hP.sub [0, 1, 2, 3, 4, 5, 6, 7, 8, 9, 10, 11] rfl) (hD.sub [0, 1, 2, 3, 4, 5, 6, 7, 8, 9, 10, 11] (by decide) rfl) hS ls (lv_sub hl [1, 2, 3, 4, 0] rfl)
                · skip
                  refine lv_if_eq (tgt := 53) hx hb dX0_tellHits_38 (by decide) (fun _ => ?_) (fun c_9 => absurd c_9 (by decide))
                  have hd5 := (hdr i (by omega)).2
                  refine lv_bipush (v := 20) hx hb dX0_tellHits_53 (by decide) ?_
                  refine lv_iconst (v := 2) hx hb dX0_tellHits_55 (by decide) ?_
                  refine lv_aload_n hx hb dX0_tellHits_56 rfl (lv_at hl 0 rfl) ?_
                  refine va_get (D := (dC, dI)) (ci := 2) (v := .ref dr) (C := RX0) (T := TX0) (N := 5) hx hb hts kc_xTellHits_0 hown hK hP 0 rfl rfl 2 (by decide) (hts (.fieldLink RX0 9 "MistHeaps$Chances" "drifts" "[I") kc_xTellHits_6) (fun _ h9 => h9) rfl dX0_tellHits_57 ?_
                  refine lv_iload hx hb dX0_tellHits_60 (lv_at hl 4 rfl) ?_
                  refine va_iald hx hb hK hP 1 0 rfl rfl (vp_in_nI (n := i) (N := 36) (by omega) (by omega)) dX0_tellHits_62 ?_
                  refine qi_as (y := nI (drf i)) ((show fD (nI i : Int32).toNatClampNeg = fD i from by rw [nI_clamp (by omega)]).trans ((hdr i (by omega)).1)) ?_
                  refine lv_imul hx hb dX0_tellHits_63 ?_
                  refine qi_as (y := nI (2 * (drf i))) (pk_mul 2 (drf i)) ?_
                  refine lv_isub hx hb dX0_tellHits_64 ?_
                  refine qi_as (y := nI (20 - (2 * (drf i)))) (pk_sub (a := 20) (b := 2 * (drf i)) (by omega)) ?_
                  refine lv_lload_n hx hb dX0_tellHits_65 rfl (lv_at hl 2 rfl) ?_
                  refine lv_iload hx hb dX0_tellHits_66 (lv_at hl 4 rfl) ?_
                  refine lv_iload hx hb dX0_tellHits_68 (lv_at hl 3 rfl) ?_
                  have hnx := nx_lt i (by omega) 0 (by omega)
                  refine vp_callSi (va_runSN (As := [.int (nI i), .int 0]) (rest := [.long (lN ma), .int (nI (20 - (2 * (drf i)))), .int (nI i), .ref (rh 0)]) ⟨hx, hb, hml, hown, hts⟩ (c_beside l dC dI gd i 0 (by omega) (by omega)) ⟨va_cnB 2 hts ggX0_tellHits_X11_besideOrSame rfl rfl rfl (hG.1 (.methodLinkNest RX0 56 yX11_besideOrSame "MistHeaps") (by decide +kernel)) (hts (.initialized RX11) kc_xTellHits_4) (by decide +kernel) ⟨Nat.le_of_ble_eq_true rfl, Nat.le_of_ble_eq_true rfl⟩, (hts (.static yX11_besideOrSame) kc_xTellHits_7), trivial⟩ ⟨fun a U g mk q => by obtain ⟨q0, qhG⟩ := q; exact ⟨q0, qhG.mv g mk a⟩, fun U hU hW => ⟨rfl, hG.callF hS hU hW⟩⟩ rfl rfl hl.1 rfl (lv_room (Nat.le_of_ble_eq_true rfl)) dX0_tellHits_70 ⟨Nat.le_of_ble_eq_true rfl, Nat.le_of_ble_eq_true rfl⟩).run (fun r_10 hw_11 => ?_)
                  obtain rfl := hw_11
                  refine vp_callSi (va_runS (As := [.long (lN ma), .int (nI (nxN i 0))]) (rest := [.int (nI (20 - (2 * (drf i)))), .int (nI i), .ref (rh 0)]) ⟨hx, hb, hml, hown, hts⟩ (c_hit l dC dI gd ma (nxN i 0) hma (by omega)) (va_cwS 2 hts gX0_tellHits_X0_hit rfl rfl rfl hd_yX0_hit.2 ⟨Nat.le_of_ble_eq_true rfl, Nat.le_of_ble_eq_true rfl⟩) ⟨fun a U g mk q => by obtain ⟨q0, qhG⟩ := q; exact ⟨q0, qhG.mv g mk a⟩, fun U hU hW => ⟨rfl, hG.callF hS hU hW⟩⟩ rfl rfl hl.1 rfl (lv_room (Nat.le_of_ble_eq_true rfl)) dX0_tellHits_73 ⟨Nat.le_of_ble_eq_true rfl, Nat.le_of_ble_eq_true rfl⟩).run (fun r_12 hw_13 => ?_)
                  obtain rfl := hw_13
                  have hb2 := hb_2 (ma := ma) (c := (nxN i 0))
                  refine lv_imul hx hb dX0_tellHits_76 ?_
                  refine qi_as (y := nI ((20 - (2 * (drf i))) * (hbN ma (nxN i 0)))) (pk_mul (20 - (2 * (drf i))) (hbN ma (nxN i 0))) ?_
                  refine lv_aload_n hx hb dX0_tellHits_77 rfl (lv_at hl 0 rfl) ?_
                  refine va_get (D := (dC, dI)) (ci := 2) (v := .ref dr) (C := RX0) (T := TX0) (N := 5) hx hb hts kc_xTellHits_0 hown hK hP 0 rfl rfl 2 (by decide) (hts (.fieldLink RX0 9 "MistHeaps$Chances" "drifts" "[I") kc_xTellHits_6) (fun _ h9 => h9) rfl dX0_tellHits_78 ?_
                  refine lv_iload hx hb dX0_tellHits_81 (lv_at hl 4 rfl) ?_
                  refine va_iald hx hb hK hP 1 0 rfl rfl (vp_in_nI (n := i) (N := 36) (by omega) (by omega)) dX0_tellHits_83 ?_
                  refine qi_as (y := nI (drf i)) ((show fD (nI i : Int32).toNatClampNeg = fD i from by rw [nI_clamp (by omega)]).trans ((hdr i (by omega)).1)) ?_
                  refine lv_lload_n hx hb dX0_tellHits_84 rfl (lv_at hl 2 rfl) ?_
                  refine lv_iload hx hb dX0_tellHits_85 (lv_at hl 4 rfl) ?_
                  refine lv_iload hx hb dX0_tellHits_87 (lv_at hl 3 rfl) ?_
                  refine lv_bipush (v := 7) hx hb dX0_tellHits_89 (by decide) ?_
                  refine lv_iadd hx hb dX0_tellHits_91 ?_
                  refine qi_as (y := 7) (by decide) ?_
                  refine lv_bipush (v := 7) hx hb dX0_tellHits_92 (by decide) ?_
                  refine lv_iand hx hb dX0_tellHits_94 ?_
                  refine qi_as (y := 7) (by decide) ?_
                  have hnx := nx_lt i (by omega) 7 (by omega)
                  refine vp_callSi (va_runSN (As := [.int (nI i), .int 7]) (rest := [.long (lN ma), .int (nI (drf i)), .int (nI ((20 - (2 * (drf i))) * (hbN ma (nxN i 0)))), .int (nI i), .ref (rh 0)]) ⟨hx, hb, hml, hown, hts⟩ (c_beside l dC dI gd i 7 (by omega) (by omega)) ⟨va_cnB 2 hts ggX0_tellHits_X11_besideOrSame rfl rfl rfl (hG.1 (.methodLinkNest RX0 56 yX11_besideOrSame "MistHeaps") (by decide +kernel)) (hts (.initialized RX11) kc_xTellHits_4) (by decide +kernel) ⟨Nat.le_of_ble_eq_true rfl, Nat.le_of_ble_eq_true rfl⟩, (hts (.static yX11_besideOrSame) kc_xTellHits_7), trivial⟩ ⟨fun a U g mk q => by obtain ⟨q0, qhG⟩ := q; exact ⟨q0, qhG.mv g mk a⟩, fun U hU hW => ⟨rfl, hG.callF hS hU hW⟩⟩ rfl rfl hl.1 rfl (lv_room (Nat.le_of_ble_eq_true rfl)) dX0_tellHits_95 ⟨Nat.le_of_ble_eq_true rfl, Nat.le_of_ble_eq_true rfl⟩).run (fun r_14 hw_15 => ?_)
                  obtain rfl := hw_15
                  refine vp_callSi (va_runS (As := [.long (lN ma), .int (nI (nxN i 7))]) (rest := [.int (nI (drf i)), .int (nI ((20 - (2 * (drf i))) * (hbN ma (nxN i 0)))), .int (nI i), .ref (rh 0)]) ⟨hx, hb, hml, hown, hts⟩ (c_hit l dC dI gd ma (nxN i 7) hma (by omega)) (va_cwS 2 hts gX0_tellHits_X0_hit rfl rfl rfl hd_yX0_hit.2 ⟨Nat.le_of_ble_eq_true rfl, Nat.le_of_ble_eq_true rfl⟩) ⟨fun a U g mk q => by obtain ⟨q0, qhG⟩ := q; exact ⟨q0, qhG.mv g mk a⟩, fun U hU hW => ⟨rfl, hG.callF hS hU hW⟩⟩ rfl rfl hl.1 rfl (lv_room (Nat.le_of_ble_eq_true rfl)) dX0_tellHits_98 ⟨Nat.le_of_ble_eq_true rfl, Nat.le_of_ble_eq_true rfl⟩).run (fun r_16 hw_17 => ?_)
                  obtain rfl := hw_17
                  have hb2 := hb_2 (ma := ma) (c := (nxN i 7))
                  refine lv_imul hx hb dX0_tellHits_101 ?_
                  refine qi_as (y := nI ((drf i) * (hbN ma (nxN i 7)))) (pk_mul (drf i) (hbN ma (nxN i 7))) ?_
                  refine lv_iadd hx hb dX0_tellHits_102 ?_
                  refine qi_as (y := nI (((20 - (2 * (drf i))) * (hbN ma (nxN i 0))) + ((drf i) * (hbN ma (nxN i 7))))) (nI_add ((20 - (2 * (drf i))) * (hbN ma (nxN i 0))) ((drf i) * (hbN ma (nxN i 7)))) ?_
                  refine lv_aload_n hx hb dX0_tellHits_103 rfl (lv_at hl 0 rfl) ?_
                  refine va_get (D := (dC, dI)) (ci := 2) (v := .ref dr) (C := RX0) (T := TX0) (N := 5) hx hb hts kc_xTellHits_0 hown hK hP 0 rfl rfl 2 (by decide) (hts (.fieldLink RX0 9 "MistHeaps$Chances" "drifts" "[I") kc_xTellHits_6) (fun _ h9 => h9) rfl dX0_tellHits_104 ?_
                  refine lv_iload hx hb dX0_tellHits_107 (lv_at hl 4 rfl) ?_
                  refine va_iald hx hb hK hP 1 0 rfl rfl (vp_in_nI (n := i) (N := 36) (by omega) (by omega)) dX0_tellHits_109 ?_
                  refine qi_as (y := nI (drf i)) ((show fD (nI i : Int32).toNatClampNeg = fD i from by rw [nI_clamp (by omega)]).trans ((hdr i (by omega)).1)) ?_
                  refine lv_lload_n hx hb dX0_tellHits_110 rfl (lv_at hl 2 rfl) ?_
                  refine lv_iload hx hb dX0_tellHits_111 (lv_at hl 4 rfl) ?_
                  refine lv_iload hx hb dX0_tellHits_113 (lv_at hl 3 rfl) ?_
                  refine lv_iconst (v := 1) hx hb dX0_tellHits_115 (by decide) ?_
                  refine lv_iadd hx hb dX0_tellHits_116 ?_
                  refine qi_as (y := 1) (by decide) ?_
                  refine lv_bipush (v := 7) hx hb dX0_tellHits_117 (by decide) ?_
                  refine lv_iand hx hb dX0_tellHits_119 ?_
                  refine qi_as (y := 1) (by decide) ?_
                  have hnx := nx_lt i (by omega) 1 (by omega)
                  refine vp_callSi (va_runSN (As := [.int (nI i), .int 1]) (rest := [.long (lN ma), .int (nI (drf i)), .int (nI (((20 - (2 * (drf i))) * (hbN ma (nxN i 0))) + ((drf i) * (hbN ma (nxN i 7))))), .int (nI i), .ref (rh 0)]) ⟨hx, hb, hml, hown, hts⟩ (c_beside l dC dI gd i 1 (by omega) (by omega)) ⟨va_cnB 2 hts ggX0_tellHits_X11_besideOrSame rfl rfl rfl (hG.1 (.methodLinkNest RX0 56 yX11_besideOrSame "MistHeaps") (by decide +kernel)) (hts (.initialized RX11) kc_xTellHits_4) (by decide +kernel) ⟨Nat.le_of_ble_eq_true rfl, Nat.le_of_ble_eq_true rfl⟩, (hts (.static yX11_besideOrSame) kc_xTellHits_7), trivial⟩ ⟨fun a U g mk q => by obtain ⟨q0, qhG⟩ := q; exact ⟨q0, qhG.mv g mk a⟩, fun U hU hW => ⟨rfl, hG.callF hS hU hW⟩⟩ rfl rfl hl.1 rfl (lv_room (Nat.le_of_ble_eq_true rfl)) dX0_tellHits_120 ⟨Nat.le_of_ble_eq_true rfl, Nat.le_of_ble_eq_true rfl⟩).run (fun r_18 hw_19 => ?_)
                  obtain rfl := hw_19
                  refine vp_callSi (va_runS (As := [.long (lN ma), .int (nI (nxN i 1))]) (rest := [.int (nI (drf i)), .int (nI (((20 - (2 * (drf i))) * (hbN ma (nxN i 0))) + ((drf i) * (hbN ma (nxN i 7))))), .int (nI i), .ref (rh 0)]) ⟨hx, hb, hml, hown, hts⟩ (c_hit l dC dI gd ma (nxN i 1) hma (by omega)) (va_cwS 2 hts gX0_tellHits_X0_hit rfl rfl rfl hd_yX0_hit.2 ⟨Nat.le_of_ble_eq_true rfl, Nat.le_of_ble_eq_true rfl⟩) ⟨fun a U g mk q => by obtain ⟨q0, qhG⟩ := q; exact ⟨q0, qhG.mv g mk a⟩, fun U hU hW => ⟨rfl, hG.callF hS hU hW⟩⟩ rfl rfl hl.1 rfl (lv_room (Nat.le_of_ble_eq_true rfl)) dX0_tellHits_123 ⟨Nat.le_of_ble_eq_true rfl, Nat.le_of_ble_eq_true rfl⟩).run (fun r_20 hw_21 => ?_)
                  obtain rfl := hw_21
                  have hb2 := hb_2 (ma := ma) (c := (nxN i 1))
                  refine lv_imul hx hb dX0_tellHits_126 ?_
                  refine qi_as (y := nI ((drf i) * (hbN ma (nxN i 1)))) (pk_mul (drf i) (hbN ma (nxN i 1))) ?_
                  refine lv_iadd hx hb dX0_tellHits_127 ?_
                  refine qi_as (y := nI ((((20 - (2 * (drf i))) * (hbN ma (nxN i 0))) + ((drf i) * (hbN ma (nxN i 7)))) + ((drf i) * (hbN ma (nxN i 1))))) (nI_add (((20 - (2 * (drf i))) * (hbN ma (nxN i 0))) + ((drf i) * (hbN ma (nxN i 7)))) ((drf i) * (hbN ma (nxN i 1)))) ?_
                  refine va_iast hx hb hK hP hD hS 3 2 rfl rfl (vp_in_nI (n := i) (N := 36) (by omega) (by omega)) dX0_tellHits_128 (fun H locs hP hD hS => ?_)
                  rw [nI_clamp (n := i) (by omega)] at hP hD
                  have hP : va_P (dC, dI) vwCl [(zo2lirrr ch ft fr dr tO hO), (zaI dr cD 36 fD), (zaR hO cHO 8 (fun i => if i < 8 then some (rh i) else none)), (zaI (rh 0) cH 36 (upd f9 i (nI ((((20 - (2 * (drf i))) * (hbN ma (nxN i 0))) + ((drf i) * (hbN ma (nxN i 7)))) + ((drf i) * (hbN ma (nxN i 1))))))), (zaI (rh 1) cH 36 g12), (zaI (rh 2) cH 36 g22), (zaI (rh 3) cH 36 g32), (zaI (rh 4) cH 36 g42), (zaI (rh 5) cH 36 g52), (zaI (rh 6) cH 36 g62), (zaI (rh 7) cH 36 g72), (zo10ririliiriririr sc aTp (nI ts) aHl (nI nh) (lN ee) mi sn aHs (nI n) aWk (nI wz) aBk (nI bz) aFc)] H := hP
                  have hD : va_D A [(zo2lirrr ch ft fr dr tO hO), (zaI dr cD 36 fD), (zaR hO cHO 8 (fun i => if i < 8 then some (rh i) else none)), (zaI (rh 0) cH 36 (upd f9 i (nI ((((20 - (2 * (drf i))) * (hbN ma (nxN i 0))) + ((drf i) * (hbN ma (nxN i 7)))) + ((drf i) * (hbN ma (nxN i 1))))))), (zaI (rh 1) cH 36 g12), (zaI (rh 2) cH 36 g22), (zaI (rh 3) cH 36 g32), (zaI (rh 4) cH 36 g42), (zaI (rh 5) cH 36 g52), (zaI (rh 6) cH 36 g62), (zaI (rh 7) cH 36 g72), (zo10ririliiriririr sc aTp (nI ts) aHl (nI nh) (lN ee) mi sn aHs (nI n) aWk (nI wz) aBk (nI bz) aFc)] := hD
                  refine lv_iinc (v := nI (i + 1)) (lv' := [(5, .int (nI (i + 1))), (0, .ref ch), (1, .ref sc), (2, .long (lN ma)), (4, .int 0)]) hx hb dX0_tellHits_129 hl (k := 4) rfl (nI_add i 1) (by decide) rfl (fun ls hl => ?_)
                  refine lv_goto (tgt := 13) hx hb dX0_tellHits_132 (by decide) ?_
                  exact ih13 (i + 1) ((upd f9 i (nI ((((20 - (2 * (drf i))) * (hbN ma (nxN i 0))) + ((drf i) * (hbN ma (nxN i 7)))) + ((drf i) * (hbN ma (nxN i 1))))))) (by omega) (by omega) (up_g (g := fun k0 => nI (htN (edB ee) drf ma 0 k0)) hf9 (congrArg nI (ht_n (fun z9 => hd_5 ((in_E hee (by omega)).mpr z9)))).symm) _ _ (hK.sub [0, 1, 2, 3, 4, 5, 6, 7, 8, 9] rfl) (hP.sub [0, 1, 2, 3, 4, 5, 6, 7, 8, 9, 10, 11] rfl) (hD.sub [0, 1, 2, 3, 4, 5, 6, 7, 8, 9, 10, 11] (by decide) rfl) hS ls (lv_sub hl [1, 2, 3, 4, 0] rfl)
          exact L13 _ (0) (g02) (Nat.lt_succ_self _) (by omega) (fun k0 h0 => absurd h0 (Nat.not_lt_zero k0)) _ _ (hK.sub [0, 1, 2, 3, 4, 5, 6, 7, 8, 9] rfl) (hP.sub [0, 1, 2, 3, 4, 5, 6, 7, 8, 9, 10, 11] rfl) (hD.sub [0, 1, 2, 3, 4, 5, 6, 7, 8, 9, 10, 11] (by decide) rfl) hS ls (lv_sub hl [1, 2, 3, 4, 0] rfl)
        · skip
          refine lv_iconst (v := 0) hx hb dX0_tellHits_10 (by decide) ?_
          refine lv_istore (lv' := [(5, .int 0), (0, .ref ch), (1, .ref sc), (2, .long (lN ma)), (4, .int 1)]) hx hb dX0_tellHits_11 hl (by decide) rfl (fun ls hl => ?_)
          have L13 : ∀ (nF : Nat) (i : Nat) (f9 : Nat → Int32), 36 - i < nF → (i ≤ 36) → (∀ k0, k0 < i → f9 k0 = nI (htN (edB ee) drf ma 1 k0)) → ∀ (H : Heap) (locs : List Loc), va_K (dC, dI) vwCl [(cD, .int), (cHO, .array .int), (cH, .int), (cH, .int), (cH, .int), (cH, .int), (cH, .int), (cH, .int), (cH, .int), (cH, .int)] s → va_P (dC, dI) vwCl [(zo2lirrr ch ft fr dr tO hO), (zaI dr cD 36 fD), (zaR hO cHO 8 (fun i => if i < 8 then some (rh i) else none)), (zaI (rh 0) cH 36 g02), (zaI (rh 1) cH 36 f9), (zaI (rh 2) cH 36 g22), (zaI (rh 3) cH 36 g32), (zaI (rh 4) cH 36 g42), (zaI (rh 5) cH 36 g52), (zaI (rh 6) cH 36 g62), (zaI (rh 7) cH 36 g72), (zo10ririliiriririr sc aTp (nI ts) aHl (nI nh) (lN ee) mi sn aHs (nI n) aWk (nI wz) aBk (nI bz) aFc)] H → va_D A [(zo2lirrr ch ft fr dr tO hO), (zaI dr cD 36 fD), (zaR hO cHO 8 (fun i => if i < 8 then some (rh i) else none)), (zaI (rh 0) cH 36 g02), (zaI (rh 1) cH 36 f9), (zaI (rh 2) cH 36 g22), (zaI (rh 3) cH 36 g32), (zaI (rh 4) cH 36 g42), (zaI (rh 5) cH 36 g52), (zaI (rh 6) cH 36 g62), (zaI (rh 7) cH 36 g72), (zo10ririliiriririr sc aTp (nI ts) aHl (nI nh) (lN ee) mi sn aHs (nI n) aWk (nI wz) aBk (nI bz) aFc)] → va_S A s.heap H locs → ∀ (ls : Array Slot), lv_has ls 6 [(0, .ref ch), (1, .ref sc), (2, .long (lN ma)), (4, .int 1), (5, .int (nI i))] → W p l e ({ frames := 2, cells := 0, slots := 0, locals := 44 } : Room) s m args below meth c H locs 0 0 Q (F0 m 13 ls []) := by
            intro nF
            induction nF with
            | zero => intro i f9 hm; exact absurd hm (Nat.not_lt_zero _)
            | succ nF ih13 =>
              intro i f9 hm hi hf9 H locs hK hP hD hS ls hl
              refine lv_iload hx hb dX0_tellHits_13 (lv_at hl 4 rfl) ?_
              refine lv_bipush (v := 36) hx hb dX0_tellHits_15 (by decide) ?_
              refine lv_icmp_ge (tgt := 135) hx hb dX0_tellHits_17 (by decide) (fun c_22 => ?_) (fun c_22 => ?_)
              · skip
                have c_22 : 36 ≤ i := (nI_leI (a := 36) (b := i) (by omega) (by omega)).mp c_22
                refine lv_iinc (v := 2) (lv' := [(4, .int 2), (0, .ref ch), (1, .ref sc), (2, .long (lN ma)), (5, .int (nI i))]) hx hb dX0_tellHits_135 hl (k := 3) rfl (by decide) (by decide) rfl (fun ls hl => ?_)
                refine lv_goto (tgt := 3) hx hb dX0_tellHits_138 (by decide) ?_
                exact ih3 (2) (g02) (f9) (g22) (g32) (g42) (g52) (g62) (g72) (by omega) (by omega) (fun _ => hh0 (by omega)) (fun _ k0 h0 => hf9 k0 (by omega)) (fun z9 => absurd z9 (by omega)) (fun z9 => absurd z9 (by omega)) (fun z9 => absurd z9 (by omega)) (fun z9 => absurd z9 (by omega)) (fun z9 => absurd z9 (by omega)) (fun z9 => absurd z9 (by omega)) _ _ (hK.sub [0, 1, 2, 3, 4, 5, 6, 7, 8, 9] rfl) (hP.sub [0, 1, 2, 3, 4, 5, 6, 7, 8, 9, 10, 11] rfl) (hD.sub [0, 1, 2, 3, 4, 5, 6, 7, 8, 9, 10, 11] (by decide) rfl) hS ls (lv_sub hl [1, 2, 3, 0] rfl)
              · skip
                have c_22 : ¬ 36 ≤ i := fun q => c_22 ((nI_leI (a := 36) (b := i) (by omega) (by omega)).mpr q)
                refine lv_aload_n hx hb dX0_tellHits_20 rfl (lv_at hl 0 rfl) ?_
                refine va_get (D := (dC, dI)) (ci := 2) (v := .ref hO) (C := RX0) (T := TX0) (N := 5) hx hb hts kc_xTellHits_0 hown hK hP 0 rfl rfl 4 (by decide) (hts (.fieldLink RX0 22 "MistHeaps$Chances" "hits" "[[I") kc_xTellHits_1) (fun _ h9 => h9) rfl dX0_tellHits_21 ?_
                refine lv_iload hx hb dX0_tellHits_24 (lv_at hl 3 rfl) ?_
                refine va_alda hx hb hK hP 2 1 rfl rfl (vp_in_nI (n := 1) (N := 8) (by omega) (by omega)) dX0_tellHits_26 ?_
                refine qq_as (v := .ref (rh 1)) (rfl) ?_
                refine lv_iload hx hb dX0_tellHits_27 (lv_at hl 4 rfl) ?_
                refine lv_aload_n hx hb dX0_tellHits_29 rfl (lv_at hl 1 rfl) ?_
                refine va_get (D := (dC, dI)) (ci := 10) (v := .long (lN ee)) (C := RX8) (T := TX8) (N := 14) hx hb hts kc_xTellHits_2 hown hK hP 11 rfl rfl 4 (by decide) (hts (.fieldLink RX0 52 "MistHeaps$Scene" "edges" "J") kc_xTellHits_3) (fun _ h9 => h9) rfl dX0_tellHits_30 ?_
                refine lv_iload hx hb dX0_tellHits_33 (lv_at hl 4 rfl) ?_
                refine vp_callSi (va_runSN (As := [.long (lN ee), .int (nI i)]) (rest := [.int (nI i), .ref (rh 1)]) ⟨hx, hb, hml, hown, hts⟩ (c_isIn l dC dI (lN ee) (nI i)) ⟨va_cnB 2 hts ggX0_tellHits_X11_isIn rfl rfl rfl (hG.1 (.methodLinkNest RX0 44 yX11_isIn "MistHeaps") (by decide +kernel)) (hts (.initialized RX11) kc_xTellHits_4) (by decide +kernel) ⟨Nat.le_of_ble_eq_true rfl, Nat.le_of_ble_eq_true rfl⟩, (hts (.static yX11_isIn) kc_xTellHits_5), trivial⟩ ⟨fun a U g mk q => ⟨q.1, trivial⟩, fun U hU hW => ⟨rfl, trivial⟩⟩ rfl rfl hl.1 rfl (lv_room (Nat.le_of_ble_eq_true rfl)) dX0_tellHits_35 ⟨Nat.le_of_ble_eq_true rfl, Nat.le_of_ble_eq_true rfl⟩).run (fun r_23 hw_24 => ?_)
                rcases hw_24 with ⟨rfl, hd_25⟩ | ⟨rfl, hd_25⟩
                · skip
                  refine lv_if_eq (tgt := 53) hx hb dX0_tellHits_38 (by decide) (fun c_26 => absurd c_26 (by decide)) (fun _ => ?_)
                  refine lv_bipush (v := 20) hx hb dX0_tellHits_41 (by decide) ?_
                  refine lv_lload_n hx hb dX0_tellHits_43 rfl (lv_at hl 2 rfl) ?_
                  refine lv_iload hx hb dX0_tellHits_44 (lv_at hl 4 rfl) ?_
                  refine vp_callSi (va_runS (As := [.long (lN ma), .int (nI i)]) (rest := [.int 20, .int (nI i), .ref (rh 1)]) ⟨hx, hb, hml, hown, hts⟩ (c_hit l dC dI gd ma i hma (by omega)) (va_cwS 2 hts gX0_tellHits_X0_hit rfl rfl rfl hd_yX0_hit.2 ⟨Nat.le_of_ble_eq_true rfl, Nat.le_of_ble_eq_true rfl⟩) ⟨fun a U g mk q => by obtain ⟨q0, qhG⟩ := q; exact ⟨q0, qhG.mv g mk a⟩, fun U hU hW => ⟨rfl, hG.callF hS hU hW⟩⟩ rfl rfl hl.1 rfl (lv_room (Nat.le_of_ble_eq_true rfl)) dX0_tellHits_46 ⟨Nat.le_of_ble_eq_true rfl, Nat.le_of_ble_eq_true rfl⟩).run (fun r_27 hw_28 => ?_)
                  obtain rfl := hw_28
                  have hb2 := hb_2 (ma := ma) (c := i)
                  refine lv_imul hx hb dX0_tellHits_49 ?_
                  refine qi_as (y := nI (20 * (hbN ma i))) (pk_mul 20 (hbN ma i)) ?_
                  refine lv_goto (tgt := 128) hx hb dX0_tellHits_50 (by decide) ?_
                  refine va_iast hx hb hK hP hD hS 4 3 rfl rfl (vp_in_nI (n := i) (N := 36) (by omega) (by omega)) dX0_tellHits_128 (fun H locs hP hD hS => ?_)
                  rw [nI_clamp (n := i) (by omega)] at hP hD
                  have hP : va_P (dC, dI) vwCl [(zo2lirrr ch ft fr dr tO hO), (zaI dr cD 36 fD), (zaR hO cHO 8 (fun i => if i < 8 then some (rh i) else none)), (zaI (rh 0) cH 36 g02), (zaI (rh 1) cH 36 (upd f9 i (nI (20 * (hbN ma i))))), (zaI (rh 2) cH 36 g22), (zaI (rh 3) cH 36 g32), (zaI (rh 4) cH 36 g42), (zaI (rh 5) cH 36 g52), (zaI (rh 6) cH 36 g62), (zaI (rh 7) cH 36 g72), (zo10ririliiriririr sc aTp (nI ts) aHl (nI nh) (lN ee) mi sn aHs (nI n) aWk (nI wz) aBk (nI bz) aFc)] H := hP
                  have hD : va_D A [(zo2lirrr ch ft fr dr tO hO), (zaI dr cD 36 fD), (zaR hO cHO 8 (fun i => if i < 8 then some (rh i) else none)), (zaI (rh 0) cH 36 g02), (zaI (rh 1) cH 36 (upd f9 i (nI (20 * (hbN ma i))))), (zaI (rh 2) cH 36 g22), (zaI (rh 3) cH 36 g32), (zaI (rh 4) cH 36 g42), (zaI (rh 5) cH 36 g52), (zaI (rh 6) cH 36 g62), (zaI (rh 7) cH 36 g72), (zo10ririliiriririr sc aTp (nI ts) aHl (nI nh) (lN ee) mi sn aHs (nI n) aWk (nI wz) aBk (nI bz) aFc)] := hD
                  refine lv_iinc (v := nI (i + 1)) (lv' := [(5, .int (nI (i + 1))), (0, .ref ch), (1, .ref sc), (2, .long (lN ma)), (4, .int 1)]) hx hb dX0_tellHits_129 hl (k := 4) rfl (nI_add i 1) (by decide) rfl (fun ls hl => ?_)
                  refine lv_goto (tgt := 13) hx hb dX0_tellHits_132 (by decide) ?_
                  exact ih13 (i + 1) ((upd f9 i (nI (20 * (hbN ma i))))) (by omega) (by omega) (up_g (g := fun k0 => nI (htN (edB ee) drf ma 1 k0)) hf9 (congrArg nI (ht_e ((in_E hee (by omega)).mp hd_25))).symm) _ _ (hK.sub [0, 1, 2, 3, 4, 5, 6, 7, 8, 9] rfl) (hP.sub [0, 1, 2, 3, 4, 5, 6, 7, 8, 9, 10, 11] rfl) (hD.sub [0, 1, 2, 3, 4, 5, 6, 7, 8, 9, 10, 11] (by decide) rfl) hS ls (lv_sub hl [1, 2, 3, 4, 0] rfl)
                · skip
                  refine lv_if_eq (tgt := 53) hx hb dX0_tellHits_38 (by decide) (fun _ => ?_) (fun c_29 => absurd c_29 (by decide))
                  have hd5 := (hdr i (by omega)).2
                  refine lv_bipush (v := 20) hx hb dX0_tellHits_53 (by decide) ?_
                  refine lv_iconst (v := 2) hx hb dX0_tellHits_55 (by decide) ?_
                  refine lv_aload_n hx hb dX0_tellHits_56 rfl (lv_at hl 0 rfl) ?_
                  refine va_get (D := (dC, dI)) (ci := 2) (v := .ref dr) (C := RX0) (T := TX0) (N := 5) hx hb hts kc_xTellHits_0 hown hK hP 0 rfl rfl 2 (by decide) (hts (.fieldLink RX0 9 "MistHeaps$Chances" "drifts" "[I") kc_xTellHits_6) (fun _ h9 => h9) rfl dX0_tellHits_57 ?_
                  refine lv_iload hx hb dX0_tellHits_60 (lv_at hl 4 rfl) ?_
                  refine va_iald hx hb hK hP 1 0 rfl rfl (vp_in_nI (n := i) (N := 36) (by omega) (by omega)) dX0_tellHits_62 ?_
                  refine qi_as (y := nI (drf i)) ((show fD (nI i : Int32).toNatClampNeg = fD i from by rw [nI_clamp (by omega)]).trans ((hdr i (by omega)).1)) ?_
                  refine lv_imul hx hb dX0_tellHits_63 ?_
                  refine qi_as (y := nI (2 * (drf i))) (pk_mul 2 (drf i)) ?_
                  refine lv_isub hx hb dX0_tellHits_64 ?_
                  refine qi_as (y := nI (20 - (2 * (drf i)))) (pk_sub (a := 20) (b := 2 * (drf i)) (by omega)) ?_
                  refine lv_lload_n hx hb dX0_tellHits_65 rfl (lv_at hl 2 rfl) ?_
                  refine lv_iload hx hb dX0_tellHits_66 (lv_at hl 4 rfl) ?_
                  refine lv_iload hx hb dX0_tellHits_68 (lv_at hl 3 rfl) ?_
                  have hnx := nx_lt i (by omega) 1 (by omega)
                  refine vp_callSi (va_runSN (As := [.int (nI i), .int 1]) (rest := [.long (lN ma), .int (nI (20 - (2 * (drf i)))), .int (nI i), .ref (rh 1)]) ⟨hx, hb, hml, hown, hts⟩ (c_beside l dC dI gd i 1 (by omega) (by omega)) ⟨va_cnB 2 hts ggX0_tellHits_X11_besideOrSame rfl rfl rfl (hG.1 (.methodLinkNest RX0 56 yX11_besideOrSame "MistHeaps") (by decide +kernel)) (hts (.initialized RX11) kc_xTellHits_4) (by decide +kernel) ⟨Nat.le_of_ble_eq_true rfl, Nat.le_of_ble_eq_true rfl⟩, (hts (.static yX11_besideOrSame) kc_xTellHits_7), trivial⟩ ⟨fun a U g mk q => by obtain ⟨q0, qhG⟩ := q; exact ⟨q0, qhG.mv g mk a⟩, fun U hU hW => ⟨rfl, hG.callF hS hU hW⟩⟩ rfl rfl hl.1 rfl (lv_room (Nat.le_of_ble_eq_true rfl)) dX0_tellHits_70 ⟨Nat.le_of_ble_eq_true rfl, Nat.le_of_ble_eq_true rfl⟩).run (fun r_30 hw_31 => ?_)
                  obtain rfl := hw_31
                  refine vp_callSi (va_runS (As := [.long (lN ma), .int (nI (nxN i 1))]) (rest := [.int (nI (20 - (2 * (drf i)))), .int (nI i), .ref (rh 1)]) ⟨hx, hb, hml, hown, hts⟩ (c_hit l dC dI gd ma (nxN i 1) hma (by omega)) (va_cwS 2 hts gX0_tellHits_X0_hit rfl rfl rfl hd_yX0_hit.2 ⟨Nat.le_of_ble_eq_true rfl, Nat.le_of_ble_eq_true rfl⟩) ⟨fun a U g mk q => by obtain ⟨q0, qhG⟩ := q; exact ⟨q0, qhG.mv g mk a⟩, fun U hU hW => ⟨rfl, hG.callF hS hU hW⟩⟩ rfl rfl hl.1 rfl (lv_room (Nat.le_of_ble_eq_true rfl)) dX0_tellHits_73 ⟨Nat.le_of_ble_eq_true rfl, Nat.le_of_ble_eq_true rfl⟩).run (fun r_32 hw_33 => ?_)
                  obtain rfl := hw_33
                  have hb2 := hb_2 (ma := ma) (c := (nxN i 1))
                  refine lv_imul hx hb dX0_tellHits_76 ?_
                  refine qi_as (y := nI ((20 - (2 * (drf i))) * (hbN ma (nxN i 1)))) (pk_mul (20 - (2 * (drf i))) (hbN ma (nxN i 1))) ?_
                  refine lv_aload_n hx hb dX0_tellHits_77 rfl (lv_at hl 0 rfl) ?_
                  refine va_get (D := (dC, dI)) (ci := 2) (v := .ref dr) (C := RX0) (T := TX0) (N := 5) hx hb hts kc_xTellHits_0 hown hK hP 0 rfl rfl 2 (by decide) (hts (.fieldLink RX0 9 "MistHeaps$Chances" "drifts" "[I") kc_xTellHits_6) (fun _ h9 => h9) rfl dX0_tellHits_78 ?_
                  refine lv_iload hx hb dX0_tellHits_81 (lv_at hl 4 rfl) ?_
                  refine va_iald hx hb hK hP 1 0 rfl rfl (vp_in_nI (n := i) (N := 36) (by omega) (by omega)) dX0_tellHits_83 ?_
                  refine qi_as (y := nI (drf i)) ((show fD (nI i : Int32).toNatClampNeg = fD i from by rw [nI_clamp (by omega)]).trans ((hdr i (by omega)).1)) ?_
                  refine lv_lload_n hx hb dX0_tellHits_84 rfl (lv_at hl 2 rfl) ?_
                  refine lv_iload hx hb dX0_tellHits_85 (lv_at hl 4 rfl) ?_
                  refine lv_iload hx hb dX0_tellHits_87 (lv_at hl 3 rfl) ?_
                  refine lv_bipush (v := 7) hx hb dX0_tellHits_89 (by decide) ?_
                  refine lv_iadd hx hb dX0_tellHits_91 ?_
                  refine qi_as (y := 8) (by decide) ?_
                  refine lv_bipush (v := 7) hx hb dX0_tellHits_92 (by decide) ?_
                  refine lv_iand hx hb dX0_tellHits_94 ?_
                  refine qi_as (y := 0) (by decide) ?_
                  have hnx := nx_lt i (by omega) 0 (by omega)
                  refine vp_callSi (va_runSN (As := [.int (nI i), .int 0]) (rest := [.long (lN ma), .int (nI (drf i)), .int (nI ((20 - (2 * (drf i))) * (hbN ma (nxN i 1)))), .int (nI i), .ref (rh 1)]) ⟨hx, hb, hml, hown, hts⟩ (c_beside l dC dI gd i 0 (by omega) (by omega)) ⟨va_cnB 2 hts ggX0_tellHits_X11_besideOrSame rfl rfl rfl (hG.1 (.methodLinkNest RX0 56 yX11_besideOrSame "MistHeaps") (by decide +kernel)) (hts (.initialized RX11) kc_xTellHits_4) (by decide +kernel) ⟨Nat.le_of_ble_eq_true rfl, Nat.le_of_ble_eq_true rfl⟩, (hts (.static yX11_besideOrSame) kc_xTellHits_7), trivial⟩ ⟨fun a U g mk q => by obtain ⟨q0, qhG⟩ := q; exact ⟨q0, qhG.mv g mk a⟩, fun U hU hW => ⟨rfl, hG.callF hS hU hW⟩⟩ rfl rfl hl.1 rfl (lv_room (Nat.le_of_ble_eq_true rfl)) dX0_tellHits_95 ⟨Nat.le_of_ble_eq_true rfl, Nat.le_of_ble_eq_true rfl⟩).run (fun r_34 hw_35 => ?_)
                  obtain rfl := hw_35
                  refine vp_callSi (va_runS (As := [.long (lN ma), .int (nI (nxN i 0))]) (rest := [.int (nI (drf i)), .int (nI ((20 - (2 * (drf i))) * (hbN ma (nxN i 1)))), .int (nI i), .ref (rh 1)]) ⟨hx, hb, hml, hown, hts⟩ (c_hit l dC dI gd ma (nxN i 0) hma (by omega)) (va_cwS 2 hts gX0_tellHits_X0_hit rfl rfl rfl hd_yX0_hit.2 ⟨Nat.le_of_ble_eq_true rfl, Nat.le_of_ble_eq_true rfl⟩) ⟨fun a U g mk q => by obtain ⟨q0, qhG⟩ := q; exact ⟨q0, qhG.mv g mk a⟩, fun U hU hW => ⟨rfl, hG.callF hS hU hW⟩⟩ rfl rfl hl.1 rfl (lv_room (Nat.le_of_ble_eq_true rfl)) dX0_tellHits_98 ⟨Nat.le_of_ble_eq_true rfl, Nat.le_of_ble_eq_true rfl⟩).run (fun r_36 hw_37 => ?_)
                  obtain rfl := hw_37
                  have hb2 := hb_2 (ma := ma) (c := (nxN i 0))
                  refine lv_imul hx hb dX0_tellHits_101 ?_
                  refine qi_as (y := nI ((drf i) * (hbN ma (nxN i 0)))) (pk_mul (drf i) (hbN ma (nxN i 0))) ?_
                  refine lv_iadd hx hb dX0_tellHits_102 ?_
                  refine qi_as (y := nI (((20 - (2 * (drf i))) * (hbN ma (nxN i 1))) + ((drf i) * (hbN ma (nxN i 0))))) (nI_add ((20 - (2 * (drf i))) * (hbN ma (nxN i 1))) ((drf i) * (hbN ma (nxN i 0)))) ?_
                  refine lv_aload_n hx hb dX0_tellHits_103 rfl (lv_at hl 0 rfl) ?_
                  refine va_get (D := (dC, dI)) (ci := 2) (v := .ref dr) (C := RX0) (T := TX0) (N := 5) hx hb hts kc_xTellHits_0 hown hK hP 0 rfl rfl 2 (by decide) (hts (.fieldLink RX0 9 "MistHeaps$Chances" "drifts" "[I") kc_xTellHits_6) (fun _ h9 => h9) rfl dX0_tellHits_104 ?_
                  refine lv_iload hx hb dX0_tellHits_107 (lv_at hl 4 rfl) ?_
                  refine va_iald hx hb hK hP 1 0 rfl rfl (vp_in_nI (n := i) (N := 36) (by omega) (by omega)) dX0_tellHits_109 ?_
                  refine qi_as (y := nI (drf i)) ((show fD (nI i : Int32).toNatClampNeg = fD i from by rw [nI_clamp (by omega)]).trans ((hdr i (by omega)).1)) ?_
                  refine lv_lload_n hx hb dX0_tellHits_110 rfl (lv_at hl 2 rfl) ?_
                  refine lv_iload hx hb dX0_tellHits_111 (lv_at hl 4 rfl) ?_
                  refine lv_iload hx hb dX0_tellHits_113 (lv_at hl 3 rfl) ?_
                  refine lv_iconst (v := 1) hx hb dX0_tellHits_115 (by decide) ?_
                  refine lv_iadd hx hb dX0_tellHits_116 ?_
                  refine qi_as (y := 2) (by decide) ?_
                  refine lv_bipush (v := 7) hx hb dX0_tellHits_117 (by decide) ?_
                  refine lv_iand hx hb dX0_tellHits_119 ?_
                  refine qi_as (y := 2) (by decide) ?_
                  have hnx := nx_lt i (by omega) 2 (by omega)
                  refine vp_callSi (va_runSN (As := [.int (nI i), .int 2]) (rest := [.long (lN ma), .int (nI (drf i)), .int (nI (((20 - (2 * (drf i))) * (hbN ma (nxN i 1))) + ((drf i) * (hbN ma (nxN i 0))))), .int (nI i), .ref (rh 1)]) ⟨hx, hb, hml, hown, hts⟩ (c_beside l dC dI gd i 2 (by omega) (by omega)) ⟨va_cnB 2 hts ggX0_tellHits_X11_besideOrSame rfl rfl rfl (hG.1 (.methodLinkNest RX0 56 yX11_besideOrSame "MistHeaps") (by decide +kernel)) (hts (.initialized RX11) kc_xTellHits_4) (by decide +kernel) ⟨Nat.le_of_ble_eq_true rfl, Nat.le_of_ble_eq_true rfl⟩, (hts (.static yX11_besideOrSame) kc_xTellHits_7), trivial⟩ ⟨fun a U g mk q => by obtain ⟨q0, qhG⟩ := q; exact ⟨q0, qhG.mv g mk a⟩, fun U hU hW => ⟨rfl, hG.callF hS hU hW⟩⟩ rfl rfl hl.1 rfl (lv_room (Nat.le_of_ble_eq_true rfl)) dX0_tellHits_120 ⟨Nat.le_of_ble_eq_true rfl, Nat.le_of_ble_eq_true rfl⟩).run (fun r_38 hw_39 => ?_)
                  obtain rfl := hw_39
                  refine vp_callSi (va_runS (As := [.long (lN ma), .int (nI (nxN i 2))]) (rest := [.int (nI (drf i)), .int (nI (((20 - (2 * (drf i))) * (hbN ma (nxN i 1))) + ((drf i) * (hbN ma (nxN i 0))))), .int (nI i), .ref (rh 1)]) ⟨hx, hb, hml, hown, hts⟩ (c_hit l dC dI gd ma (nxN i 2) hma (by omega)) (va_cwS 2 hts gX0_tellHits_X0_hit rfl rfl rfl hd_yX0_hit.2 ⟨Nat.le_of_ble_eq_true rfl, Nat.le_of_ble_eq_true rfl⟩) ⟨fun a U g mk q => by obtain ⟨q0, qhG⟩ := q; exact ⟨q0, qhG.mv g mk a⟩, fun U hU hW => ⟨rfl, hG.callF hS hU hW⟩⟩ rfl rfl hl.1 rfl (lv_room (Nat.le_of_ble_eq_true rfl)) dX0_tellHits_123 ⟨Nat.le_of_ble_eq_true rfl, Nat.le_of_ble_eq_true rfl⟩).run (fun r_40 hw_41 => ?_)
                  obtain rfl := hw_41
                  have hb2 := hb_2 (ma := ma) (c := (nxN i 2))
                  refine lv_imul hx hb dX0_tellHits_126 ?_
                  refine qi_as (y := nI ((drf i) * (hbN ma (nxN i 2)))) (pk_mul (drf i) (hbN ma (nxN i 2))) ?_
                  refine lv_iadd hx hb dX0_tellHits_127 ?_
                  refine qi_as (y := nI ((((20 - (2 * (drf i))) * (hbN ma (nxN i 1))) + ((drf i) * (hbN ma (nxN i 0)))) + ((drf i) * (hbN ma (nxN i 2))))) (nI_add (((20 - (2 * (drf i))) * (hbN ma (nxN i 1))) + ((drf i) * (hbN ma (nxN i 0)))) ((drf i) * (hbN ma (nxN i 2)))) ?_
                  refine va_iast hx hb hK hP hD hS 4 3 rfl rfl (vp_in_nI (n := i) (N := 36) (by omega) (by omega)) dX0_tellHits_128 (fun H locs hP hD hS => ?_)
                  rw [nI_clamp (n := i) (by omega)] at hP hD
                  have hP : va_P (dC, dI) vwCl [(zo2lirrr ch ft fr dr tO hO), (zaI dr cD 36 fD), (zaR hO cHO 8 (fun i => if i < 8 then some (rh i) else none)), (zaI (rh 0) cH 36 g02), (zaI (rh 1) cH 36 (upd f9 i (nI ((((20 - (2 * (drf i))) * (hbN ma (nxN i 1))) + ((drf i) * (hbN ma (nxN i 0)))) + ((drf i) * (hbN ma (nxN i 2))))))), (zaI (rh 2) cH 36 g22), (zaI (rh 3) cH 36 g32), (zaI (rh 4) cH 36 g42), (zaI (rh 5) cH 36 g52), (zaI (rh 6) cH 36 g62), (zaI (rh 7) cH 36 g72), (zo10ririliiriririr sc aTp (nI ts) aHl (nI nh) (lN ee) mi sn aHs (nI n) aWk (nI wz) aBk (nI bz) aFc)] H := hP
                  have hD : va_D A [(zo2lirrr ch ft fr dr tO hO), (zaI dr cD 36 fD), (zaR hO cHO 8 (fun i => if i < 8 then some (rh i) else none)), (zaI (rh 0) cH 36 g02), (zaI (rh 1) cH 36 (upd f9 i (nI ((((20 - (2 * (drf i))) * (hbN ma (nxN i 1))) + ((drf i) * (hbN ma (nxN i 0)))) + ((drf i) * (hbN ma (nxN i 2))))))), (zaI (rh 2) cH 36 g22), (zaI (rh 3) cH 36 g32), (zaI (rh 4) cH 36 g42), (zaI (rh 5) cH 36 g52), (zaI (rh 6) cH 36 g62), (zaI (rh 7) cH 36 g72), (zo10ririliiriririr sc aTp (nI ts) aHl (nI nh) (lN ee) mi sn aHs (nI n) aWk (nI wz) aBk (nI bz) aFc)] := hD
                  refine lv_iinc (v := nI (i + 1)) (lv' := [(5, .int (nI (i + 1))), (0, .ref ch), (1, .ref sc), (2, .long (lN ma)), (4, .int 1)]) hx hb dX0_tellHits_129 hl (k := 4) rfl (nI_add i 1) (by decide) rfl (fun ls hl => ?_)
                  refine lv_goto (tgt := 13) hx hb dX0_tellHits_132 (by decide) ?_
                  exact ih13 (i + 1) ((upd f9 i (nI ((((20 - (2 * (drf i))) * (hbN ma (nxN i 1))) + ((drf i) * (hbN ma (nxN i 0)))) + ((drf i) * (hbN ma (nxN i 2))))))) (by omega) (by omega) (up_g (g := fun k0 => nI (htN (edB ee) drf ma 1 k0)) hf9 (congrArg nI (ht_n (fun z9 => hd_25 ((in_E hee (by omega)).mpr z9)))).symm) _ _ (hK.sub [0, 1, 2, 3, 4, 5, 6, 7, 8, 9] rfl) (hP.sub [0, 1, 2, 3, 4, 5, 6, 7, 8, 9, 10, 11] rfl) (hD.sub [0, 1, 2, 3, 4, 5, 6, 7, 8, 9, 10, 11] (by decide) rfl) hS ls (lv_sub hl [1, 2, 3, 4, 0] rfl)
          exact L13 _ (0) (g12) (Nat.lt_succ_self _) (by omega) (fun k0 h0 => absurd h0 (Nat.not_lt_zero k0)) _ _ (hK.sub [0, 1, 2, 3, 4, 5, 6, 7, 8, 9] rfl) (hP.sub [0, 1, 2, 3, 4, 5, 6, 7, 8, 9, 10, 11] rfl) (hD.sub [0, 1, 2, 3, 4, 5, 6, 7, 8, 9, 10, 11] (by decide) rfl) hS ls (lv_sub hl [1, 2, 3, 4, 0] rfl)
        · skip
          refine lv_iconst (v := 0) hx hb dX0_tellHits_10 (by decide) ?_
          refine lv_istore (lv' := [(5, .int 0), (0, .ref ch), (1, .ref sc), (2, .long (lN ma)), (4, .int 2)]) hx hb dX0_tellHits_11 hl (by decide) rfl (fun ls hl => ?_)
          have L13 : ∀ (nF : Nat) (i : Nat) (f9 : Nat → Int32), 36 - i < nF → (i ≤ 36) → (∀ k0, k0 < i → f9 k0 = nI (htN (edB ee) drf ma 2 k0)) → ∀ (H : Heap) (locs : List Loc), va_K (dC, dI) vwCl [(cD, .int), (cHO, .array .int), (cH, .int), (cH, .int), (cH, .int), (cH, .int), (cH, .int), (cH, .int), (cH, .int), (cH, .int)] s → va_P (dC, dI) vwCl [(zo2lirrr ch ft fr dr tO hO), (zaI dr cD 36 fD), (zaR hO cHO 8 (fun i => if i < 8 then some (rh i) else none)), (zaI (rh 0) cH 36 g02), (zaI (rh 1) cH 36 g12), (zaI (rh 2) cH 36 f9), (zaI (rh 3) cH 36 g32), (zaI (rh 4) cH 36 g42), (zaI (rh 5) cH 36 g52), (zaI (rh 6) cH 36 g62), (zaI (rh 7) cH 36 g72), (zo10ririliiriririr sc aTp (nI ts) aHl (nI nh) (lN ee) mi sn aHs (nI n) aWk (nI wz) aBk (nI bz) aFc)] H → va_D A [(zo2lirrr ch ft fr dr tO hO), (zaI dr cD 36 fD), (zaR hO cHO 8 (fun i => if i < 8 then some (rh i) else none)), (zaI (rh 0) cH 36 g02), (zaI (rh 1) cH 36 g12), (zaI (rh 2) cH 36 f9), (zaI (rh 3) cH 36 g32), (zaI (rh 4) cH 36 g42), (zaI (rh 5) cH 36 g52), (zaI (rh 6) cH 36 g62), (zaI (rh 7) cH 36 g72), (zo10ririliiriririr sc aTp (nI ts) aHl (nI nh) (lN ee) mi sn aHs (nI n) aWk (nI wz) aBk (nI bz) aFc)] → va_S A s.heap H locs → ∀ (ls : Array Slot), lv_has ls 6 [(0, .ref ch), (1, .ref sc), (2, .long (lN ma)), (4, .int 2), (5, .int (nI i))] → W p l e ({ frames := 2, cells := 0, slots := 0, locals := 44 } : Room) s m args below meth c H locs 0 0 Q (F0 m 13 ls []) := by
            intro nF
            induction nF with
            | zero => intro i f9 hm; exact absurd hm (Nat.not_lt_zero _)
            | succ nF ih13 =>
              intro i f9 hm hi hf9 H locs hK hP hD hS ls hl
              refine lv_iload hx hb dX0_tellHits_13 (lv_at hl 4 rfl) ?_
              refine lv_bipush (v := 36) hx hb dX0_tellHits_15 (by decide) ?_
              refine lv_icmp_ge (tgt := 135) hx hb dX0_tellHits_17 (by decide) (fun c_42 => ?_) (fun c_42 => ?_)
              · skip
                have c_42 : 36 ≤ i := (nI_leI (a := 36) (b := i) (by omega) (by omega)).mp c_42
                refine lv_iinc (v := 3) (lv' := [(4, .int 3), (0, .ref ch), (1, .ref sc), (2, .long (lN ma)), (5, .int (nI i))]) hx hb dX0_tellHits_135 hl (k := 3) rfl (by decide) (by decide) rfl (fun ls hl => ?_)
                refine lv_goto (tgt := 3) hx hb dX0_tellHits_138 (by decide) ?_
                exact ih3 (3) (g02) (g12) (f9) (g32) (g42) (g52) (g62) (g72) (by omega) (by omega) (fun _ => hh0 (by omega)) (fun _ => hh1 (by omega)) (fun _ k0 h0 => hf9 k0 (by omega)) (fun z9 => absurd z9 (by omega)) (fun z9 => absurd z9 (by omega)) (fun z9 => absurd z9 (by omega)) (fun z9 => absurd z9 (by omega)) (fun z9 => absurd z9 (by omega)) _ _ (hK.sub [0, 1, 2, 3, 4, 5, 6, 7, 8, 9] rfl) (hP.sub [0, 1, 2, 3, 4, 5, 6, 7, 8, 9, 10, 11] rfl) (hD.sub [0, 1, 2, 3, 4, 5, 6, 7, 8, 9, 10, 11] (by decide) rfl) hS ls (lv_sub hl [1, 2, 3, 0] rfl)
              · skip
                have c_42 : ¬ 36 ≤ i := fun q => c_42 ((nI_leI (a := 36) (b := i) (by omega) (by omega)).mpr q)
                refine lv_aload_n hx hb dX0_tellHits_20 rfl (lv_at hl 0 rfl) ?_
                refine va_get (D := (dC, dI)) (ci := 2) (v := .ref hO) (C := RX0) (T := TX0) (N := 5) hx hb hts kc_xTellHits_0 hown hK hP 0 rfl rfl 4 (by decide) (hts (.fieldLink RX0 22 "MistHeaps$Chances" "hits" "[[I") kc_xTellHits_1) (fun _ h9 => h9) rfl dX0_tellHits_21 ?_
                refine lv_iload hx hb dX0_tellHits_24 (lv_at hl 3 rfl) ?_
                refine va_alda hx hb hK hP 2 1 rfl rfl (vp_in_nI (n := 2) (N := 8) (by omega) (by omega)) dX0_tellHits_26 ?_
                refine qq_as (v := .ref (rh 2)) (rfl) ?_
                refine lv_iload hx hb dX0_tellHits_27 (lv_at hl 4 rfl) ?_
                refine lv_aload_n hx hb dX0_tellHits_29 rfl (lv_at hl 1 rfl) ?_
                refine va_get (D := (dC, dI)) (ci := 10) (v := .long (lN ee)) (C := RX8) (T := TX8) (N := 14) hx hb hts kc_xTellHits_2 hown hK hP 11 rfl rfl 4 (by decide) (hts (.fieldLink RX0 52 "MistHeaps$Scene" "edges" "J") kc_xTellHits_3) (fun _ h9 => h9) rfl dX0_tellHits_30 ?_
                refine lv_iload hx hb dX0_tellHits_33 (lv_at hl 4 rfl) ?_
                refine vp_callSi (va_runSN (As := [.long (lN ee), .int (nI i)]) (rest := [.int (nI i), .ref (rh 2)]) ⟨hx, hb, hml, hown, hts⟩ (c_isIn l dC dI (lN ee) (nI i)) ⟨va_cnB 2 hts ggX0_tellHits_X11_isIn rfl rfl rfl (hG.1 (.methodLinkNest RX0 44 yX11_isIn "MistHeaps") (by decide +kernel)) (hts (.initialized RX11) kc_xTellHits_4) (by decide +kernel) ⟨Nat.le_of_ble_eq_true rfl, Nat.le_of_ble_eq_true rfl⟩, (hts (.static yX11_isIn) kc_xTellHits_5), trivial⟩ ⟨fun a U g mk q => ⟨q.1, trivial⟩, fun U hU hW => ⟨rfl, trivial⟩⟩ rfl rfl hl.1 rfl (lv_room (Nat.le_of_ble_eq_true rfl)) dX0_tellHits_35 ⟨Nat.le_of_ble_eq_true rfl, Nat.le_of_ble_eq_true rfl⟩).run (fun r_43 hw_44 => ?_)
                rcases hw_44 with ⟨rfl, hd_45⟩ | ⟨rfl, hd_45⟩
                · skip
                  refine lv_if_eq (tgt := 53) hx hb dX0_tellHits_38 (by decide) (fun c_46 => absurd c_46 (by decide)) (fun _ => ?_)
                  refine lv_bipush (v := 20) hx hb dX0_tellHits_41 (by decide) ?_
                  refine lv_lload_n hx hb dX0_tellHits_43 rfl (lv_at hl 2 rfl) ?_
                  refine lv_iload hx hb dX0_tellHits_44 (lv_at hl 4 rfl) ?_
                  refine vp_callSi (va_runS (As := [.long (lN ma), .int (nI i)]) (rest := [.int 20, .int (nI i), .ref (rh 2)]) ⟨hx, hb, hml, hown, hts⟩ (c_hit l dC dI gd ma i hma (by omega)) (va_cwS 2 hts gX0_tellHits_X0_hit rfl rfl rfl hd_yX0_hit.2 ⟨Nat.le_of_ble_eq_true rfl, Nat.le_of_ble_eq_true rfl⟩) ⟨fun a U g mk q => by obtain ⟨q0, qhG⟩ := q; exact ⟨q0, qhG.mv g mk a⟩, fun U hU hW => ⟨rfl, hG.callF hS hU hW⟩⟩ rfl rfl hl.1 rfl (lv_room (Nat.le_of_ble_eq_true rfl)) dX0_tellHits_46 ⟨Nat.le_of_ble_eq_true rfl, Nat.le_of_ble_eq_true rfl⟩).run (fun r_47 hw_48 => ?_)
                  obtain rfl := hw_48
                  have hb2 := hb_2 (ma := ma) (c := i)
                  refine lv_imul hx hb dX0_tellHits_49 ?_
                  refine qi_as (y := nI (20 * (hbN ma i))) (pk_mul 20 (hbN ma i)) ?_
                  refine lv_goto (tgt := 128) hx hb dX0_tellHits_50 (by decide) ?_
                  refine va_iast hx hb hK hP hD hS 5 4 rfl rfl (vp_in_nI (n := i) (N := 36) (by omega) (by omega)) dX0_tellHits_128 (fun H locs hP hD hS => ?_)
                  rw [nI_clamp (n := i) (by omega)] at hP hD
                  have hP : va_P (dC, dI) vwCl [(zo2lirrr ch ft fr dr tO hO), (zaI dr cD 36 fD), (zaR hO cHO 8 (fun i => if i < 8 then some (rh i) else none)), (zaI (rh 0) cH 36 g02), (zaI (rh 1) cH 36 g12), (zaI (rh 2) cH 36 (upd f9 i (nI (20 * (hbN ma i))))), (zaI (rh 3) cH 36 g32), (zaI (rh 4) cH 36 g42), (zaI (rh 5) cH 36 g52), (zaI (rh 6) cH 36 g62), (zaI (rh 7) cH 36 g72), (zo10ririliiriririr sc aTp (nI ts) aHl (nI nh) (lN ee) mi sn aHs (nI n) aWk (nI wz) aBk (nI bz) aFc)] H := hP
                  have hD : va_D A [(zo2lirrr ch ft fr dr tO hO), (zaI dr cD 36 fD), (zaR hO cHO 8 (fun i => if i < 8 then some (rh i) else none)), (zaI (rh 0) cH 36 g02), (zaI (rh 1) cH 36 g12), (zaI (rh 2) cH 36 (upd f9 i (nI (20 * (hbN ma i))))), (zaI (rh 3) cH 36 g32), (zaI (rh 4) cH 36 g42), (zaI (rh 5) cH 36 g52), (zaI (rh 6) cH 36 g62), (zaI (rh 7) cH 36 g72), (zo10ririliiriririr sc aTp (nI ts) aHl (nI nh) (lN ee) mi sn aHs (nI n) aWk (nI wz) aBk (nI bz) aFc)] := hD
                  refine lv_iinc (v := nI (i + 1)) (lv' := [(5, .int (nI (i + 1))), (0, .ref ch), (1, .ref sc), (2, .long (lN ma)), (4, .int 2)]) hx hb dX0_tellHits_129 hl (k := 4) rfl (nI_add i 1) (by decide) rfl (fun ls hl => ?_)
                  refine lv_goto (tgt := 13) hx hb dX0_tellHits_132 (by decide) ?_
                  exact ih13 (i + 1) ((upd f9 i (nI (20 * (hbN ma i))))) (by omega) (by omega) (up_g (g := fun k0 => nI (htN (edB ee) drf ma 2 k0)) hf9 (congrArg nI (ht_e ((in_E hee (by omega)).mp hd_45))).symm) _ _ (hK.sub [0, 1, 2, 3, 4, 5, 6, 7, 8, 9] rfl) (hP.sub [0, 1, 2, 3, 4, 5, 6, 7, 8, 9, 10, 11] rfl) (hD.sub [0, 1, 2, 3, 4, 5, 6, 7, 8, 9, 10, 11] (by decide) rfl) hS ls (lv_sub hl [1, 2, 3, 4, 0] rfl)
                · skip
                  refine lv_if_eq (tgt := 53) hx hb dX0_tellHits_38 (by decide) (fun _ => ?_) (fun c_49 => absurd c_49 (by decide))
                  have hd5 := (hdr i (by omega)).2
                  refine lv_bipush (v := 20) hx hb dX0_tellHits_53 (by decide) ?_
                  refine lv_iconst (v := 2) hx hb dX0_tellHits_55 (by decide) ?_
                  refine lv_aload_n hx hb dX0_tellHits_56 rfl (lv_at hl 0 rfl) ?_
                  refine va_get (D := (dC, dI)) (ci := 2) (v := .ref dr) (C := RX0) (T := TX0) (N := 5) hx hb hts kc_xTellHits_0 hown hK hP 0 rfl rfl 2 (by decide) (hts (.fieldLink RX0 9 "MistHeaps$Chances" "drifts" "[I") kc_xTellHits_6) (fun _ h9 => h9) rfl dX0_tellHits_57 ?_
                  refine lv_iload hx hb dX0_tellHits_60 (lv_at hl 4 rfl) ?_
                  refine va_iald hx hb hK hP 1 0 rfl rfl (vp_in_nI (n := i) (N := 36) (by omega) (by omega)) dX0_tellHits_62 ?_
                  refine qi_as (y := nI (drf i)) ((show fD (nI i : Int32).toNatClampNeg = fD i from by rw [nI_clamp (by omega)]).trans ((hdr i (by omega)).1)) ?_
                  refine lv_imul hx hb dX0_tellHits_63 ?_
                  refine qi_as (y := nI (2 * (drf i))) (pk_mul 2 (drf i)) ?_
                  refine lv_isub hx hb dX0_tellHits_64 ?_
                  refine qi_as (y := nI (20 - (2 * (drf i)))) (pk_sub (a := 20) (b := 2 * (drf i)) (by omega)) ?_
                  refine lv_lload_n hx hb dX0_tellHits_65 rfl (lv_at hl 2 rfl) ?_
                  refine lv_iload hx hb dX0_tellHits_66 (lv_at hl 4 rfl) ?_
                  refine lv_iload hx hb dX0_tellHits_68 (lv_at hl 3 rfl) ?_
                  have hnx := nx_lt i (by omega) 2 (by omega)
                  refine vp_callSi (va_runSN (As := [.int (nI i), .int 2]) (rest := [.long (lN ma), .int (nI (20 - (2 * (drf i)))), .int (nI i), .ref (rh 2)]) ⟨hx, hb, hml, hown, hts⟩ (c_beside l dC dI gd i 2 (by omega) (by omega)) ⟨va_cnB 2 hts ggX0_tellHits_X11_besideOrSame rfl rfl rfl (hG.1 (.methodLinkNest RX0 56 yX11_besideOrSame "MistHeaps") (by decide +kernel)) (hts (.initialized RX11) kc_xTellHits_4) (by decide +kernel) ⟨Nat.le_of_ble_eq_true rfl, Nat.le_of_ble_eq_true rfl⟩, (hts (.static yX11_besideOrSame) kc_xTellHits_7), trivial⟩ ⟨fun a U g mk q => by obtain ⟨q0, qhG⟩ := q; exact ⟨q0, qhG.mv g mk a⟩, fun U hU hW => ⟨rfl, hG.callF hS hU hW⟩⟩ rfl rfl hl.1 rfl (lv_room (Nat.le_of_ble_eq_true rfl)) dX0_tellHits_70 ⟨Nat.le_of_ble_eq_true rfl, Nat.le_of_ble_eq_true rfl⟩).run (fun r_50 hw_51 => ?_)
                  obtain rfl := hw_51
                  refine vp_callSi (va_runS (As := [.long (lN ma), .int (nI (nxN i 2))]) (rest := [.int (nI (20 - (2 * (drf i)))), .int (nI i), .ref (rh 2)]) ⟨hx, hb, hml, hown, hts⟩ (c_hit l dC dI gd ma (nxN i 2) hma (by omega)) (va_cwS 2 hts gX0_tellHits_X0_hit rfl rfl rfl hd_yX0_hit.2 ⟨Nat.le_of_ble_eq_true rfl, Nat.le_of_ble_eq_true rfl⟩) ⟨fun a U g mk q => by obtain ⟨q0, qhG⟩ := q; exact ⟨q0, qhG.mv g mk a⟩, fun U hU hW => ⟨rfl, hG.callF hS hU hW⟩⟩ rfl rfl hl.1 rfl (lv_room (Nat.le_of_ble_eq_true rfl)) dX0_tellHits_73 ⟨Nat.le_of_ble_eq_true rfl, Nat.le_of_ble_eq_true rfl⟩).run (fun r_52 hw_53 => ?_)
                  obtain rfl := hw_53
                  have hb2 := hb_2 (ma := ma) (c := (nxN i 2))
                  refine lv_imul hx hb dX0_tellHits_76 ?_
                  refine qi_as (y := nI ((20 - (2 * (drf i))) * (hbN ma (nxN i 2)))) (pk_mul (20 - (2 * (drf i))) (hbN ma (nxN i 2))) ?_
                  refine lv_aload_n hx hb dX0_tellHits_77 rfl (lv_at hl 0 rfl) ?_
                  refine va_get (D := (dC, dI)) (ci := 2) (v := .ref dr) (C := RX0) (T := TX0) (N := 5) hx hb hts kc_xTellHits_0 hown hK hP 0 rfl rfl 2 (by decide) (hts (.fieldLink RX0 9 "MistHeaps$Chances" "drifts" "[I") kc_xTellHits_6) (fun _ h9 => h9) rfl dX0_tellHits_78 ?_
                  refine lv_iload hx hb dX0_tellHits_81 (lv_at hl 4 rfl) ?_
                  refine va_iald hx hb hK hP 1 0 rfl rfl (vp_in_nI (n := i) (N := 36) (by omega) (by omega)) dX0_tellHits_83 ?_
                  refine qi_as (y := nI (drf i)) ((show fD (nI i : Int32).toNatClampNeg = fD i from by rw [nI_clamp (by omega)]).trans ((hdr i (by omega)).1)) ?_
                  refine lv_lload_n hx hb dX0_tellHits_84 rfl (lv_at hl 2 rfl) ?_
                  refine lv_iload hx hb dX0_tellHits_85 (lv_at hl 4 rfl) ?_
                  refine lv_iload hx hb dX0_tellHits_87 (lv_at hl 3 rfl) ?_
                  refine lv_bipush (v := 7) hx hb dX0_tellHits_89 (by decide) ?_
                  refine lv_iadd hx hb dX0_tellHits_91 ?_
                  refine qi_as (y := 9) (by decide) ?_
                  refine lv_bipush (v := 7) hx hb dX0_tellHits_92 (by decide) ?_
                  refine lv_iand hx hb dX0_tellHits_94 ?_
                  refine qi_as (y := 1) (by decide) ?_
                  have hnx := nx_lt i (by omega) 1 (by omega)
                  refine vp_callSi (va_runSN (As := [.int (nI i), .int 1]) (rest := [.long (lN ma), .int (nI (drf i)), .int (nI ((20 - (2 * (drf i))) * (hbN ma (nxN i 2)))), .int (nI i), .ref (rh 2)]) ⟨hx, hb, hml, hown, hts⟩ (c_beside l dC dI gd i 1 (by omega) (by omega)) ⟨va_cnB 2 hts ggX0_tellHits_X11_besideOrSame rfl rfl rfl (hG.1 (.methodLinkNest RX0 56 yX11_besideOrSame "MistHeaps") (by decide +kernel)) (hts (.initialized RX11) kc_xTellHits_4) (by decide +kernel) ⟨Nat.le_of_ble_eq_true rfl, Nat.le_of_ble_eq_true rfl⟩, (hts (.static yX11_besideOrSame) kc_xTellHits_7), trivial⟩ ⟨fun a U g mk q => by obtain ⟨q0, qhG⟩ := q; exact ⟨q0, qhG.mv g mk a⟩, fun U hU hW => ⟨rfl, hG.callF hS hU hW⟩⟩ rfl rfl hl.1 rfl (lv_room (Nat.le_of_ble_eq_true rfl)) dX0_tellHits_95 ⟨Nat.le_of_ble_eq_true rfl, Nat.le_of_ble_eq_true rfl⟩).run (fun r_54 hw_55 => ?_)
                  obtain rfl := hw_55
                  refine vp_callSi (va_runS (As := [.long (lN ma), .int (nI (nxN i 1))]) (rest := [.int (nI (drf i)), .int (nI ((20 - (2 * (drf i))) * (hbN ma (nxN i 2)))), .int (nI i), .ref (rh 2)]) ⟨hx, hb, hml, hown, hts⟩ (c_hit l dC dI gd ma (nxN i 1) hma (by omega)) (va_cwS 2 hts gX0_tellHits_X0_hit rfl rfl rfl hd_yX0_hit.2 ⟨Nat.le_of_ble_eq_true rfl, Nat.le_of_ble_eq_true rfl⟩) ⟨fun a U g mk q => by obtain ⟨q0, qhG⟩ := q; exact ⟨q0, qhG.mv g mk a⟩, fun U hU hW => ⟨rfl, hG.callF hS hU hW⟩⟩ rfl rfl hl.1 rfl (lv_room (Nat.le_of_ble_eq_true rfl)) dX0_tellHits_98 ⟨Nat.le_of_ble_eq_true rfl, Nat.le_of_ble_eq_true rfl⟩).run (fun r_56 hw_57 => ?_)
                  obtain rfl := hw_57
                  have hb2 := hb_2 (ma := ma) (c := (nxN i 1))
                  refine lv_imul hx hb dX0_tellHits_101 ?_
                  refine qi_as (y := nI ((drf i) * (hbN ma (nxN i 1)))) (pk_mul (drf i) (hbN ma (nxN i 1))) ?_
                  refine lv_iadd hx hb dX0_tellHits_102 ?_
                  refine qi_as (y := nI (((20 - (2 * (drf i))) * (hbN ma (nxN i 2))) + ((drf i) * (hbN ma (nxN i 1))))) (nI_add ((20 - (2 * (drf i))) * (hbN ma (nxN i 2))) ((drf i) * (hbN ma (nxN i 1)))) ?_
                  refine lv_aload_n hx hb dX0_tellHits_103 rfl (lv_at hl 0 rfl) ?_
                  refine va_get (D := (dC, dI)) (ci := 2) (v := .ref dr) (C := RX0) (T := TX0) (N := 5) hx hb hts kc_xTellHits_0 hown hK hP 0 rfl rfl 2 (by decide) (hts (.fieldLink RX0 9 "MistHeaps$Chances" "drifts" "[I") kc_xTellHits_6) (fun _ h9 => h9) rfl dX0_tellHits_104 ?_
                  refine lv_iload hx hb dX0_tellHits_107 (lv_at hl 4 rfl) ?_
                  refine va_iald hx hb hK hP 1 0 rfl rfl (vp_in_nI (n := i) (N := 36) (by omega) (by omega)) dX0_tellHits_109 ?_
                  refine qi_as (y := nI (drf i)) ((show fD (nI i : Int32).toNatClampNeg = fD i from by rw [nI_clamp (by omega)]).trans ((hdr i (by omega)).1)) ?_
                  refine lv_lload_n hx hb dX0_tellHits_110 rfl (lv_at hl 2 rfl) ?_
                  refine lv_iload hx hb dX0_tellHits_111 (lv_at hl 4 rfl) ?_
                  refine lv_iload hx hb dX0_tellHits_113 (lv_at hl 3 rfl) ?_
                  refine lv_iconst (v := 1) hx hb dX0_tellHits_115 (by decide) ?_
                  refine lv_iadd hx hb dX0_tellHits_116 ?_
                  refine qi_as (y := 3) (by decide) ?_
                  refine lv_bipush (v := 7) hx hb dX0_tellHits_117 (by decide) ?_
                  refine lv_iand hx hb dX0_tellHits_119 ?_
                  refine qi_as (y := 3) (by decide) ?_
                  have hnx := nx_lt i (by omega) 3 (by omega)
                  refine vp_callSi (va_runSN (As := [.int (nI i), .int 3]) (rest := [.long (lN ma), .int (nI (drf i)), .int (nI (((20 - (2 * (drf i))) * (hbN ma (nxN i 2))) + ((drf i) * (hbN ma (nxN i 1))))), .int (nI i), .ref (rh 2)]) ⟨hx, hb, hml, hown, hts⟩ (c_beside l dC dI gd i 3 (by omega) (by omega)) ⟨va_cnB 2 hts ggX0_tellHits_X11_besideOrSame rfl rfl rfl (hG.1 (.methodLinkNest RX0 56 yX11_besideOrSame "MistHeaps") (by decide +kernel)) (hts (.initialized RX11) kc_xTellHits_4) (by decide +kernel) ⟨Nat.le_of_ble_eq_true rfl, Nat.le_of_ble_eq_true rfl⟩, (hts (.static yX11_besideOrSame) kc_xTellHits_7), trivial⟩ ⟨fun a U g mk q => by obtain ⟨q0, qhG⟩ := q; exact ⟨q0, qhG.mv g mk a⟩, fun U hU hW => ⟨rfl, hG.callF hS hU hW⟩⟩ rfl rfl hl.1 rfl (lv_room (Nat.le_of_ble_eq_true rfl)) dX0_tellHits_120 ⟨Nat.le_of_ble_eq_true rfl, Nat.le_of_ble_eq_true rfl⟩).run (fun r_58 hw_59 => ?_)
                  obtain rfl := hw_59
                  refine vp_callSi (va_runS (As := [.long (lN ma), .int (nI (nxN i 3))]) (rest := [.int (nI (drf i)), .int (nI (((20 - (2 * (drf i))) * (hbN ma (nxN i 2))) + ((drf i) * (hbN ma (nxN i 1))))), .int (nI i), .ref (rh 2)]) ⟨hx, hb, hml, hown, hts⟩ (c_hit l dC dI gd ma (nxN i 3) hma (by omega)) (va_cwS 2 hts gX0_tellHits_X0_hit rfl rfl rfl hd_yX0_hit.2 ⟨Nat.le_of_ble_eq_true rfl, Nat.le_of_ble_eq_true rfl⟩) ⟨fun a U g mk q => by obtain ⟨q0, qhG⟩ := q; exact ⟨q0, qhG.mv g mk a⟩, fun U hU hW => ⟨rfl, hG.callF hS hU hW⟩⟩ rfl rfl hl.1 rfl (lv_room (Nat.le_of_ble_eq_true rfl)) dX0_tellHits_123 ⟨Nat.le_of_ble_eq_true rfl, Nat.le_of_ble_eq_true rfl⟩).run (fun r_60 hw_61 => ?_)
                  obtain rfl := hw_61
                  have hb2 := hb_2 (ma := ma) (c := (nxN i 3))
                  refine lv_imul hx hb dX0_tellHits_126 ?_
                  refine qi_as (y := nI ((drf i) * (hbN ma (nxN i 3)))) (pk_mul (drf i) (hbN ma (nxN i 3))) ?_
                  refine lv_iadd hx hb dX0_tellHits_127 ?_
                  refine qi_as (y := nI ((((20 - (2 * (drf i))) * (hbN ma (nxN i 2))) + ((drf i) * (hbN ma (nxN i 1)))) + ((drf i) * (hbN ma (nxN i 3))))) (nI_add (((20 - (2 * (drf i))) * (hbN ma (nxN i 2))) + ((drf i) * (hbN ma (nxN i 1)))) ((drf i) * (hbN ma (nxN i 3)))) ?_
                  refine va_iast hx hb hK hP hD hS 5 4 rfl rfl (vp_in_nI (n := i) (N := 36) (by omega) (by omega)) dX0_tellHits_128 (fun H locs hP hD hS => ?_)
                  rw [nI_clamp (n := i) (by omega)] at hP hD
                  have hP : va_P (dC, dI) vwCl [(zo2lirrr ch ft fr dr tO hO), (zaI dr cD 36 fD), (zaR hO cHO 8 (fun i => if i < 8 then some (rh i) else none)), (zaI (rh 0) cH 36 g02), (zaI (rh 1) cH 36 g12), (zaI (rh 2) cH 36 (upd f9 i (nI ((((20 - (2 * (drf i))) * (hbN ma (nxN i 2))) + ((drf i) * (hbN ma (nxN i 1)))) + ((drf i) * (hbN ma (nxN i 3))))))), (zaI (rh 3) cH 36 g32), (zaI (rh 4) cH 36 g42), (zaI (rh 5) cH 36 g52), (zaI (rh 6) cH 36 g62), (zaI (rh 7) cH 36 g72), (zo10ririliiriririr sc aTp (nI ts) aHl (nI nh) (lN ee) mi sn aHs (nI n) aWk (nI wz) aBk (nI bz) aFc)] H := hP
                  have hD : va_D A [(zo2lirrr ch ft fr dr tO hO), (zaI dr cD 36 fD), (zaR hO cHO 8 (fun i => if i < 8 then some (rh i) else none)), (zaI (rh 0) cH 36 g02), (zaI (rh 1) cH 36 g12), (zaI (rh 2) cH 36 (upd f9 i (nI ((((20 - (2 * (drf i))) * (hbN ma (nxN i 2))) + ((drf i) * (hbN ma (nxN i 1)))) + ((drf i) * (hbN ma (nxN i 3))))))), (zaI (rh 3) cH 36 g32), (zaI (rh 4) cH 36 g42), (zaI (rh 5) cH 36 g52), (zaI (rh 6) cH 36 g62), (zaI (rh 7) cH 36 g72), (zo10ririliiriririr sc aTp (nI ts) aHl (nI nh) (lN ee) mi sn aHs (nI n) aWk (nI wz) aBk (nI bz) aFc)] := hD
                  refine lv_iinc (v := nI (i + 1)) (lv' := [(5, .int (nI (i + 1))), (0, .ref ch), (1, .ref sc), (2, .long (lN ma)), (4, .int 2)]) hx hb dX0_tellHits_129 hl (k := 4) rfl (nI_add i 1) (by decide) rfl (fun ls hl => ?_)
                  refine lv_goto (tgt := 13) hx hb dX0_tellHits_132 (by decide) ?_
                  exact ih13 (i + 1) ((upd f9 i (nI ((((20 - (2 * (drf i))) * (hbN ma (nxN i 2))) + ((drf i) * (hbN ma (nxN i 1)))) + ((drf i) * (hbN ma (nxN i 3))))))) (by omega) (by omega) (up_g (g := fun k0 => nI (htN (edB ee) drf ma 2 k0)) hf9 (congrArg nI (ht_n (fun z9 => hd_45 ((in_E hee (by omega)).mpr z9)))).symm) _ _ (hK.sub [0, 1, 2, 3, 4, 5, 6, 7, 8, 9] rfl) (hP.sub [0, 1, 2, 3, 4, 5, 6, 7, 8, 9, 10, 11] rfl) (hD.sub [0, 1, 2, 3, 4, 5, 6, 7, 8, 9, 10, 11] (by decide) rfl) hS ls (lv_sub hl [1, 2, 3, 4, 0] rfl)
          exact L13 _ (0) (g22) (Nat.lt_succ_self _) (by omega) (fun k0 h0 => absurd h0 (Nat.not_lt_zero k0)) _ _ (hK.sub [0, 1, 2, 3, 4, 5, 6, 7, 8, 9] rfl) (hP.sub [0, 1, 2, 3, 4, 5, 6, 7, 8, 9, 10, 11] rfl) (hD.sub [0, 1, 2, 3, 4, 5, 6, 7, 8, 9, 10, 11] (by decide) rfl) hS ls (lv_sub hl [1, 2, 3, 4, 0] rfl)
        · skip
          refine lv_iconst (v := 0) hx hb dX0_tellHits_10 (by decide) ?_
          refine lv_istore (lv' := [(5, .int 0), (0, .ref ch), (1, .ref sc), (2, .long (lN ma)), (4, .int 3)]) hx hb dX0_tellHits_11 hl (by decide) rfl (fun ls hl => ?_)
          have L13 : ∀ (nF : Nat) (i : Nat) (f9 : Nat → Int32), 36 - i < nF → (i ≤ 36) → (∀ k0, k0 < i → f9 k0 = nI (htN (edB ee) drf ma 3 k0)) → ∀ (H : Heap) (locs : List Loc), va_K (dC, dI) vwCl [(cD, .int), (cHO, .array .int), (cH, .int), (cH, .int), (cH, .int), (cH, .int), (cH, .int), (cH, .int), (cH, .int), (cH, .int)] s → va_P (dC, dI) vwCl [(zo2lirrr ch ft fr dr tO hO), (zaI dr cD 36 fD), (zaR hO cHO 8 (fun i => if i < 8 then some (rh i) else none)), (zaI (rh 0) cH 36 g02), (zaI (rh 1) cH 36 g12), (zaI (rh 2) cH 36 g22), (zaI (rh 3) cH 36 f9), (zaI (rh 4) cH 36 g42), (zaI (rh 5) cH 36 g52), (zaI (rh 6) cH 36 g62), (zaI (rh 7) cH 36 g72), (zo10ririliiriririr sc aTp (nI ts) aHl (nI nh) (lN ee) mi sn aHs (nI n) aWk (nI wz) aBk (nI bz) aFc)] H → va_D A [(zo2lirrr ch ft fr dr tO hO), (zaI dr cD 36 fD), (zaR hO cHO 8 (fun i => if i < 8 then some (rh i) else none)), (zaI (rh 0) cH 36 g02), (zaI (rh 1) cH 36 g12), (zaI (rh 2) cH 36 g22), (zaI (rh 3) cH 36 f9), (zaI (rh 4) cH 36 g42), (zaI (rh 5) cH 36 g52), (zaI (rh 6) cH 36 g62), (zaI (rh 7) cH 36 g72), (zo10ririliiriririr sc aTp (nI ts) aHl (nI nh) (lN ee) mi sn aHs (nI n) aWk (nI wz) aBk (nI bz) aFc)] → va_S A s.heap H locs → ∀ (ls : Array Slot), lv_has ls 6 [(0, .ref ch), (1, .ref sc), (2, .long (lN ma)), (4, .int 3), (5, .int (nI i))] → W p l e ({ frames := 2, cells := 0, slots := 0, locals := 44 } : Room) s m args below meth c H locs 0 0 Q (F0 m 13 ls []) := by
            intro nF
            induction nF with
            | zero => intro i f9 hm; exact absurd hm (Nat.not_lt_zero _)
            | succ nF ih13 =>
              intro i f9 hm hi hf9 H locs hK hP hD hS ls hl
              refine lv_iload hx hb dX0_tellHits_13 (lv_at hl 4 rfl) ?_
              refine lv_bipush (v := 36) hx hb dX0_tellHits_15 (by decide) ?_
              refine lv_icmp_ge (tgt := 135) hx hb dX0_tellHits_17 (by decide) (fun c_62 => ?_) (fun c_62 => ?_)
              · skip
                have c_62 : 36 ≤ i := (nI_leI (a := 36) (b := i) (by omega) (by omega)).mp c_62
                refine lv_iinc (v := 4) (lv' := [(4, .int 4), (0, .ref ch), (1, .ref sc), (2, .long (lN ma)), (5, .int (nI i))]) hx hb dX0_tellHits_135 hl (k := 3) rfl (by decide) (by decide) rfl (fun ls hl => ?_)
                refine lv_goto (tgt := 3) hx hb dX0_tellHits_138 (by decide) ?_
                exact ih3 (4) (g02) (g12) (g22) (f9) (g42) (g52) (g62) (g72) (by omega) (by omega) (fun _ => hh0 (by omega)) (fun _ => hh1 (by omega)) (fun _ => hh2 (by omega)) (fun _ k0 h0 => hf9 k0 (by omega)) (fun z9 => absurd z9 (by omega)) (fun z9 => absurd z9 (by omega)) (fun z9 => absurd z9 (by omega)) (fun z9 => absurd z9 (by omega)) _ _ (hK.sub [0, 1, 2, 3, 4, 5, 6, 7, 8, 9] rfl) (hP.sub [0, 1, 2, 3, 4, 5, 6, 7, 8, 9, 10, 11] rfl) (hD.sub [0, 1, 2, 3, 4, 5, 6, 7, 8, 9, 10, 11] (by decide) rfl) hS ls (lv_sub hl [1, 2, 3, 0] rfl)
              · skip
                have c_62 : ¬ 36 ≤ i := fun q => c_62 ((nI_leI (a := 36) (b := i) (by omega) (by omega)).mpr q)
                refine lv_aload_n hx hb dX0_tellHits_20 rfl (lv_at hl 0 rfl) ?_
                refine va_get (D := (dC, dI)) (ci := 2) (v := .ref hO) (C := RX0) (T := TX0) (N := 5) hx hb hts kc_xTellHits_0 hown hK hP 0 rfl rfl 4 (by decide) (hts (.fieldLink RX0 22 "MistHeaps$Chances" "hits" "[[I") kc_xTellHits_1) (fun _ h9 => h9) rfl dX0_tellHits_21 ?_
                refine lv_iload hx hb dX0_tellHits_24 (lv_at hl 3 rfl) ?_
                refine va_alda hx hb hK hP 2 1 rfl rfl (vp_in_nI (n := 3) (N := 8) (by omega) (by omega)) dX0_tellHits_26 ?_
                refine qq_as (v := .ref (rh 3)) (rfl) ?_
                refine lv_iload hx hb dX0_tellHits_27 (lv_at hl 4 rfl) ?_
                refine lv_aload_n hx hb dX0_tellHits_29 rfl (lv_at hl 1 rfl) ?_
                refine va_get (D := (dC, dI)) (ci := 10) (v := .long (lN ee)) (C := RX8) (T := TX8) (N := 14) hx hb hts kc_xTellHits_2 hown hK hP 11 rfl rfl 4 (by decide) (hts (.fieldLink RX0 52 "MistHeaps$Scene" "edges" "J") kc_xTellHits_3) (fun _ h9 => h9) rfl dX0_tellHits_30 ?_
                refine lv_iload hx hb dX0_tellHits_33 (lv_at hl 4 rfl) ?_
                refine vp_callSi (va_runSN (As := [.long (lN ee), .int (nI i)]) (rest := [.int (nI i), .ref (rh 3)]) ⟨hx, hb, hml, hown, hts⟩ (c_isIn l dC dI (lN ee) (nI i)) ⟨va_cnB 2 hts ggX0_tellHits_X11_isIn rfl rfl rfl (hG.1 (.methodLinkNest RX0 44 yX11_isIn "MistHeaps") (by decide +kernel)) (hts (.initialized RX11) kc_xTellHits_4) (by decide +kernel) ⟨Nat.le_of_ble_eq_true rfl, Nat.le_of_ble_eq_true rfl⟩, (hts (.static yX11_isIn) kc_xTellHits_5), trivial⟩ ⟨fun a U g mk q => ⟨q.1, trivial⟩, fun U hU hW => ⟨rfl, trivial⟩⟩ rfl rfl hl.1 rfl (lv_room (Nat.le_of_ble_eq_true rfl)) dX0_tellHits_35 ⟨Nat.le_of_ble_eq_true rfl, Nat.le_of_ble_eq_true rfl⟩).run (fun r_63 hw_64 => ?_)
                rcases hw_64 with ⟨rfl, hd_65⟩ | ⟨rfl, hd_65⟩
                · skip
                  refine lv_if_eq (tgt := 53) hx hb dX0_tellHits_38 (by decide) (fun c_66 => absurd c_66 (by decide)) (fun _ => ?_)
                  refine lv_bipush (v := 20) hx hb dX0_tellHits_41 (by decide) ?_
                  refine lv_lload_n hx hb dX0_tellHits_43 rfl (lv_at hl 2 rfl) ?_
                  refine lv_iload hx hb dX0_tellHits_44 (lv_at hl 4 rfl) ?_
                  refine vp_callSi (va_runS (As := [.long (lN ma), .int (nI i)]) (rest := [.int 20, .int (nI i), .ref (rh 3)]) ⟨hx, hb, hml, hown, hts⟩ (c_hit l dC dI gd ma i hma (by omega)) (va_cwS 2 hts gX0_tellHits_X0_hit rfl rfl rfl hd_yX0_hit.2 ⟨Nat.le_of_ble_eq_true rfl, Nat.le_of_ble_eq_true rfl⟩) ⟨fun a U g mk q => by obtain ⟨q0, qhG⟩ := q; exact ⟨q0, qhG.mv g mk a⟩, fun U hU hW => ⟨rfl, hG.callF hS hU hW⟩⟩ rfl rfl hl.1 rfl (lv_room (Nat.le_of_ble_eq_true rfl)) dX0_tellHits_46 ⟨Nat.le_of_ble_eq_true rfl, Nat.le_of_ble_eq_true rfl⟩).run (fun r_67 hw_68 => ?_)
                  obtain rfl := hw_68
                  have hb2 := hb_2 (ma := ma) (c := i)
                  refine lv_imul hx hb dX0_tellHits_49 ?_
                  refine qi_as (y := nI (20 * (hbN ma i))) (pk_mul 20 (hbN ma i)) ?_
                  refine lv_goto (tgt := 128) hx hb dX0_tellHits_50 (by decide) ?_
                  refine va_iast hx hb hK hP hD hS 6 5 rfl rfl (vp_in_nI (n := i) (N := 36) (by omega) (by omega)) dX0_tellHits_128 (fun H locs hP hD hS => ?_)
                  rw [nI_clamp (n := i) (by omega)] at hP hD
                  have hP : va_P (dC, dI) vwCl [(zo2lirrr ch ft fr dr tO hO), (zaI dr cD 36 fD), (zaR hO cHO 8 (fun i => if i < 8 then some (rh i) else none)), (zaI (rh 0) cH 36 g02), (zaI (rh 1) cH 36 g12), (zaI (rh 2) cH 36 g22), (zaI (rh 3) cH 36 (upd f9 i (nI (20 * (hbN ma i))))), (zaI (rh 4) cH 36 g42), (zaI (rh 5) cH 36 g52), (zaI (rh 6) cH 36 g62), (zaI (rh 7) cH 36 g72), (zo10ririliiriririr sc aTp (nI ts) aHl (nI nh) (lN ee) mi sn aHs (nI n) aWk (nI wz) aBk (nI bz) aFc)] H := hP
                  have hD : va_D A [(zo2lirrr ch ft fr dr tO hO), (zaI dr cD 36 fD), (zaR hO cHO 8 (fun i => if i < 8 then some (rh i) else none)), (zaI (rh 0) cH 36 g02), (zaI (rh 1) cH 36 g12), (zaI (rh 2) cH 36 g22), (zaI (rh 3) cH 36 (upd f9 i (nI (20 * (hbN ma i))))), (zaI (rh 4) cH 36 g42), (zaI (rh 5) cH 36 g52), (zaI (rh 6) cH 36 g62), (zaI (rh 7) cH 36 g72), (zo10ririliiriririr sc aTp (nI ts) aHl (nI nh) (lN ee) mi sn aHs (nI n) aWk (nI wz) aBk (nI bz) aFc)] := hD
                  refine lv_iinc (v := nI (i + 1)) (lv' := [(5, .int (nI (i + 1))), (0, .ref ch), (1, .ref sc), (2, .long (lN ma)), (4, .int 3)]) hx hb dX0_tellHits_129 hl (k := 4) rfl (nI_add i 1) (by decide) rfl (fun ls hl => ?_)
                  refine lv_goto (tgt := 13) hx hb dX0_tellHits_132 (by decide) ?_
                  exact ih13 (i + 1) ((upd f9 i (nI (20 * (hbN ma i))))) (by omega) (by omega) (up_g (g := fun k0 => nI (htN (edB ee) drf ma 3 k0)) hf9 (congrArg nI (ht_e ((in_E hee (by omega)).mp hd_65))).symm) _ _ (hK.sub [0, 1, 2, 3, 4, 5, 6, 7, 8, 9] rfl) (hP.sub [0, 1, 2, 3, 4, 5, 6, 7, 8, 9, 10, 11] rfl) (hD.sub [0, 1, 2, 3, 4, 5, 6, 7, 8, 9, 10, 11] (by decide) rfl) hS ls (lv_sub hl [1, 2, 3, 4, 0] rfl)
                · skip
                  refine lv_if_eq (tgt := 53) hx hb dX0_tellHits_38 (by decide) (fun _ => ?_) (fun c_69 => absurd c_69 (by decide))
                  have hd5 := (hdr i (by omega)).2
                  refine lv_bipush (v := 20) hx hb dX0_tellHits_53 (by decide) ?_
                  refine lv_iconst (v := 2) hx hb dX0_tellHits_55 (by decide) ?_
                  refine lv_aload_n hx hb dX0_tellHits_56 rfl (lv_at hl 0 rfl) ?_
                  refine va_get (D := (dC, dI)) (ci := 2) (v := .ref dr) (C := RX0) (T := TX0) (N := 5) hx hb hts kc_xTellHits_0 hown hK hP 0 rfl rfl 2 (by decide) (hts (.fieldLink RX0 9 "MistHeaps$Chances" "drifts" "[I") kc_xTellHits_6) (fun _ h9 => h9) rfl dX0_tellHits_57 ?_
                  refine lv_iload hx hb dX0_tellHits_60 (lv_at hl 4 rfl) ?_
                  refine va_iald hx hb hK hP 1 0 rfl rfl (vp_in_nI (n := i) (N := 36) (by omega) (by omega)) dX0_tellHits_62 ?_
                  refine qi_as (y := nI (drf i)) ((show fD (nI i : Int32).toNatClampNeg = fD i from by rw [nI_clamp (by omega)]).trans ((hdr i (by omega)).1)) ?_
                  refine lv_imul hx hb dX0_tellHits_63 ?_
                  refine qi_as (y := nI (2 * (drf i))) (pk_mul 2 (drf i)) ?_
                  refine lv_isub hx hb dX0_tellHits_64 ?_
                  refine qi_as (y := nI (20 - (2 * (drf i)))) (pk_sub (a := 20) (b := 2 * (drf i)) (by omega)) ?_
                  refine lv_lload_n hx hb dX0_tellHits_65 rfl (lv_at hl 2 rfl) ?_
                  refine lv_iload hx hb dX0_tellHits_66 (lv_at hl 4 rfl) ?_
                  refine lv_iload hx hb dX0_tellHits_68 (lv_at hl 3 rfl) ?_
                  have hnx := nx_lt i (by omega) 3 (by omega)
                  refine vp_callSi (va_runSN (As := [.int (nI i), .int 3]) (rest := [.long (lN ma), .int (nI (20 - (2 * (drf i)))), .int (nI i), .ref (rh 3)]) ⟨hx, hb, hml, hown, hts⟩ (c_beside l dC dI gd i 3 (by omega) (by omega)) ⟨va_cnB 2 hts ggX0_tellHits_X11_besideOrSame rfl rfl rfl (hG.1 (.methodLinkNest RX0 56 yX11_besideOrSame "MistHeaps") (by decide +kernel)) (hts (.initialized RX11) kc_xTellHits_4) (by decide +kernel) ⟨Nat.le_of_ble_eq_true rfl, Nat.le_of_ble_eq_true rfl⟩, (hts (.static yX11_besideOrSame) kc_xTellHits_7), trivial⟩ ⟨fun a U g mk q => by obtain ⟨q0, qhG⟩ := q; exact ⟨q0, qhG.mv g mk a⟩, fun U hU hW => ⟨rfl, hG.callF hS hU hW⟩⟩ rfl rfl hl.1 rfl (lv_room (Nat.le_of_ble_eq_true rfl)) dX0_tellHits_70 ⟨Nat.le_of_ble_eq_true rfl, Nat.le_of_ble_eq_true rfl⟩).run (fun r_70 hw_71 => ?_)
                  obtain rfl := hw_71
                  refine vp_callSi (va_runS (As := [.long (lN ma), .int (nI (nxN i 3))]) (rest := [.int (nI (20 - (2 * (drf i)))), .int (nI i), .ref (rh 3)]) ⟨hx, hb, hml, hown, hts⟩ (c_hit l dC dI gd ma (nxN i 3) hma (by omega)) (va_cwS 2 hts gX0_tellHits_X0_hit rfl rfl rfl hd_yX0_hit.2 ⟨Nat.le_of_ble_eq_true rfl, Nat.le_of_ble_eq_true rfl⟩) ⟨fun a U g mk q => by obtain ⟨q0, qhG⟩ := q; exact ⟨q0, qhG.mv g mk a⟩, fun U hU hW => ⟨rfl, hG.callF hS hU hW⟩⟩ rfl rfl hl.1 rfl (lv_room (Nat.le_of_ble_eq_true rfl)) dX0_tellHits_73 ⟨Nat.le_of_ble_eq_true rfl, Nat.le_of_ble_eq_true rfl⟩).run (fun r_72 hw_73 => ?_)
                  obtain rfl := hw_73
                  have hb2 := hb_2 (ma := ma) (c := (nxN i 3))
                  refine lv_imul hx hb dX0_tellHits_76 ?_
                  refine qi_as (y := nI ((20 - (2 * (drf i))) * (hbN ma (nxN i 3)))) (pk_mul (20 - (2 * (drf i))) (hbN ma (nxN i 3))) ?_
                  refine lv_aload_n hx hb dX0_tellHits_77 rfl (lv_at hl 0 rfl) ?_
                  refine va_get (D := (dC, dI)) (ci := 2) (v := .ref dr) (C := RX0) (T := TX0) (N := 5) hx hb hts kc_xTellHits_0 hown hK hP 0 rfl rfl 2 (by decide) (hts (.fieldLink RX0 9 "MistHeaps$Chances" "drifts" "[I") kc_xTellHits_6) (fun _ h9 => h9) rfl dX0_tellHits_78 ?_
                  refine lv_iload hx hb dX0_tellHits_81 (lv_at hl 4 rfl) ?_
                  refine va_iald hx hb hK hP 1 0 rfl rfl (vp_in_nI (n := i) (N := 36) (by omega) (by omega)) dX0_tellHits_83 ?_
                  refine qi_as (y := nI (drf i)) ((show fD (nI i : Int32).toNatClampNeg = fD i from by rw [nI_clamp (by omega)]).trans ((hdr i (by omega)).1)) ?_
                  refine lv_lload_n hx hb dX0_tellHits_84 rfl (lv_at hl 2 rfl) ?_
                  refine lv_iload hx hb dX0_tellHits_85 (lv_at hl 4 rfl) ?_
                  refine lv_iload hx hb dX0_tellHits_87 (lv_at hl 3 rfl) ?_
                  refine lv_bipush (v := 7) hx hb dX0_tellHits_89 (by decide) ?_
                  refine lv_iadd hx hb dX0_tellHits_91 ?_
                  refine qi_as (y := 10) (by decide) ?_
                  refine lv_bipush (v := 7) hx hb dX0_tellHits_92 (by decide) ?_
                  refine lv_iand hx hb dX0_tellHits_94 ?_
                  refine qi_as (y := 2) (by decide) ?_
                  have hnx := nx_lt i (by omega) 2 (by omega)
                  refine vp_callSi (va_runSN (As := [.int (nI i), .int 2]) (rest := [.long (lN ma), .int (nI (drf i)), .int (nI ((20 - (2 * (drf i))) * (hbN ma (nxN i 3)))), .int (nI i), .ref (rh 3)]) ⟨hx, hb, hml, hown, hts⟩ (c_beside l dC dI gd i 2 (by omega) (by omega)) ⟨va_cnB 2 hts ggX0_tellHits_X11_besideOrSame rfl rfl rfl (hG.1 (.methodLinkNest RX0 56 yX11_besideOrSame "MistHeaps") (by decide +kernel)) (hts (.initialized RX11) kc_xTellHits_4) (by decide +kernel) ⟨Nat.le_of_ble_eq_true rfl, Nat.le_of_ble_eq_true rfl⟩, (hts (.static yX11_besideOrSame) kc_xTellHits_7), trivial⟩ ⟨fun a U g mk q => by obtain ⟨q0, qhG⟩ := q; exact ⟨q0, qhG.mv g mk a⟩, fun U hU hW => ⟨rfl, hG.callF hS hU hW⟩⟩ rfl rfl hl.1 rfl (lv_room (Nat.le_of_ble_eq_true rfl)) dX0_tellHits_95 ⟨Nat.le_of_ble_eq_true rfl, Nat.le_of_ble_eq_true rfl⟩).run (fun r_74 hw_75 => ?_)
                  obtain rfl := hw_75
                  refine vp_callSi (va_runS (As := [.long (lN ma), .int (nI (nxN i 2))]) (rest := [.int (nI (drf i)), .int (nI ((20 - (2 * (drf i))) * (hbN ma (nxN i 3)))), .int (nI i), .ref (rh 3)]) ⟨hx, hb, hml, hown, hts⟩ (c_hit l dC dI gd ma (nxN i 2) hma (by omega)) (va_cwS 2 hts gX0_tellHits_X0_hit rfl rfl rfl hd_yX0_hit.2 ⟨Nat.le_of_ble_eq_true rfl, Nat.le_of_ble_eq_true rfl⟩) ⟨fun a U g mk q => by obtain ⟨q0, qhG⟩ := q; exact ⟨q0, qhG.mv g mk a⟩, fun U hU hW => ⟨rfl, hG.callF hS hU hW⟩⟩ rfl rfl hl.1 rfl (lv_room (Nat.le_of_ble_eq_true rfl)) dX0_tellHits_98 ⟨Nat.le_of_ble_eq_true rfl, Nat.le_of_ble_eq_true rfl⟩).run (fun r_76 hw_77 => ?_)
                  obtain rfl := hw_77
                  have hb2 := hb_2 (ma := ma) (c := (nxN i 2))
                  refine lv_imul hx hb dX0_tellHits_101 ?_
                  refine qi_as (y := nI ((drf i) * (hbN ma (nxN i 2)))) (pk_mul (drf i) (hbN ma (nxN i 2))) ?_
                  refine lv_iadd hx hb dX0_tellHits_102 ?_
                  refine qi_as (y := nI (((20 - (2 * (drf i))) * (hbN ma (nxN i 3))) + ((drf i) * (hbN ma (nxN i 2))))) (nI_add ((20 - (2 * (drf i))) * (hbN ma (nxN i 3))) ((drf i) * (hbN ma (nxN i 2)))) ?_
                  refine lv_aload_n hx hb dX0_tellHits_103 rfl (lv_at hl 0 rfl) ?_
                  refine va_get (D := (dC, dI)) (ci := 2) (v := .ref dr) (C := RX0) (T := TX0) (N := 5) hx hb hts kc_xTellHits_0 hown hK hP 0 rfl rfl 2 (by decide) (hts (.fieldLink RX0 9 "MistHeaps$Chances" "drifts" "[I") kc_xTellHits_6) (fun _ h9 => h9) rfl dX0_tellHits_104 ?_
                  refine lv_iload hx hb dX0_tellHits_107 (lv_at hl 4 rfl) ?_
                  refine va_iald hx hb hK hP 1 0 rfl rfl (vp_in_nI (n := i) (N := 36) (by omega) (by omega)) dX0_tellHits_109 ?_
                  refine qi_as (y := nI (drf i)) ((show fD (nI i : Int32).toNatClampNeg = fD i from by rw [nI_clamp (by omega)]).trans ((hdr i (by omega)).1)) ?_
                  refine lv_lload_n hx hb dX0_tellHits_110 rfl (lv_at hl 2 rfl) ?_
                  refine lv_iload hx hb dX0_tellHits_111 (lv_at hl 4 rfl) ?_
                  refine lv_iload hx hb dX0_tellHits_113 (lv_at hl 3 rfl) ?_
                  refine lv_iconst (v := 1) hx hb dX0_tellHits_115 (by decide) ?_
                  refine lv_iadd hx hb dX0_tellHits_116 ?_
                  refine qi_as (y := 4) (by decide) ?_
                  refine lv_bipush (v := 7) hx hb dX0_tellHits_117 (by decide) ?_
                  refine lv_iand hx hb dX0_tellHits_119 ?_
                  refine qi_as (y := 4) (by decide) ?_
                  have hnx := nx_lt i (by omega) 4 (by omega)
                  refine vp_callSi (va_runSN (As := [.int (nI i), .int 4]) (rest := [.long (lN ma), .int (nI (drf i)), .int (nI (((20 - (2 * (drf i))) * (hbN ma (nxN i 3))) + ((drf i) * (hbN ma (nxN i 2))))), .int (nI i), .ref (rh 3)]) ⟨hx, hb, hml, hown, hts⟩ (c_beside l dC dI gd i 4 (by omega) (by omega)) ⟨va_cnB 2 hts ggX0_tellHits_X11_besideOrSame rfl rfl rfl (hG.1 (.methodLinkNest RX0 56 yX11_besideOrSame "MistHeaps") (by decide +kernel)) (hts (.initialized RX11) kc_xTellHits_4) (by decide +kernel) ⟨Nat.le_of_ble_eq_true rfl, Nat.le_of_ble_eq_true rfl⟩, (hts (.static yX11_besideOrSame) kc_xTellHits_7), trivial⟩ ⟨fun a U g mk q => by obtain ⟨q0, qhG⟩ := q; exact ⟨q0, qhG.mv g mk a⟩, fun U hU hW => ⟨rfl, hG.callF hS hU hW⟩⟩ rfl rfl hl.1 rfl (lv_room (Nat.le_of_ble_eq_true rfl)) dX0_tellHits_120 ⟨Nat.le_of_ble_eq_true rfl, Nat.le_of_ble_eq_true rfl⟩).run (fun r_78 hw_79 => ?_)
                  obtain rfl := hw_79
                  refine vp_callSi (va_runS (As := [.long (lN ma), .int (nI (nxN i 4))]) (rest := [.int (nI (drf i)), .int (nI (((20 - (2 * (drf i))) * (hbN ma (nxN i 3))) + ((drf i) * (hbN ma (nxN i 2))))), .int (nI i), .ref (rh 3)]) ⟨hx, hb, hml, hown, hts⟩ (c_hit l dC dI gd ma (nxN i 4) hma (by omega)) (va_cwS 2 hts gX0_tellHits_X0_hit rfl rfl rfl hd_yX0_hit.2 ⟨Nat.le_of_ble_eq_true rfl, Nat.le_of_ble_eq_true rfl⟩) ⟨fun a U g mk q => by obtain ⟨q0, qhG⟩ := q; exact ⟨q0, qhG.mv g mk a⟩, fun U hU hW => ⟨rfl, hG.callF hS hU hW⟩⟩ rfl rfl hl.1 rfl (lv_room (Nat.le_of_ble_eq_true rfl)) dX0_tellHits_123 ⟨Nat.le_of_ble_eq_true rfl, Nat.le_of_ble_eq_true rfl⟩).run (fun r_80 hw_81 => ?_)
                  obtain rfl := hw_81
                  have hb2 := hb_2 (ma := ma) (c := (nxN i 4))
                  refine lv_imul hx hb dX0_tellHits_126 ?_
                  refine qi_as (y := nI ((drf i) * (hbN ma (nxN i 4)))) (pk_mul (drf i) (hbN ma (nxN i 4))) ?_
                  refine lv_iadd hx hb dX0_tellHits_127 ?_
                  refine qi_as (y := nI ((((20 - (2 * (drf i))) * (hbN ma (nxN i 3))) + ((drf i) * (hbN ma (nxN i 2)))) + ((drf i) * (hbN ma (nxN i 4))))) (nI_add (((20 - (2 * (drf i))) * (hbN ma (nxN i 3))) + ((drf i) * (hbN ma (nxN i 2)))) ((drf i) * (hbN ma (nxN i 4)))) ?_
                  refine va_iast hx hb hK hP hD hS 6 5 rfl rfl (vp_in_nI (n := i) (N := 36) (by omega) (by omega)) dX0_tellHits_128 (fun H locs hP hD hS => ?_)
                  rw [nI_clamp (n := i) (by omega)] at hP hD
                  have hP : va_P (dC, dI) vwCl [(zo2lirrr ch ft fr dr tO hO), (zaI dr cD 36 fD), (zaR hO cHO 8 (fun i => if i < 8 then some (rh i) else none)), (zaI (rh 0) cH 36 g02), (zaI (rh 1) cH 36 g12), (zaI (rh 2) cH 36 g22), (zaI (rh 3) cH 36 (upd f9 i (nI ((((20 - (2 * (drf i))) * (hbN ma (nxN i 3))) + ((drf i) * (hbN ma (nxN i 2)))) + ((drf i) * (hbN ma (nxN i 4))))))), (zaI (rh 4) cH 36 g42), (zaI (rh 5) cH 36 g52), (zaI (rh 6) cH 36 g62), (zaI (rh 7) cH 36 g72), (zo10ririliiriririr sc aTp (nI ts) aHl (nI nh) (lN ee) mi sn aHs (nI n) aWk (nI wz) aBk (nI bz) aFc)] H := hP
                  have hD : va_D A [(zo2lirrr ch ft fr dr tO hO), (zaI dr cD 36 fD), (zaR hO cHO 8 (fun i => if i < 8 then some (rh i) else none)), (zaI (rh 0) cH 36 g02), (zaI (rh 1) cH 36 g12), (zaI (rh 2) cH 36 g22), (zaI (rh 3) cH 36 (upd f9 i (nI ((((20 - (2 * (drf i))) * (hbN ma (nxN i 3))) + ((drf i) * (hbN ma (nxN i 2)))) + ((drf i) * (hbN ma (nxN i 4))))))), (zaI (rh 4) cH 36 g42), (zaI (rh 5) cH 36 g52), (zaI (rh 6) cH 36 g62), (zaI (rh 7) cH 36 g72), (zo10ririliiriririr sc aTp (nI ts) aHl (nI nh) (lN ee) mi sn aHs (nI n) aWk (nI wz) aBk (nI bz) aFc)] := hD
                  refine lv_iinc (v := nI (i + 1)) (lv' := [(5, .int (nI (i + 1))), (0, .ref ch), (1, .ref sc), (2, .long (lN ma)), (4, .int 3)]) hx hb dX0_tellHits_129 hl (k := 4) rfl (nI_add i 1) (by decide) rfl (fun ls hl => ?_)
                  refine lv_goto (tgt := 13) hx hb dX0_tellHits_132 (by decide) ?_
                  exact ih13 (i + 1) ((upd f9 i (nI ((((20 - (2 * (drf i))) * (hbN ma (nxN i 3))) + ((drf i) * (hbN ma (nxN i 2)))) + ((drf i) * (hbN ma (nxN i 4))))))) (by omega) (by omega) (up_g (g := fun k0 => nI (htN (edB ee) drf ma 3 k0)) hf9 (congrArg nI (ht_n (fun z9 => hd_65 ((in_E hee (by omega)).mpr z9)))).symm) _ _ (hK.sub [0, 1, 2, 3, 4, 5, 6, 7, 8, 9] rfl) (hP.sub [0, 1, 2, 3, 4, 5, 6, 7, 8, 9, 10, 11] rfl) (hD.sub [0, 1, 2, 3, 4, 5, 6, 7, 8, 9, 10, 11] (by decide) rfl) hS ls (lv_sub hl [1, 2, 3, 4, 0] rfl)
          exact L13 _ (0) (g32) (Nat.lt_succ_self _) (by omega) (fun k0 h0 => absurd h0 (Nat.not_lt_zero k0)) _ _ (hK.sub [0, 1, 2, 3, 4, 5, 6, 7, 8, 9] rfl) (hP.sub [0, 1, 2, 3, 4, 5, 6, 7, 8, 9, 10, 11] rfl) (hD.sub [0, 1, 2, 3, 4, 5, 6, 7, 8, 9, 10, 11] (by decide) rfl) hS ls (lv_sub hl [1, 2, 3, 4, 0] rfl)
        · skip
          refine lv_iconst (v := 0) hx hb dX0_tellHits_10 (by decide) ?_
          refine lv_istore (lv' := [(5, .int 0), (0, .ref ch), (1, .ref sc), (2, .long (lN ma)), (4, .int 4)]) hx hb dX0_tellHits_11 hl (by decide) rfl (fun ls hl => ?_)
          have L13 : ∀ (nF : Nat) (i : Nat) (f9 : Nat → Int32), 36 - i < nF → (i ≤ 36) → (∀ k0, k0 < i → f9 k0 = nI (htN (edB ee) drf ma 4 k0)) → ∀ (H : Heap) (locs : List Loc), va_K (dC, dI) vwCl [(cD, .int), (cHO, .array .int), (cH, .int), (cH, .int), (cH, .int), (cH, .int), (cH, .int), (cH, .int), (cH, .int), (cH, .int)] s → va_P (dC, dI) vwCl [(zo2lirrr ch ft fr dr tO hO), (zaI dr cD 36 fD), (zaR hO cHO 8 (fun i => if i < 8 then some (rh i) else none)), (zaI (rh 0) cH 36 g02), (zaI (rh 1) cH 36 g12), (zaI (rh 2) cH 36 g22), (zaI (rh 3) cH 36 g32), (zaI (rh 4) cH 36 f9), (zaI (rh 5) cH 36 g52), (zaI (rh 6) cH 36 g62), (zaI (rh 7) cH 36 g72), (zo10ririliiriririr sc aTp (nI ts) aHl (nI nh) (lN ee) mi sn aHs (nI n) aWk (nI wz) aBk (nI bz) aFc)] H → va_D A [(zo2lirrr ch ft fr dr tO hO), (zaI dr cD 36 fD), (zaR hO cHO 8 (fun i => if i < 8 then some (rh i) else none)), (zaI (rh 0) cH 36 g02), (zaI (rh 1) cH 36 g12), (zaI (rh 2) cH 36 g22), (zaI (rh 3) cH 36 g32), (zaI (rh 4) cH 36 f9), (zaI (rh 5) cH 36 g52), (zaI (rh 6) cH 36 g62), (zaI (rh 7) cH 36 g72), (zo10ririliiriririr sc aTp (nI ts) aHl (nI nh) (lN ee) mi sn aHs (nI n) aWk (nI wz) aBk (nI bz) aFc)] → va_S A s.heap H locs → ∀ (ls : Array Slot), lv_has ls 6 [(0, .ref ch), (1, .ref sc), (2, .long (lN ma)), (4, .int 4), (5, .int (nI i))] → W p l e ({ frames := 2, cells := 0, slots := 0, locals := 44 } : Room) s m args below meth c H locs 0 0 Q (F0 m 13 ls []) := by
            intro nF
            induction nF with
            | zero => intro i f9 hm; exact absurd hm (Nat.not_lt_zero _)
            | succ nF ih13 =>
              intro i f9 hm hi hf9 H locs hK hP hD hS ls hl
              refine lv_iload hx hb dX0_tellHits_13 (lv_at hl 4 rfl) ?_
              refine lv_bipush (v := 36) hx hb dX0_tellHits_15 (by decide) ?_
              refine lv_icmp_ge (tgt := 135) hx hb dX0_tellHits_17 (by decide) (fun c_82 => ?_) (fun c_82 => ?_)
              · skip
                have c_82 : 36 ≤ i := (nI_leI (a := 36) (b := i) (by omega) (by omega)).mp c_82
                refine lv_iinc (v := 5) (lv' := [(4, .int 5), (0, .ref ch), (1, .ref sc), (2, .long (lN ma)), (5, .int (nI i))]) hx hb dX0_tellHits_135 hl (k := 3) rfl (by decide) (by decide) rfl (fun ls hl => ?_)
                refine lv_goto (tgt := 3) hx hb dX0_tellHits_138 (by decide) ?_
                exact ih3 (5) (g02) (g12) (g22) (g32) (f9) (g52) (g62) (g72) (by omega) (by omega) (fun _ => hh0 (by omega)) (fun _ => hh1 (by omega)) (fun _ => hh2 (by omega)) (fun _ => hh3 (by omega)) (fun _ k0 h0 => hf9 k0 (by omega)) (fun z9 => absurd z9 (by omega)) (fun z9 => absurd z9 (by omega)) (fun z9 => absurd z9 (by omega)) _ _ (hK.sub [0, 1, 2, 3, 4, 5, 6, 7, 8, 9] rfl) (hP.sub [0, 1, 2, 3, 4, 5, 6, 7, 8, 9, 10, 11] rfl) (hD.sub [0, 1, 2, 3, 4, 5, 6, 7, 8, 9, 10, 11] (by decide) rfl) hS ls (lv_sub hl [1, 2, 3, 0] rfl)
              · skip
                have c_82 : ¬ 36 ≤ i := fun q => c_82 ((nI_leI (a := 36) (b := i) (by omega) (by omega)).mpr q)
                refine lv_aload_n hx hb dX0_tellHits_20 rfl (lv_at hl 0 rfl) ?_
                refine va_get (D := (dC, dI)) (ci := 2) (v := .ref hO) (C := RX0) (T := TX0) (N := 5) hx hb hts kc_xTellHits_0 hown hK hP 0 rfl rfl 4 (by decide) (hts (.fieldLink RX0 22 "MistHeaps$Chances" "hits" "[[I") kc_xTellHits_1) (fun _ h9 => h9) rfl dX0_tellHits_21 ?_
                refine lv_iload hx hb dX0_tellHits_24 (lv_at hl 3 rfl) ?_
                refine va_alda hx hb hK hP 2 1 rfl rfl (vp_in_nI (n := 4) (N := 8) (by omega) (by omega)) dX0_tellHits_26 ?_
                refine qq_as (v := .ref (rh 4)) (rfl) ?_
                refine lv_iload hx hb dX0_tellHits_27 (lv_at hl 4 rfl) ?_
                refine lv_aload_n hx hb dX0_tellHits_29 rfl (lv_at hl 1 rfl) ?_
                refine va_get (D := (dC, dI)) (ci := 10) (v := .long (lN ee)) (C := RX8) (T := TX8) (N := 14) hx hb hts kc_xTellHits_2 hown hK hP 11 rfl rfl 4 (by decide) (hts (.fieldLink RX0 52 "MistHeaps$Scene" "edges" "J") kc_xTellHits_3) (fun _ h9 => h9) rfl dX0_tellHits_30 ?_
                refine lv_iload hx hb dX0_tellHits_33 (lv_at hl 4 rfl) ?_
                refine vp_callSi (va_runSN (As := [.long (lN ee), .int (nI i)]) (rest := [.int (nI i), .ref (rh 4)]) ⟨hx, hb, hml, hown, hts⟩ (c_isIn l dC dI (lN ee) (nI i)) ⟨va_cnB 2 hts ggX0_tellHits_X11_isIn rfl rfl rfl (hG.1 (.methodLinkNest RX0 44 yX11_isIn "MistHeaps") (by decide +kernel)) (hts (.initialized RX11) kc_xTellHits_4) (by decide +kernel) ⟨Nat.le_of_ble_eq_true rfl, Nat.le_of_ble_eq_true rfl⟩, (hts (.static yX11_isIn) kc_xTellHits_5), trivial⟩ ⟨fun a U g mk q => ⟨q.1, trivial⟩, fun U hU hW => ⟨rfl, trivial⟩⟩ rfl rfl hl.1 rfl (lv_room (Nat.le_of_ble_eq_true rfl)) dX0_tellHits_35 ⟨Nat.le_of_ble_eq_true rfl, Nat.le_of_ble_eq_true rfl⟩).run (fun r_83 hw_84 => ?_)
                rcases hw_84 with ⟨rfl, hd_85⟩ | ⟨rfl, hd_85⟩
                · skip
                  refine lv_if_eq (tgt := 53) hx hb dX0_tellHits_38 (by decide) (fun c_86 => absurd c_86 (by decide)) (fun _ => ?_)
                  refine lv_bipush (v := 20) hx hb dX0_tellHits_41 (by decide) ?_
                  refine lv_lload_n hx hb dX0_tellHits_43 rfl (lv_at hl 2 rfl) ?_
                  refine lv_iload hx hb dX0_tellHits_44 (lv_at hl 4 rfl) ?_
                  refine vp_callSi (va_runS (As := [.long (lN ma), .int (nI i)]) (rest := [.int 20, .int (nI i), .ref (rh 4)]) ⟨hx, hb, hml, hown, hts⟩ (c_hit l dC dI gd ma i hma (by omega)) (va_cwS 2 hts gX0_tellHits_X0_hit rfl rfl rfl hd_yX0_hit.2 ⟨Nat.le_of_ble_eq_true rfl, Nat.le_of_ble_eq_true rfl⟩) ⟨fun a U g mk q => by obtain ⟨q0, qhG⟩ := q; exact ⟨q0, qhG.mv g mk a⟩, fun U hU hW => ⟨rfl, hG.callF hS hU hW⟩⟩ rfl rfl hl.1 rfl (lv_room (Nat.le_of_ble_eq_true rfl)) dX0_tellHits_46 ⟨Nat.le_of_ble_eq_true rfl, Nat.le_of_ble_eq_true rfl⟩).run (fun r_87 hw_88 => ?_)
                  obtain rfl := hw_88
                  have hb2 := hb_2 (ma := ma) (c := i)
                  refine lv_imul hx hb dX0_tellHits_49 ?_
                  refine qi_as (y := nI (20 * (hbN ma i))) (pk_mul 20 (hbN ma i)) ?_
                  refine lv_goto (tgt := 128) hx hb dX0_tellHits_50 (by decide) ?_
                  refine va_iast hx hb hK hP hD hS 7 6 rfl rfl (vp_in_nI (n := i) (N := 36) (by omega) (by omega)) dX0_tellHits_128 (fun H locs hP hD hS => ?_)
                  rw [nI_clamp (n := i) (by omega)] at hP hD
                  have hP : va_P (dC, dI) vwCl [(zo2lirrr ch ft fr dr tO hO), (zaI dr cD 36 fD), (zaR hO cHO 8 (fun i => if i < 8 then some (rh i) else none)), (zaI (rh 0) cH 36 g02), (zaI (rh 1) cH 36 g12), (zaI (rh 2) cH 36 g22), (zaI (rh 3) cH 36 g32), (zaI (rh 4) cH 36 (upd f9 i (nI (20 * (hbN ma i))))), (zaI (rh 5) cH 36 g52), (zaI (rh 6) cH 36 g62), (zaI (rh 7) cH 36 g72), (zo10ririliiriririr sc aTp (nI ts) aHl (nI nh) (lN ee) mi sn aHs (nI n) aWk (nI wz) aBk (nI bz) aFc)] H := hP
                  have hD : va_D A [(zo2lirrr ch ft fr dr tO hO), (zaI dr cD 36 fD), (zaR hO cHO 8 (fun i => if i < 8 then some (rh i) else none)), (zaI (rh 0) cH 36 g02), (zaI (rh 1) cH 36 g12), (zaI (rh 2) cH 36 g22), (zaI (rh 3) cH 36 g32), (zaI (rh 4) cH 36 (upd f9 i (nI (20 * (hbN ma i))))), (zaI (rh 5) cH 36 g52), (zaI (rh 6) cH 36 g62), (zaI (rh 7) cH 36 g72), (zo10ririliiriririr sc aTp (nI ts) aHl (nI nh) (lN ee) mi sn aHs (nI n) aWk (nI wz) aBk (nI bz) aFc)] := hD
                  refine lv_iinc (v := nI (i + 1)) (lv' := [(5, .int (nI (i + 1))), (0, .ref ch), (1, .ref sc), (2, .long (lN ma)), (4, .int 4)]) hx hb dX0_tellHits_129 hl (k := 4) rfl (nI_add i 1) (by decide) rfl (fun ls hl => ?_)
                  refine lv_goto (tgt := 13) hx hb dX0_tellHits_132 (by decide) ?_
                  exact ih13 (i + 1) ((upd f9 i (nI (20 * (hbN ma i))))) (by omega) (by omega) (up_g (g := fun k0 => nI (htN (edB ee) drf ma 4 k0)) hf9 (congrArg nI (ht_e ((in_E hee (by omega)).mp hd_85))).symm) _ _ (hK.sub [0, 1, 2, 3, 4, 5, 6, 7, 8, 9] rfl) (hP.sub [0, 1, 2, 3, 4, 5, 6, 7, 8, 9, 10, 11] rfl) (hD.sub [0, 1, 2, 3, 4, 5, 6, 7, 8, 9, 10, 11] (by decide) rfl) hS ls (lv_sub hl [1, 2, 3, 4, 0] rfl)
                · skip
                  refine lv_if_eq (tgt := 53) hx hb dX0_tellHits_38 (by decide) (fun _ => ?_) (fun c_89 => absurd c_89 (by decide))
                  have hd5 := (hdr i (by omega)).2
                  refine lv_bipush (v := 20) hx hb dX0_tellHits_53 (by decide) ?_
                  refine lv_iconst (v := 2) hx hb dX0_tellHits_55 (by decide) ?_
                  refine lv_aload_n hx hb dX0_tellHits_56 rfl (lv_at hl 0 rfl) ?_
                  refine va_get (D := (dC, dI)) (ci := 2) (v := .ref dr) (C := RX0) (T := TX0) (N := 5) hx hb hts kc_xTellHits_0 hown hK hP 0 rfl rfl 2 (by decide) (hts (.fieldLink RX0 9 "MistHeaps$Chances" "drifts" "[I") kc_xTellHits_6) (fun _ h9 => h9) rfl dX0_tellHits_57 ?_
                  refine lv_iload hx hb dX0_tellHits_60 (lv_at hl 4 rfl) ?_
                  refine va_iald hx hb hK hP 1 0 rfl rfl (vp_in_nI (n := i) (N := 36) (by omega) (by omega)) dX0_tellHits_62 ?_
                  refine qi_as (y := nI (drf i)) ((show fD (nI i : Int32).toNatClampNeg = fD i from by rw [nI_clamp (by omega)]).trans ((hdr i (by omega)).1)) ?_
                  refine lv_imul hx hb dX0_tellHits_63 ?_
                  refine qi_as (y := nI (2 * (drf i))) (pk_mul 2 (drf i)) ?_
                  refine lv_isub hx hb dX0_tellHits_64 ?_
                  refine qi_as (y := nI (20 - (2 * (drf i)))) (pk_sub (a := 20) (b := 2 * (drf i)) (by omega)) ?_
                  refine lv_lload_n hx hb dX0_tellHits_65 rfl (lv_at hl 2 rfl) ?_
                  refine lv_iload hx hb dX0_tellHits_66 (lv_at hl 4 rfl) ?_
                  refine lv_iload hx hb dX0_tellHits_68 (lv_at hl 3 rfl) ?_
                  have hnx := nx_lt i (by omega) 4 (by omega)
                  refine vp_callSi (va_runSN (As := [.int (nI i), .int 4]) (rest := [.long (lN ma), .int (nI (20 - (2 * (drf i)))), .int (nI i), .ref (rh 4)]) ⟨hx, hb, hml, hown, hts⟩ (c_beside l dC dI gd i 4 (by omega) (by omega)) ⟨va_cnB 2 hts ggX0_tellHits_X11_besideOrSame rfl rfl rfl (hG.1 (.methodLinkNest RX0 56 yX11_besideOrSame "MistHeaps") (by decide +kernel)) (hts (.initialized RX11) kc_xTellHits_4) (by decide +kernel) ⟨Nat.le_of_ble_eq_true rfl, Nat.le_of_ble_eq_true rfl⟩, (hts (.static yX11_besideOrSame) kc_xTellHits_7), trivial⟩ ⟨fun a U g mk q => by obtain ⟨q0, qhG⟩ := q; exact ⟨q0, qhG.mv g mk a⟩, fun U hU hW => ⟨rfl, hG.callF hS hU hW⟩⟩ rfl rfl hl.1 rfl (lv_room (Nat.le_of_ble_eq_true rfl)) dX0_tellHits_70 ⟨Nat.le_of_ble_eq_true rfl, Nat.le_of_ble_eq_true rfl⟩).run (fun r_90 hw_91 => ?_)
                  obtain rfl := hw_91
                  refine vp_callSi (va_runS (As := [.long (lN ma), .int (nI (nxN i 4))]) (rest := [.int (nI (20 - (2 * (drf i)))), .int (nI i), .ref (rh 4)]) ⟨hx, hb, hml, hown, hts⟩ (c_hit l dC dI gd ma (nxN i 4) hma (by omega)) (va_cwS 2 hts gX0_tellHits_X0_hit rfl rfl rfl hd_yX0_hit.2 ⟨Nat.le_of_ble_eq_true rfl, Nat.le_of_ble_eq_true rfl⟩) ⟨fun a U g mk q => by obtain ⟨q0, qhG⟩ := q; exact ⟨q0, qhG.mv g mk a⟩, fun U hU hW => ⟨rfl, hG.callF hS hU hW⟩⟩ rfl rfl hl.1 rfl (lv_room (Nat.le_of_ble_eq_true rfl)) dX0_tellHits_73 ⟨Nat.le_of_ble_eq_true rfl, Nat.le_of_ble_eq_true rfl⟩).run (fun r_92 hw_93 => ?_)
                  obtain rfl := hw_93
                  have hb2 := hb_2 (ma := ma) (c := (nxN i 4))
                  refine lv_imul hx hb dX0_tellHits_76 ?_
                  refine qi_as (y := nI ((20 - (2 * (drf i))) * (hbN ma (nxN i 4)))) (pk_mul (20 - (2 * (drf i))) (hbN ma (nxN i 4))) ?_
                  refine lv_aload_n hx hb dX0_tellHits_77 rfl (lv_at hl 0 rfl) ?_
                  refine va_get (D := (dC, dI)) (ci := 2) (v := .ref dr) (C := RX0) (T := TX0) (N := 5) hx hb hts kc_xTellHits_0 hown hK hP 0 rfl rfl 2 (by decide) (hts (.fieldLink RX0 9 "MistHeaps$Chances" "drifts" "[I") kc_xTellHits_6) (fun _ h9 => h9) rfl dX0_tellHits_78 ?_
                  refine lv_iload hx hb dX0_tellHits_81 (lv_at hl 4 rfl) ?_
                  refine va_iald hx hb hK hP 1 0 rfl rfl (vp_in_nI (n := i) (N := 36) (by omega) (by omega)) dX0_tellHits_83 ?_
                  refine qi_as (y := nI (drf i)) ((show fD (nI i : Int32).toNatClampNeg = fD i from by rw [nI_clamp (by omega)]).trans ((hdr i (by omega)).1)) ?_
                  refine lv_lload_n hx hb dX0_tellHits_84 rfl (lv_at hl 2 rfl) ?_
                  refine lv_iload hx hb dX0_tellHits_85 (lv_at hl 4 rfl) ?_
                  refine lv_iload hx hb dX0_tellHits_87 (lv_at hl 3 rfl) ?_
                  refine lv_bipush (v := 7) hx hb dX0_tellHits_89 (by decide) ?_
                  refine lv_iadd hx hb dX0_tellHits_91 ?_
                  refine qi_as (y := 11) (by decide) ?_
                  refine lv_bipush (v := 7) hx hb dX0_tellHits_92 (by decide) ?_
                  refine lv_iand hx hb dX0_tellHits_94 ?_
                  refine qi_as (y := 3) (by decide) ?_
                  have hnx := nx_lt i (by omega) 3 (by omega)
                  refine vp_callSi (va_runSN (As := [.int (nI i), .int 3]) (rest := [.long (lN ma), .int (nI (drf i)), .int (nI ((20 - (2 * (drf i))) * (hbN ma (nxN i 4)))), .int (nI i), .ref (rh 4)]) ⟨hx, hb, hml, hown, hts⟩ (c_beside l dC dI gd i 3 (by omega) (by omega)) ⟨va_cnB 2 hts ggX0_tellHits_X11_besideOrSame rfl rfl rfl (hG.1 (.methodLinkNest RX0 56 yX11_besideOrSame "MistHeaps") (by decide +kernel)) (hts (.initialized RX11) kc_xTellHits_4) (by decide +kernel) ⟨Nat.le_of_ble_eq_true rfl, Nat.le_of_ble_eq_true rfl⟩, (hts (.static yX11_besideOrSame) kc_xTellHits_7), trivial⟩ ⟨fun a U g mk q => by obtain ⟨q0, qhG⟩ := q; exact ⟨q0, qhG.mv g mk a⟩, fun U hU hW => ⟨rfl, hG.callF hS hU hW⟩⟩ rfl rfl hl.1 rfl (lv_room (Nat.le_of_ble_eq_true rfl)) dX0_tellHits_95 ⟨Nat.le_of_ble_eq_true rfl, Nat.le_of_ble_eq_true rfl⟩).run (fun r_94 hw_95 => ?_)
                  obtain rfl := hw_95
                  refine vp_callSi (va_runS (As := [.long (lN ma), .int (nI (nxN i 3))]) (rest := [.int (nI (drf i)), .int (nI ((20 - (2 * (drf i))) * (hbN ma (nxN i 4)))), .int (nI i), .ref (rh 4)]) ⟨hx, hb, hml, hown, hts⟩ (c_hit l dC dI gd ma (nxN i 3) hma (by omega)) (va_cwS 2 hts gX0_tellHits_X0_hit rfl rfl rfl hd_yX0_hit.2 ⟨Nat.le_of_ble_eq_true rfl, Nat.le_of_ble_eq_true rfl⟩) ⟨fun a U g mk q => by obtain ⟨q0, qhG⟩ := q; exact ⟨q0, qhG.mv g mk a⟩, fun U hU hW => ⟨rfl, hG.callF hS hU hW⟩⟩ rfl rfl hl.1 rfl (lv_room (Nat.le_of_ble_eq_true rfl)) dX0_tellHits_98 ⟨Nat.le_of_ble_eq_true rfl, Nat.le_of_ble_eq_true rfl⟩).run (fun r_96 hw_97 => ?_)
                  obtain rfl := hw_97
                  have hb2 := hb_2 (ma := ma) (c := (nxN i 3))
                  refine lv_imul hx hb dX0_tellHits_101 ?_
                  refine qi_as (y := nI ((drf i) * (hbN ma (nxN i 3)))) (pk_mul (drf i) (hbN ma (nxN i 3))) ?_
                  refine lv_iadd hx hb dX0_tellHits_102 ?_
                  refine qi_as (y := nI (((20 - (2 * (drf i))) * (hbN ma (nxN i 4))) + ((drf i) * (hbN ma (nxN i 3))))) (nI_add ((20 - (2 * (drf i))) * (hbN ma (nxN i 4))) ((drf i) * (hbN ma (nxN i 3)))) ?_
                  refine lv_aload_n hx hb dX0_tellHits_103 rfl (lv_at hl 0 rfl) ?_
                  refine va_get (D := (dC, dI)) (ci := 2) (v := .ref dr) (C := RX0) (T := TX0) (N := 5) hx hb hts kc_xTellHits_0 hown hK hP 0 rfl rfl 2 (by decide) (hts (.fieldLink RX0 9 "MistHeaps$Chances" "drifts" "[I") kc_xTellHits_6) (fun _ h9 => h9) rfl dX0_tellHits_104 ?_
                  refine lv_iload hx hb dX0_tellHits_107 (lv_at hl 4 rfl) ?_
                  refine va_iald hx hb hK hP 1 0 rfl rfl (vp_in_nI (n := i) (N := 36) (by omega) (by omega)) dX0_tellHits_109 ?_
                  refine qi_as (y := nI (drf i)) ((show fD (nI i : Int32).toNatClampNeg = fD i from by rw [nI_clamp (by omega)]).trans ((hdr i (by omega)).1)) ?_
                  refine lv_lload_n hx hb dX0_tellHits_110 rfl (lv_at hl 2 rfl) ?_
                  refine lv_iload hx hb dX0_tellHits_111 (lv_at hl 4 rfl) ?_
                  refine lv_iload hx hb dX0_tellHits_113 (lv_at hl 3 rfl) ?_
                  refine lv_iconst (v := 1) hx hb dX0_tellHits_115 (by decide) ?_
                  refine lv_iadd hx hb dX0_tellHits_116 ?_
                  refine qi_as (y := 5) (by decide) ?_
                  refine lv_bipush (v := 7) hx hb dX0_tellHits_117 (by decide) ?_
                  refine lv_iand hx hb dX0_tellHits_119 ?_
                  refine qi_as (y := 5) (by decide) ?_
                  have hnx := nx_lt i (by omega) 5 (by omega)
                  refine vp_callSi (va_runSN (As := [.int (nI i), .int 5]) (rest := [.long (lN ma), .int (nI (drf i)), .int (nI (((20 - (2 * (drf i))) * (hbN ma (nxN i 4))) + ((drf i) * (hbN ma (nxN i 3))))), .int (nI i), .ref (rh 4)]) ⟨hx, hb, hml, hown, hts⟩ (c_beside l dC dI gd i 5 (by omega) (by omega)) ⟨va_cnB 2 hts ggX0_tellHits_X11_besideOrSame rfl rfl rfl (hG.1 (.methodLinkNest RX0 56 yX11_besideOrSame "MistHeaps") (by decide +kernel)) (hts (.initialized RX11) kc_xTellHits_4) (by decide +kernel) ⟨Nat.le_of_ble_eq_true rfl, Nat.le_of_ble_eq_true rfl⟩, (hts (.static yX11_besideOrSame) kc_xTellHits_7), trivial⟩ ⟨fun a U g mk q => by obtain ⟨q0, qhG⟩ := q; exact ⟨q0, qhG.mv g mk a⟩, fun U hU hW => ⟨rfl, hG.callF hS hU hW⟩⟩ rfl rfl hl.1 rfl (lv_room (Nat.le_of_ble_eq_true rfl)) dX0_tellHits_120 ⟨Nat.le_of_ble_eq_true rfl, Nat.le_of_ble_eq_true rfl⟩).run (fun r_98 hw_99 => ?_)
                  obtain rfl := hw_99
                  refine vp_callSi (va_runS (As := [.long (lN ma), .int (nI (nxN i 5))]) (rest := [.int (nI (drf i)), .int (nI (((20 - (2 * (drf i))) * (hbN ma (nxN i 4))) + ((drf i) * (hbN ma (nxN i 3))))), .int (nI i), .ref (rh 4)]) ⟨hx, hb, hml, hown, hts⟩ (c_hit l dC dI gd ma (nxN i 5) hma (by omega)) (va_cwS 2 hts gX0_tellHits_X0_hit rfl rfl rfl hd_yX0_hit.2 ⟨Nat.le_of_ble_eq_true rfl, Nat.le_of_ble_eq_true rfl⟩) ⟨fun a U g mk q => by obtain ⟨q0, qhG⟩ := q; exact ⟨q0, qhG.mv g mk a⟩, fun U hU hW => ⟨rfl, hG.callF hS hU hW⟩⟩ rfl rfl hl.1 rfl (lv_room (Nat.le_of_ble_eq_true rfl)) dX0_tellHits_123 ⟨Nat.le_of_ble_eq_true rfl, Nat.le_of_ble_eq_true rfl⟩).run (fun r_100 hw_101 => ?_)
                  obtain rfl := hw_101
                  have hb2 := hb_2 (ma := ma) (c := (nxN i 5))
                  refine lv_imul hx hb dX0_tellHits_126 ?_
                  refine qi_as (y := nI ((drf i) * (hbN ma (nxN i 5)))) (pk_mul (drf i) (hbN ma (nxN i 5))) ?_
                  refine lv_iadd hx hb dX0_tellHits_127 ?_
                  refine qi_as (y := nI ((((20 - (2 * (drf i))) * (hbN ma (nxN i 4))) + ((drf i) * (hbN ma (nxN i 3)))) + ((drf i) * (hbN ma (nxN i 5))))) (nI_add (((20 - (2 * (drf i))) * (hbN ma (nxN i 4))) + ((drf i) * (hbN ma (nxN i 3)))) ((drf i) * (hbN ma (nxN i 5)))) ?_
                  refine va_iast hx hb hK hP hD hS 7 6 rfl rfl (vp_in_nI (n := i) (N := 36) (by omega) (by omega)) dX0_tellHits_128 (fun H locs hP hD hS => ?_)
                  rw [nI_clamp (n := i) (by omega)] at hP hD
                  have hP : va_P (dC, dI) vwCl [(zo2lirrr ch ft fr dr tO hO), (zaI dr cD 36 fD), (zaR hO cHO 8 (fun i => if i < 8 then some (rh i) else none)), (zaI (rh 0) cH 36 g02), (zaI (rh 1) cH 36 g12), (zaI (rh 2) cH 36 g22), (zaI (rh 3) cH 36 g32), (zaI (rh 4) cH 36 (upd f9 i (nI ((((20 - (2 * (drf i))) * (hbN ma (nxN i 4))) + ((drf i) * (hbN ma (nxN i 3)))) + ((drf i) * (hbN ma (nxN i 5))))))), (zaI (rh 5) cH 36 g52), (zaI (rh 6) cH 36 g62), (zaI (rh 7) cH 36 g72), (zo10ririliiriririr sc aTp (nI ts) aHl (nI nh) (lN ee) mi sn aHs (nI n) aWk (nI wz) aBk (nI bz) aFc)] H := hP
                  have hD : va_D A [(zo2lirrr ch ft fr dr tO hO), (zaI dr cD 36 fD), (zaR hO cHO 8 (fun i => if i < 8 then some (rh i) else none)), (zaI (rh 0) cH 36 g02), (zaI (rh 1) cH 36 g12), (zaI (rh 2) cH 36 g22), (zaI (rh 3) cH 36 g32), (zaI (rh 4) cH 36 (upd f9 i (nI ((((20 - (2 * (drf i))) * (hbN ma (nxN i 4))) + ((drf i) * (hbN ma (nxN i 3)))) + ((drf i) * (hbN ma (nxN i 5))))))), (zaI (rh 5) cH 36 g52), (zaI (rh 6) cH 36 g62), (zaI (rh 7) cH 36 g72), (zo10ririliiriririr sc aTp (nI ts) aHl (nI nh) (lN ee) mi sn aHs (nI n) aWk (nI wz) aBk (nI bz) aFc)] := hD
                  refine lv_iinc (v := nI (i + 1)) (lv' := [(5, .int (nI (i + 1))), (0, .ref ch), (1, .ref sc), (2, .long (lN ma)), (4, .int 4)]) hx hb dX0_tellHits_129 hl (k := 4) rfl (nI_add i 1) (by decide) rfl (fun ls hl => ?_)
                  refine lv_goto (tgt := 13) hx hb dX0_tellHits_132 (by decide) ?_
                  exact ih13 (i + 1) ((upd f9 i (nI ((((20 - (2 * (drf i))) * (hbN ma (nxN i 4))) + ((drf i) * (hbN ma (nxN i 3)))) + ((drf i) * (hbN ma (nxN i 5))))))) (by omega) (by omega) (up_g (g := fun k0 => nI (htN (edB ee) drf ma 4 k0)) hf9 (congrArg nI (ht_n (fun z9 => hd_85 ((in_E hee (by omega)).mpr z9)))).symm) _ _ (hK.sub [0, 1, 2, 3, 4, 5, 6, 7, 8, 9] rfl) (hP.sub [0, 1, 2, 3, 4, 5, 6, 7, 8, 9, 10, 11] rfl) (hD.sub [0, 1, 2, 3, 4, 5, 6, 7, 8, 9, 10, 11] (by decide) rfl) hS ls (lv_sub hl [1, 2, 3, 4, 0] rfl)
          exact L13 _ (0) (g42) (Nat.lt_succ_self _) (by omega) (fun k0 h0 => absurd h0 (Nat.not_lt_zero k0)) _ _ (hK.sub [0, 1, 2, 3, 4, 5, 6, 7, 8, 9] rfl) (hP.sub [0, 1, 2, 3, 4, 5, 6, 7, 8, 9, 10, 11] rfl) (hD.sub [0, 1, 2, 3, 4, 5, 6, 7, 8, 9, 10, 11] (by decide) rfl) hS ls (lv_sub hl [1, 2, 3, 4, 0] rfl)
        · skip
          refine lv_iconst (v := 0) hx hb dX0_tellHits_10 (by decide) ?_
          refine lv_istore (lv' := [(5, .int 0), (0, .ref ch), (1, .ref sc), (2, .long (lN ma)), (4, .int 5)]) hx hb dX0_tellHits_11 hl (by decide) rfl (fun ls hl => ?_)
          have L13 : ∀ (nF : Nat) (i : Nat) (f9 : Nat → Int32), 36 - i < nF → (i ≤ 36) → (∀ k0, k0 < i → f9 k0 = nI (htN (edB ee) drf ma 5 k0)) → ∀ (H : Heap) (locs : List Loc), va_K (dC, dI) vwCl [(cD, .int), (cHO, .array .int), (cH, .int), (cH, .int), (cH, .int), (cH, .int), (cH, .int), (cH, .int), (cH, .int), (cH, .int)] s → va_P (dC, dI) vwCl [(zo2lirrr ch ft fr dr tO hO), (zaI dr cD 36 fD), (zaR hO cHO 8 (fun i => if i < 8 then some (rh i) else none)), (zaI (rh 0) cH 36 g02), (zaI (rh 1) cH 36 g12), (zaI (rh 2) cH 36 g22), (zaI (rh 3) cH 36 g32), (zaI (rh 4) cH 36 g42), (zaI (rh 5) cH 36 f9), (zaI (rh 6) cH 36 g62), (zaI (rh 7) cH 36 g72), (zo10ririliiriririr sc aTp (nI ts) aHl (nI nh) (lN ee) mi sn aHs (nI n) aWk (nI wz) aBk (nI bz) aFc)] H → va_D A [(zo2lirrr ch ft fr dr tO hO), (zaI dr cD 36 fD), (zaR hO cHO 8 (fun i => if i < 8 then some (rh i) else none)), (zaI (rh 0) cH 36 g02), (zaI (rh 1) cH 36 g12), (zaI (rh 2) cH 36 g22), (zaI (rh 3) cH 36 g32), (zaI (rh 4) cH 36 g42), (zaI (rh 5) cH 36 f9), (zaI (rh 6) cH 36 g62), (zaI (rh 7) cH 36 g72), (zo10ririliiriririr sc aTp (nI ts) aHl (nI nh) (lN ee) mi sn aHs (nI n) aWk (nI wz) aBk (nI bz) aFc)] → va_S A s.heap H locs → ∀ (ls : Array Slot), lv_has ls 6 [(0, .ref ch), (1, .ref sc), (2, .long (lN ma)), (4, .int 5), (5, .int (nI i))] → W p l e ({ frames := 2, cells := 0, slots := 0, locals := 44 } : Room) s m args below meth c H locs 0 0 Q (F0 m 13 ls []) := by
            intro nF
            induction nF with
            | zero => intro i f9 hm; exact absurd hm (Nat.not_lt_zero _)
            | succ nF ih13 =>
              intro i f9 hm hi hf9 H locs hK hP hD hS ls hl
              refine lv_iload hx hb dX0_tellHits_13 (lv_at hl 4 rfl) ?_
              refine lv_bipush (v := 36) hx hb dX0_tellHits_15 (by decide) ?_
              refine lv_icmp_ge (tgt := 135) hx hb dX0_tellHits_17 (by decide) (fun c_102 => ?_) (fun c_102 => ?_)
              · skip
                have c_102 : 36 ≤ i := (nI_leI (a := 36) (b := i) (by omega) (by omega)).mp c_102
                refine lv_iinc (v := 6) (lv' := [(4, .int 6), (0, .ref ch), (1, .ref sc), (2, .long (lN ma)), (5, .int (nI i))]) hx hb dX0_tellHits_135 hl (k := 3) rfl (by decide) (by decide) rfl (fun ls hl => ?_)
                refine lv_goto (tgt := 3) hx hb dX0_tellHits_138 (by decide) ?_
                exact ih3 (6) (g02) (g12) (g22) (g32) (g42) (f9) (g62) (g72) (by omega) (by omega) (fun _ => hh0 (by omega)) (fun _ => hh1 (by omega)) (fun _ => hh2 (by omega)) (fun _ => hh3 (by omega)) (fun _ => hh4 (by omega)) (fun _ k0 h0 => hf9 k0 (by omega)) (fun z9 => absurd z9 (by omega)) (fun z9 => absurd z9 (by omega)) _ _ (hK.sub [0, 1, 2, 3, 4, 5, 6, 7, 8, 9] rfl) (hP.sub [0, 1, 2, 3, 4, 5, 6, 7, 8, 9, 10, 11] rfl) (hD.sub [0, 1, 2, 3, 4, 5, 6, 7, 8, 9, 10, 11] (by decide) rfl) hS ls (lv_sub hl [1, 2, 3, 0] rfl)
              · skip
                have c_102 : ¬ 36 ≤ i := fun q => c_102 ((nI_leI (a := 36) (b := i) (by omega) (by omega)).mpr q)
                refine lv_aload_n hx hb dX0_tellHits_20 rfl (lv_at hl 0 rfl) ?_
                refine va_get (D := (dC, dI)) (ci := 2) (v := .ref hO) (C := RX0) (T := TX0) (N := 5) hx hb hts kc_xTellHits_0 hown hK hP 0 rfl rfl 4 (by decide) (hts (.fieldLink RX0 22 "MistHeaps$Chances" "hits" "[[I") kc_xTellHits_1) (fun _ h9 => h9) rfl dX0_tellHits_21 ?_
                refine lv_iload hx hb dX0_tellHits_24 (lv_at hl 3 rfl) ?_
                refine va_alda hx hb hK hP 2 1 rfl rfl (vp_in_nI (n := 5) (N := 8) (by omega) (by omega)) dX0_tellHits_26 ?_
                refine qq_as (v := .ref (rh 5)) (rfl) ?_
                refine lv_iload hx hb dX0_tellHits_27 (lv_at hl 4 rfl) ?_
                refine lv_aload_n hx hb dX0_tellHits_29 rfl (lv_at hl 1 rfl) ?_
                refine va_get (D := (dC, dI)) (ci := 10) (v := .long (lN ee)) (C := RX8) (T := TX8) (N := 14) hx hb hts kc_xTellHits_2 hown hK hP 11 rfl rfl 4 (by decide) (hts (.fieldLink RX0 52 "MistHeaps$Scene" "edges" "J") kc_xTellHits_3) (fun _ h9 => h9) rfl dX0_tellHits_30 ?_
                refine lv_iload hx hb dX0_tellHits_33 (lv_at hl 4 rfl) ?_
                refine vp_callSi (va_runSN (As := [.long (lN ee), .int (nI i)]) (rest := [.int (nI i), .ref (rh 5)]) ⟨hx, hb, hml, hown, hts⟩ (c_isIn l dC dI (lN ee) (nI i)) ⟨va_cnB 2 hts ggX0_tellHits_X11_isIn rfl rfl rfl (hG.1 (.methodLinkNest RX0 44 yX11_isIn "MistHeaps") (by decide +kernel)) (hts (.initialized RX11) kc_xTellHits_4) (by decide +kernel) ⟨Nat.le_of_ble_eq_true rfl, Nat.le_of_ble_eq_true rfl⟩, (hts (.static yX11_isIn) kc_xTellHits_5), trivial⟩ ⟨fun a U g mk q => ⟨q.1, trivial⟩, fun U hU hW => ⟨rfl, trivial⟩⟩ rfl rfl hl.1 rfl (lv_room (Nat.le_of_ble_eq_true rfl)) dX0_tellHits_35 ⟨Nat.le_of_ble_eq_true rfl, Nat.le_of_ble_eq_true rfl⟩).run (fun r_103 hw_104 => ?_)
                rcases hw_104 with ⟨rfl, hd_105⟩ | ⟨rfl, hd_105⟩
                · skip
                  refine lv_if_eq (tgt := 53) hx hb dX0_tellHits_38 (by decide) (fun c_106 => absurd c_106 (by decide)) (fun _ => ?_)
                  refine lv_bipush (v := 20) hx hb dX0_tellHits_41 (by decide) ?_
                  refine lv_lload_n hx hb dX0_tellHits_43 rfl (lv_at hl 2 rfl) ?_
                  refine lv_iload hx hb dX0_tellHits_44 (lv_at hl 4 rfl) ?_
                  refine vp_callSi (va_runS (As := [.long (lN ma), .int (nI i)]) (rest := [.int 20, .int (nI i), .ref (rh 5)]) ⟨hx, hb, hml, hown, hts⟩ (c_hit l dC dI gd ma i hma (by omega)) (va_cwS 2 hts gX0_tellHits_X0_hit rfl rfl rfl hd_yX0_hit.2 ⟨Nat.le_of_ble_eq_true rfl, Nat.le_of_ble_eq_true rfl⟩) ⟨fun a U g mk q => by obtain ⟨q0, qhG⟩ := q; exact ⟨q0, qhG.mv g mk a⟩, fun U hU hW => ⟨rfl, hG.callF hS hU hW⟩⟩ rfl rfl hl.1 rfl (lv_room (Nat.le_of_ble_eq_true rfl)) dX0_tellHits_46 ⟨Nat.le_of_ble_eq_true rfl, Nat.le_of_ble_eq_true rfl⟩).run (fun r_107 hw_108 => ?_)
                  obtain rfl := hw_108
                  have hb2 := hb_2 (ma := ma) (c := i)
                  refine lv_imul hx hb dX0_tellHits_49 ?_
                  refine qi_as (y := nI (20 * (hbN ma i))) (pk_mul 20 (hbN ma i)) ?_
                  refine lv_goto (tgt := 128) hx hb dX0_tellHits_50 (by decide) ?_
                  refine va_iast hx hb hK hP hD hS 8 7 rfl rfl (vp_in_nI (n := i) (N := 36) (by omega) (by omega)) dX0_tellHits_128 (fun H locs hP hD hS => ?_)
                  rw [nI_clamp (n := i) (by omega)] at hP hD
                  have hP : va_P (dC, dI) vwCl [(zo2lirrr ch ft fr dr tO hO), (zaI dr cD 36 fD), (zaR hO cHO 8 (fun i => if i < 8 then some (rh i) else none)), (zaI (rh 0) cH 36 g02), (zaI (rh 1) cH 36 g12), (zaI (rh 2) cH 36 g22), (zaI (rh 3) cH 36 g32), (zaI (rh 4) cH 36 g42), (zaI (rh 5) cH 36 (upd f9 i (nI (20 * (hbN ma i))))), (zaI (rh 6) cH 36 g62), (zaI (rh 7) cH 36 g72), (zo10ririliiriririr sc aTp (nI ts) aHl (nI nh) (lN ee) mi sn aHs (nI n) aWk (nI wz) aBk (nI bz) aFc)] H := hP
                  have hD : va_D A [(zo2lirrr ch ft fr dr tO hO), (zaI dr cD 36 fD), (zaR hO cHO 8 (fun i => if i < 8 then some (rh i) else none)), (zaI (rh 0) cH 36 g02), (zaI (rh 1) cH 36 g12), (zaI (rh 2) cH 36 g22), (zaI (rh 3) cH 36 g32), (zaI (rh 4) cH 36 g42), (zaI (rh 5) cH 36 (upd f9 i (nI (20 * (hbN ma i))))), (zaI (rh 6) cH 36 g62), (zaI (rh 7) cH 36 g72), (zo10ririliiriririr sc aTp (nI ts) aHl (nI nh) (lN ee) mi sn aHs (nI n) aWk (nI wz) aBk (nI bz) aFc)] := hD
                  refine lv_iinc (v := nI (i + 1)) (lv' := [(5, .int (nI (i + 1))), (0, .ref ch), (1, .ref sc), (2, .long (lN ma)), (4, .int 5)]) hx hb dX0_tellHits_129 hl (k := 4) rfl (nI_add i 1) (by decide) rfl (fun ls hl => ?_)
                  refine lv_goto (tgt := 13) hx hb dX0_tellHits_132 (by decide) ?_
                  exact ih13 (i + 1) ((upd f9 i (nI (20 * (hbN ma i))))) (by omega) (by omega) (up_g (g := fun k0 => nI (htN (edB ee) drf ma 5 k0)) hf9 (congrArg nI (ht_e ((in_E hee (by omega)).mp hd_105))).symm) _ _ (hK.sub [0, 1, 2, 3, 4, 5, 6, 7, 8, 9] rfl) (hP.sub [0, 1, 2, 3, 4, 5, 6, 7, 8, 9, 10, 11] rfl) (hD.sub [0, 1, 2, 3, 4, 5, 6, 7, 8, 9, 10, 11] (by decide) rfl) hS ls (lv_sub hl [1, 2, 3, 4, 0] rfl)
                · skip
                  refine lv_if_eq (tgt := 53) hx hb dX0_tellHits_38 (by decide) (fun _ => ?_) (fun c_109 => absurd c_109 (by decide))
                  have hd5 := (hdr i (by omega)).2
                  refine lv_bipush (v := 20) hx hb dX0_tellHits_53 (by decide) ?_
                  refine lv_iconst (v := 2) hx hb dX0_tellHits_55 (by decide) ?_
                  refine lv_aload_n hx hb dX0_tellHits_56 rfl (lv_at hl 0 rfl) ?_
                  refine va_get (D := (dC, dI)) (ci := 2) (v := .ref dr) (C := RX0) (T := TX0) (N := 5) hx hb hts kc_xTellHits_0 hown hK hP 0 rfl rfl 2 (by decide) (hts (.fieldLink RX0 9 "MistHeaps$Chances" "drifts" "[I") kc_xTellHits_6) (fun _ h9 => h9) rfl dX0_tellHits_57 ?_
                  refine lv_iload hx hb dX0_tellHits_60 (lv_at hl 4 rfl) ?_
                  refine va_iald hx hb hK hP 1 0 rfl rfl (vp_in_nI (n := i) (N := 36) (by omega) (by omega)) dX0_tellHits_62 ?_
                  refine qi_as (y := nI (drf i)) ((show fD (nI i : Int32).toNatClampNeg = fD i from by rw [nI_clamp (by omega)]).trans ((hdr i (by omega)).1)) ?_
                  refine lv_imul hx hb dX0_tellHits_63 ?_
                  refine qi_as (y := nI (2 * (drf i))) (pk_mul 2 (drf i)) ?_
                  refine lv_isub hx hb dX0_tellHits_64 ?_
                  refine qi_as (y := nI (20 - (2 * (drf i)))) (pk_sub (a := 20) (b := 2 * (drf i)) (by omega)) ?_
                  refine lv_lload_n hx hb dX0_tellHits_65 rfl (lv_at hl 2 rfl) ?_
                  refine lv_iload hx hb dX0_tellHits_66 (lv_at hl 4 rfl) ?_
                  refine lv_iload hx hb dX0_tellHits_68 (lv_at hl 3 rfl) ?_
                  have hnx := nx_lt i (by omega) 5 (by omega)
                  refine vp_callSi (va_runSN (As := [.int (nI i), .int 5]) (rest := [.long (lN ma), .int (nI (20 - (2 * (drf i)))), .int (nI i), .ref (rh 5)]) ⟨hx, hb, hml, hown, hts⟩ (c_beside l dC dI gd i 5 (by omega) (by omega)) ⟨va_cnB 2 hts ggX0_tellHits_X11_besideOrSame rfl rfl rfl (hG.1 (.methodLinkNest RX0 56 yX11_besideOrSame "MistHeaps") (by decide +kernel)) (hts (.initialized RX11) kc_xTellHits_4) (by decide +kernel) ⟨Nat.le_of_ble_eq_true rfl, Nat.le_of_ble_eq_true rfl⟩, (hts (.static yX11_besideOrSame) kc_xTellHits_7), trivial⟩ ⟨fun a U g mk q => by obtain ⟨q0, qhG⟩ := q; exact ⟨q0, qhG.mv g mk a⟩, fun U hU hW => ⟨rfl, hG.callF hS hU hW⟩⟩ rfl rfl hl.1 rfl (lv_room (Nat.le_of_ble_eq_true rfl)) dX0_tellHits_70 ⟨Nat.le_of_ble_eq_true rfl, Nat.le_of_ble_eq_true rfl⟩).run (fun r_110 hw_111 => ?_)
                  obtain rfl := hw_111
                  refine vp_callSi (va_runS (As := [.long (lN ma), .int (nI (nxN i 5))]) (rest := [.int (nI (20 - (2 * (drf i)))), .int (nI i), .ref (rh 5)]) ⟨hx, hb, hml, hown, hts⟩ (c_hit l dC dI gd ma (nxN i 5) hma (by omega)) (va_cwS 2 hts gX0_tellHits_X0_hit rfl rfl rfl hd_yX0_hit.2 ⟨Nat.le_of_ble_eq_true rfl, Nat.le_of_ble_eq_true rfl⟩) ⟨fun a U g mk q => by obtain ⟨q0, qhG⟩ := q; exact ⟨q0, qhG.mv g mk a⟩, fun U hU hW => ⟨rfl, hG.callF hS hU hW⟩⟩ rfl rfl hl.1 rfl (lv_room (Nat.le_of_ble_eq_true rfl)) dX0_tellHits_73 ⟨Nat.le_of_ble_eq_true rfl, Nat.le_of_ble_eq_true rfl⟩).run (fun r_112 hw_113 => ?_)
                  obtain rfl := hw_113
                  have hb2 := hb_2 (ma := ma) (c := (nxN i 5))
                  refine lv_imul hx hb dX0_tellHits_76 ?_
                  refine qi_as (y := nI ((20 - (2 * (drf i))) * (hbN ma (nxN i 5)))) (pk_mul (20 - (2 * (drf i))) (hbN ma (nxN i 5))) ?_
                  refine lv_aload_n hx hb dX0_tellHits_77 rfl (lv_at hl 0 rfl) ?_
                  refine va_get (D := (dC, dI)) (ci := 2) (v := .ref dr) (C := RX0) (T := TX0) (N := 5) hx hb hts kc_xTellHits_0 hown hK hP 0 rfl rfl 2 (by decide) (hts (.fieldLink RX0 9 "MistHeaps$Chances" "drifts" "[I") kc_xTellHits_6) (fun _ h9 => h9) rfl dX0_tellHits_78 ?_
                  refine lv_iload hx hb dX0_tellHits_81 (lv_at hl 4 rfl) ?_
                  refine va_iald hx hb hK hP 1 0 rfl rfl (vp_in_nI (n := i) (N := 36) (by omega) (by omega)) dX0_tellHits_83 ?_
                  refine qi_as (y := nI (drf i)) ((show fD (nI i : Int32).toNatClampNeg = fD i from by rw [nI_clamp (by omega)]).trans ((hdr i (by omega)).1)) ?_
                  refine lv_lload_n hx hb dX0_tellHits_84 rfl (lv_at hl 2 rfl) ?_
                  refine lv_iload hx hb dX0_tellHits_85 (lv_at hl 4 rfl) ?_
                  refine lv_iload hx hb dX0_tellHits_87 (lv_at hl 3 rfl) ?_
                  refine lv_bipush (v := 7) hx hb dX0_tellHits_89 (by decide) ?_
                  refine lv_iadd hx hb dX0_tellHits_91 ?_
                  refine qi_as (y := 12) (by decide) ?_
                  refine lv_bipush (v := 7) hx hb dX0_tellHits_92 (by decide) ?_
                  refine lv_iand hx hb dX0_tellHits_94 ?_
                  refine qi_as (y := 4) (by decide) ?_
                  have hnx := nx_lt i (by omega) 4 (by omega)
                  refine vp_callSi (va_runSN (As := [.int (nI i), .int 4]) (rest := [.long (lN ma), .int (nI (drf i)), .int (nI ((20 - (2 * (drf i))) * (hbN ma (nxN i 5)))), .int (nI i), .ref (rh 5)]) ⟨hx, hb, hml, hown, hts⟩ (c_beside l dC dI gd i 4 (by omega) (by omega)) ⟨va_cnB 2 hts ggX0_tellHits_X11_besideOrSame rfl rfl rfl (hG.1 (.methodLinkNest RX0 56 yX11_besideOrSame "MistHeaps") (by decide +kernel)) (hts (.initialized RX11) kc_xTellHits_4) (by decide +kernel) ⟨Nat.le_of_ble_eq_true rfl, Nat.le_of_ble_eq_true rfl⟩, (hts (.static yX11_besideOrSame) kc_xTellHits_7), trivial⟩ ⟨fun a U g mk q => by obtain ⟨q0, qhG⟩ := q; exact ⟨q0, qhG.mv g mk a⟩, fun U hU hW => ⟨rfl, hG.callF hS hU hW⟩⟩ rfl rfl hl.1 rfl (lv_room (Nat.le_of_ble_eq_true rfl)) dX0_tellHits_95 ⟨Nat.le_of_ble_eq_true rfl, Nat.le_of_ble_eq_true rfl⟩).run (fun r_114 hw_115 => ?_)
                  obtain rfl := hw_115
                  refine vp_callSi (va_runS (As := [.long (lN ma), .int (nI (nxN i 4))]) (rest := [.int (nI (drf i)), .int (nI ((20 - (2 * (drf i))) * (hbN ma (nxN i 5)))), .int (nI i), .ref (rh 5)]) ⟨hx, hb, hml, hown, hts⟩ (c_hit l dC dI gd ma (nxN i 4) hma (by omega)) (va_cwS 2 hts gX0_tellHits_X0_hit rfl rfl rfl hd_yX0_hit.2 ⟨Nat.le_of_ble_eq_true rfl, Nat.le_of_ble_eq_true rfl⟩) ⟨fun a U g mk q => by obtain ⟨q0, qhG⟩ := q; exact ⟨q0, qhG.mv g mk a⟩, fun U hU hW => ⟨rfl, hG.callF hS hU hW⟩⟩ rfl rfl hl.1 rfl (lv_room (Nat.le_of_ble_eq_true rfl)) dX0_tellHits_98 ⟨Nat.le_of_ble_eq_true rfl, Nat.le_of_ble_eq_true rfl⟩).run (fun r_116 hw_117 => ?_)
                  obtain rfl := hw_117
                  have hb2 := hb_2 (ma := ma) (c := (nxN i 4))
                  refine lv_imul hx hb dX0_tellHits_101 ?_
                  refine qi_as (y := nI ((drf i) * (hbN ma (nxN i 4)))) (pk_mul (drf i) (hbN ma (nxN i 4))) ?_
                  refine lv_iadd hx hb dX0_tellHits_102 ?_
                  refine qi_as (y := nI (((20 - (2 * (drf i))) * (hbN ma (nxN i 5))) + ((drf i) * (hbN ma (nxN i 4))))) (nI_add ((20 - (2 * (drf i))) * (hbN ma (nxN i 5))) ((drf i) * (hbN ma (nxN i 4)))) ?_
                  refine lv_aload_n hx hb dX0_tellHits_103 rfl (lv_at hl 0 rfl) ?_
                  refine va_get (D := (dC, dI)) (ci := 2) (v := .ref dr) (C := RX0) (T := TX0) (N := 5) hx hb hts kc_xTellHits_0 hown hK hP 0 rfl rfl 2 (by decide) (hts (.fieldLink RX0 9 "MistHeaps$Chances" "drifts" "[I") kc_xTellHits_6) (fun _ h9 => h9) rfl dX0_tellHits_104 ?_
                  refine lv_iload hx hb dX0_tellHits_107 (lv_at hl 4 rfl) ?_
                  refine va_iald hx hb hK hP 1 0 rfl rfl (vp_in_nI (n := i) (N := 36) (by omega) (by omega)) dX0_tellHits_109 ?_
                  refine qi_as (y := nI (drf i)) ((show fD (nI i : Int32).toNatClampNeg = fD i from by rw [nI_clamp (by omega)]).trans ((hdr i (by omega)).1)) ?_
                  refine lv_lload_n hx hb dX0_tellHits_110 rfl (lv_at hl 2 rfl) ?_
                  refine lv_iload hx hb dX0_tellHits_111 (lv_at hl 4 rfl) ?_
                  refine lv_iload hx hb dX0_tellHits_113 (lv_at hl 3 rfl) ?_
                  refine lv_iconst (v := 1) hx hb dX0_tellHits_115 (by decide) ?_
                  refine lv_iadd hx hb dX0_tellHits_116 ?_
                  refine qi_as (y := 6) (by decide) ?_
                  refine lv_bipush (v := 7) hx hb dX0_tellHits_117 (by decide) ?_
                  refine lv_iand hx hb dX0_tellHits_119 ?_
                  refine qi_as (y := 6) (by decide) ?_
                  have hnx := nx_lt i (by omega) 6 (by omega)
                  refine vp_callSi (va_runSN (As := [.int (nI i), .int 6]) (rest := [.long (lN ma), .int (nI (drf i)), .int (nI (((20 - (2 * (drf i))) * (hbN ma (nxN i 5))) + ((drf i) * (hbN ma (nxN i 4))))), .int (nI i), .ref (rh 5)]) ⟨hx, hb, hml, hown, hts⟩ (c_beside l dC dI gd i 6 (by omega) (by omega)) ⟨va_cnB 2 hts ggX0_tellHits_X11_besideOrSame rfl rfl rfl (hG.1 (.methodLinkNest RX0 56 yX11_besideOrSame "MistHeaps") (by decide +kernel)) (hts (.initialized RX11) kc_xTellHits_4) (by decide +kernel) ⟨Nat.le_of_ble_eq_true rfl, Nat.le_of_ble_eq_true rfl⟩, (hts (.static yX11_besideOrSame) kc_xTellHits_7), trivial⟩ ⟨fun a U g mk q => by obtain ⟨q0, qhG⟩ := q; exact ⟨q0, qhG.mv g mk a⟩, fun U hU hW => ⟨rfl, hG.callF hS hU hW⟩⟩ rfl rfl hl.1 rfl (lv_room (Nat.le_of_ble_eq_true rfl)) dX0_tellHits_120 ⟨Nat.le_of_ble_eq_true rfl, Nat.le_of_ble_eq_true rfl⟩).run (fun r_118 hw_119 => ?_)
                  obtain rfl := hw_119
                  refine vp_callSi (va_runS (As := [.long (lN ma), .int (nI (nxN i 6))]) (rest := [.int (nI (drf i)), .int (nI (((20 - (2 * (drf i))) * (hbN ma (nxN i 5))) + ((drf i) * (hbN ma (nxN i 4))))), .int (nI i), .ref (rh 5)]) ⟨hx, hb, hml, hown, hts⟩ (c_hit l dC dI gd ma (nxN i 6) hma (by omega)) (va_cwS 2 hts gX0_tellHits_X0_hit rfl rfl rfl hd_yX0_hit.2 ⟨Nat.le_of_ble_eq_true rfl, Nat.le_of_ble_eq_true rfl⟩) ⟨fun a U g mk q => by obtain ⟨q0, qhG⟩ := q; exact ⟨q0, qhG.mv g mk a⟩, fun U hU hW => ⟨rfl, hG.callF hS hU hW⟩⟩ rfl rfl hl.1 rfl (lv_room (Nat.le_of_ble_eq_true rfl)) dX0_tellHits_123 ⟨Nat.le_of_ble_eq_true rfl, Nat.le_of_ble_eq_true rfl⟩).run (fun r_120 hw_121 => ?_)
                  obtain rfl := hw_121
                  have hb2 := hb_2 (ma := ma) (c := (nxN i 6))
                  refine lv_imul hx hb dX0_tellHits_126 ?_
                  refine qi_as (y := nI ((drf i) * (hbN ma (nxN i 6)))) (pk_mul (drf i) (hbN ma (nxN i 6))) ?_
                  refine lv_iadd hx hb dX0_tellHits_127 ?_
                  refine qi_as (y := nI ((((20 - (2 * (drf i))) * (hbN ma (nxN i 5))) + ((drf i) * (hbN ma (nxN i 4)))) + ((drf i) * (hbN ma (nxN i 6))))) (nI_add (((20 - (2 * (drf i))) * (hbN ma (nxN i 5))) + ((drf i) * (hbN ma (nxN i 4)))) ((drf i) * (hbN ma (nxN i 6)))) ?_
                  refine va_iast hx hb hK hP hD hS 8 7 rfl rfl (vp_in_nI (n := i) (N := 36) (by omega) (by omega)) dX0_tellHits_128 (fun H locs hP hD hS => ?_)
                  rw [nI_clamp (n := i) (by omega)] at hP hD
                  have hP : va_P (dC, dI) vwCl [(zo2lirrr ch ft fr dr tO hO), (zaI dr cD 36 fD), (zaR hO cHO 8 (fun i => if i < 8 then some (rh i) else none)), (zaI (rh 0) cH 36 g02), (zaI (rh 1) cH 36 g12), (zaI (rh 2) cH 36 g22), (zaI (rh 3) cH 36 g32), (zaI (rh 4) cH 36 g42), (zaI (rh 5) cH 36 (upd f9 i (nI ((((20 - (2 * (drf i))) * (hbN ma (nxN i 5))) + ((drf i) * (hbN ma (nxN i 4)))) + ((drf i) * (hbN ma (nxN i 6))))))), (zaI (rh 6) cH 36 g62), (zaI (rh 7) cH 36 g72), (zo10ririliiriririr sc aTp (nI ts) aHl (nI nh) (lN ee) mi sn aHs (nI n) aWk (nI wz) aBk (nI bz) aFc)] H := hP
                  have hD : va_D A [(zo2lirrr ch ft fr dr tO hO), (zaI dr cD 36 fD), (zaR hO cHO 8 (fun i => if i < 8 then some (rh i) else none)), (zaI (rh 0) cH 36 g02), (zaI (rh 1) cH 36 g12), (zaI (rh 2) cH 36 g22), (zaI (rh 3) cH 36 g32), (zaI (rh 4) cH 36 g42), (zaI (rh 5) cH 36 (upd f9 i (nI ((((20 - (2 * (drf i))) * (hbN ma (nxN i 5))) + ((drf i) * (hbN ma (nxN i 4)))) + ((drf i) * (hbN ma (nxN i 6))))))), (zaI (rh 6) cH 36 g62), (zaI (rh 7) cH 36 g72), (zo10ririliiriririr sc aTp (nI ts) aHl (nI nh) (lN ee) mi sn aHs (nI n) aWk (nI wz) aBk (nI bz) aFc)] := hD
                  refine lv_iinc (v := nI (i + 1)) (lv' := [(5, .int (nI (i + 1))), (0, .ref ch), (1, .ref sc), (2, .long (lN ma)), (4, .int 5)]) hx hb dX0_tellHits_129 hl (k := 4) rfl (nI_add i 1) (by decide) rfl (fun ls hl => ?_)
                  refine lv_goto (tgt := 13) hx hb dX0_tellHits_132 (by decide) ?_
                  exact ih13 (i + 1) ((upd f9 i (nI ((((20 - (2 * (drf i))) * (hbN ma (nxN i 5))) + ((drf i) * (hbN ma (nxN i 4)))) + ((drf i) * (hbN ma (nxN i 6))))))) (by omega) (by omega) (up_g (g := fun k0 => nI (htN (edB ee) drf ma 5 k0)) hf9 (congrArg nI (ht_n (fun z9 => hd_105 ((in_E hee (by omega)).mpr z9)))).symm) _ _ (hK.sub [0, 1, 2, 3, 4, 5, 6, 7, 8, 9] rfl) (hP.sub [0, 1, 2, 3, 4, 5, 6, 7, 8, 9, 10, 11] rfl) (hD.sub [0, 1, 2, 3, 4, 5, 6, 7, 8, 9, 10, 11] (by decide) rfl) hS ls (lv_sub hl [1, 2, 3, 4, 0] rfl)
          exact L13 _ (0) (g52) (Nat.lt_succ_self _) (by omega) (fun k0 h0 => absurd h0 (Nat.not_lt_zero k0)) _ _ (hK.sub [0, 1, 2, 3, 4, 5, 6, 7, 8, 9] rfl) (hP.sub [0, 1, 2, 3, 4, 5, 6, 7, 8, 9, 10, 11] rfl) (hD.sub [0, 1, 2, 3, 4, 5, 6, 7, 8, 9, 10, 11] (by decide) rfl) hS ls (lv_sub hl [1, 2, 3, 4, 0] rfl)
        · skip
          refine lv_iconst (v := 0) hx hb dX0_tellHits_10 (by decide) ?_
          refine lv_istore (lv' := [(5, .int 0), (0, .ref ch), (1, .ref sc), (2, .long (lN ma)), (4, .int 6)]) hx hb dX0_tellHits_11 hl (by decide) rfl (fun ls hl => ?_)
          have L13 : ∀ (nF : Nat) (i : Nat) (f9 : Nat → Int32), 36 - i < nF → (i ≤ 36) → (∀ k0, k0 < i → f9 k0 = nI (htN (edB ee) drf ma 6 k0)) → ∀ (H : Heap) (locs : List Loc), va_K (dC, dI) vwCl [(cD, .int), (cHO, .array .int), (cH, .int), (cH, .int), (cH, .int), (cH, .int), (cH, .int), (cH, .int), (cH, .int), (cH, .int)] s → va_P (dC, dI) vwCl [(zo2lirrr ch ft fr dr tO hO), (zaI dr cD 36 fD), (zaR hO cHO 8 (fun i => if i < 8 then some (rh i) else none)), (zaI (rh 0) cH 36 g02), (zaI (rh 1) cH 36 g12), (zaI (rh 2) cH 36 g22), (zaI (rh 3) cH 36 g32), (zaI (rh 4) cH 36 g42), (zaI (rh 5) cH 36 g52), (zaI (rh 6) cH 36 f9), (zaI (rh 7) cH 36 g72), (zo10ririliiriririr sc aTp (nI ts) aHl (nI nh) (lN ee) mi sn aHs (nI n) aWk (nI wz) aBk (nI bz) aFc)] H → va_D A [(zo2lirrr ch ft fr dr tO hO), (zaI dr cD 36 fD), (zaR hO cHO 8 (fun i => if i < 8 then some (rh i) else none)), (zaI (rh 0) cH 36 g02), (zaI (rh 1) cH 36 g12), (zaI (rh 2) cH 36 g22), (zaI (rh 3) cH 36 g32), (zaI (rh 4) cH 36 g42), (zaI (rh 5) cH 36 g52), (zaI (rh 6) cH 36 f9), (zaI (rh 7) cH 36 g72), (zo10ririliiriririr sc aTp (nI ts) aHl (nI nh) (lN ee) mi sn aHs (nI n) aWk (nI wz) aBk (nI bz) aFc)] → va_S A s.heap H locs → ∀ (ls : Array Slot), lv_has ls 6 [(0, .ref ch), (1, .ref sc), (2, .long (lN ma)), (4, .int 6), (5, .int (nI i))] → W p l e ({ frames := 2, cells := 0, slots := 0, locals := 44 } : Room) s m args below meth c H locs 0 0 Q (F0 m 13 ls []) := by
            intro nF
            induction nF with
            | zero => intro i f9 hm; exact absurd hm (Nat.not_lt_zero _)
            | succ nF ih13 =>
              intro i f9 hm hi hf9 H locs hK hP hD hS ls hl
              refine lv_iload hx hb dX0_tellHits_13 (lv_at hl 4 rfl) ?_
              refine lv_bipush (v := 36) hx hb dX0_tellHits_15 (by decide) ?_
              refine lv_icmp_ge (tgt := 135) hx hb dX0_tellHits_17 (by decide) (fun c_122 => ?_) (fun c_122 => ?_)
              · skip
                have c_122 : 36 ≤ i := (nI_leI (a := 36) (b := i) (by omega) (by omega)).mp c_122
                refine lv_iinc (v := 7) (lv' := [(4, .int 7), (0, .ref ch), (1, .ref sc), (2, .long (lN ma)), (5, .int (nI i))]) hx hb dX0_tellHits_135 hl (k := 3) rfl (by decide) (by decide) rfl (fun ls hl => ?_)
                refine lv_goto (tgt := 3) hx hb dX0_tellHits_138 (by decide) ?_
                exact ih3 (7) (g02) (g12) (g22) (g32) (g42) (g52) (f9) (g72) (by omega) (by omega) (fun _ => hh0 (by omega)) (fun _ => hh1 (by omega)) (fun _ => hh2 (by omega)) (fun _ => hh3 (by omega)) (fun _ => hh4 (by omega)) (fun _ => hh5 (by omega)) (fun _ k0 h0 => hf9 k0 (by omega)) (fun z9 => absurd z9 (by omega)) _ _ (hK.sub [0, 1, 2, 3, 4, 5, 6, 7, 8, 9] rfl) (hP.sub [0, 1, 2, 3, 4, 5, 6, 7, 8, 9, 10, 11] rfl) (hD.sub [0, 1, 2, 3, 4, 5, 6, 7, 8, 9, 10, 11] (by decide) rfl) hS ls (lv_sub hl [1, 2, 3, 0] rfl)
              · skip
                have c_122 : ¬ 36 ≤ i := fun q => c_122 ((nI_leI (a := 36) (b := i) (by omega) (by omega)).mpr q)
                refine lv_aload_n hx hb dX0_tellHits_20 rfl (lv_at hl 0 rfl) ?_
                refine va_get (D := (dC, dI)) (ci := 2) (v := .ref hO) (C := RX0) (T := TX0) (N := 5) hx hb hts kc_xTellHits_0 hown hK hP 0 rfl rfl 4 (by decide) (hts (.fieldLink RX0 22 "MistHeaps$Chances" "hits" "[[I") kc_xTellHits_1) (fun _ h9 => h9) rfl dX0_tellHits_21 ?_
                refine lv_iload hx hb dX0_tellHits_24 (lv_at hl 3 rfl) ?_
                refine va_alda hx hb hK hP 2 1 rfl rfl (vp_in_nI (n := 6) (N := 8) (by omega) (by omega)) dX0_tellHits_26 ?_
                refine qq_as (v := .ref (rh 6)) (rfl) ?_
                refine lv_iload hx hb dX0_tellHits_27 (lv_at hl 4 rfl) ?_
                refine lv_aload_n hx hb dX0_tellHits_29 rfl (lv_at hl 1 rfl) ?_
                refine va_get (D := (dC, dI)) (ci := 10) (v := .long (lN ee)) (C := RX8) (T := TX8) (N := 14) hx hb hts kc_xTellHits_2 hown hK hP 11 rfl rfl 4 (by decide) (hts (.fieldLink RX0 52 "MistHeaps$Scene" "edges" "J") kc_xTellHits_3) (fun _ h9 => h9) rfl dX0_tellHits_30 ?_
                refine lv_iload hx hb dX0_tellHits_33 (lv_at hl 4 rfl) ?_
                refine vp_callSi (va_runSN (As := [.long (lN ee), .int (nI i)]) (rest := [.int (nI i), .ref (rh 6)]) ⟨hx, hb, hml, hown, hts⟩ (c_isIn l dC dI (lN ee) (nI i)) ⟨va_cnB 2 hts ggX0_tellHits_X11_isIn rfl rfl rfl (hG.1 (.methodLinkNest RX0 44 yX11_isIn "MistHeaps") (by decide +kernel)) (hts (.initialized RX11) kc_xTellHits_4) (by decide +kernel) ⟨Nat.le_of_ble_eq_true rfl, Nat.le_of_ble_eq_true rfl⟩, (hts (.static yX11_isIn) kc_xTellHits_5), trivial⟩ ⟨fun a U g mk q => ⟨q.1, trivial⟩, fun U hU hW => ⟨rfl, trivial⟩⟩ rfl rfl hl.1 rfl (lv_room (Nat.le_of_ble_eq_true rfl)) dX0_tellHits_35 ⟨Nat.le_of_ble_eq_true rfl, Nat.le_of_ble_eq_true rfl⟩).run (fun r_123 hw_124 => ?_)
                rcases hw_124 with ⟨rfl, hd_125⟩ | ⟨rfl, hd_125⟩
                · skip
                  refine lv_if_eq (tgt := 53) hx hb dX0_tellHits_38 (by decide) (fun c_126 => absurd c_126 (by decide)) (fun _ => ?_)
                  refine lv_bipush (v := 20) hx hb dX0_tellHits_41 (by decide) ?_
                  refine lv_lload_n hx hb dX0_tellHits_43 rfl (lv_at hl 2 rfl) ?_
                  refine lv_iload hx hb dX0_tellHits_44 (lv_at hl 4 rfl) ?_
                  refine vp_callSi (va_runS (As := [.long (lN ma), .int (nI i)]) (rest := [.int 20, .int (nI i), .ref (rh 6)]) ⟨hx, hb, hml, hown, hts⟩ (c_hit l dC dI gd ma i hma (by omega)) (va_cwS 2 hts gX0_tellHits_X0_hit rfl rfl rfl hd_yX0_hit.2 ⟨Nat.le_of_ble_eq_true rfl, Nat.le_of_ble_eq_true rfl⟩) ⟨fun a U g mk q => by obtain ⟨q0, qhG⟩ := q; exact ⟨q0, qhG.mv g mk a⟩, fun U hU hW => ⟨rfl, hG.callF hS hU hW⟩⟩ rfl rfl hl.1 rfl (lv_room (Nat.le_of_ble_eq_true rfl)) dX0_tellHits_46 ⟨Nat.le_of_ble_eq_true rfl, Nat.le_of_ble_eq_true rfl⟩).run (fun r_127 hw_128 => ?_)
                  obtain rfl := hw_128
                  have hb2 := hb_2 (ma := ma) (c := i)
                  refine lv_imul hx hb dX0_tellHits_49 ?_
                  refine qi_as (y := nI (20 * (hbN ma i))) (pk_mul 20 (hbN ma i)) ?_
                  refine lv_goto (tgt := 128) hx hb dX0_tellHits_50 (by decide) ?_
                  refine va_iast hx hb hK hP hD hS 9 8 rfl rfl (vp_in_nI (n := i) (N := 36) (by omega) (by omega)) dX0_tellHits_128 (fun H locs hP hD hS => ?_)
                  rw [nI_clamp (n := i) (by omega)] at hP hD
                  have hP : va_P (dC, dI) vwCl [(zo2lirrr ch ft fr dr tO hO), (zaI dr cD 36 fD), (zaR hO cHO 8 (fun i => if i < 8 then some (rh i) else none)), (zaI (rh 0) cH 36 g02), (zaI (rh 1) cH 36 g12), (zaI (rh 2) cH 36 g22), (zaI (rh 3) cH 36 g32), (zaI (rh 4) cH 36 g42), (zaI (rh 5) cH 36 g52), (zaI (rh 6) cH 36 (upd f9 i (nI (20 * (hbN ma i))))), (zaI (rh 7) cH 36 g72), (zo10ririliiriririr sc aTp (nI ts) aHl (nI nh) (lN ee) mi sn aHs (nI n) aWk (nI wz) aBk (nI bz) aFc)] H := hP
                  have hD : va_D A [(zo2lirrr ch ft fr dr tO hO), (zaI dr cD 36 fD), (zaR hO cHO 8 (fun i => if i < 8 then some (rh i) else none)), (zaI (rh 0) cH 36 g02), (zaI (rh 1) cH 36 g12), (zaI (rh 2) cH 36 g22), (zaI (rh 3) cH 36 g32), (zaI (rh 4) cH 36 g42), (zaI (rh 5) cH 36 g52), (zaI (rh 6) cH 36 (upd f9 i (nI (20 * (hbN ma i))))), (zaI (rh 7) cH 36 g72), (zo10ririliiriririr sc aTp (nI ts) aHl (nI nh) (lN ee) mi sn aHs (nI n) aWk (nI wz) aBk (nI bz) aFc)] := hD
                  refine lv_iinc (v := nI (i + 1)) (lv' := [(5, .int (nI (i + 1))), (0, .ref ch), (1, .ref sc), (2, .long (lN ma)), (4, .int 6)]) hx hb dX0_tellHits_129 hl (k := 4) rfl (nI_add i 1) (by decide) rfl (fun ls hl => ?_)
                  refine lv_goto (tgt := 13) hx hb dX0_tellHits_132 (by decide) ?_
                  exact ih13 (i + 1) ((upd f9 i (nI (20 * (hbN ma i))))) (by omega) (by omega) (up_g (g := fun k0 => nI (htN (edB ee) drf ma 6 k0)) hf9 (congrArg nI (ht_e ((in_E hee (by omega)).mp hd_125))).symm) _ _ (hK.sub [0, 1, 2, 3, 4, 5, 6, 7, 8, 9] rfl) (hP.sub [0, 1, 2, 3, 4, 5, 6, 7, 8, 9, 10, 11] rfl) (hD.sub [0, 1, 2, 3, 4, 5, 6, 7, 8, 9, 10, 11] (by decide) rfl) hS ls (lv_sub hl [1, 2, 3, 4, 0] rfl)
                · skip
                  refine lv_if_eq (tgt := 53) hx hb dX0_tellHits_38 (by decide) (fun _ => ?_) (fun c_129 => absurd c_129 (by decide))
                  have hd5 := (hdr i (by omega)).2
                  refine lv_bipush (v := 20) hx hb dX0_tellHits_53 (by decide) ?_
                  refine lv_iconst (v := 2) hx hb dX0_tellHits_55 (by decide) ?_
                  refine lv_aload_n hx hb dX0_tellHits_56 rfl (lv_at hl 0 rfl) ?_
                  refine va_get (D := (dC, dI)) (ci := 2) (v := .ref dr) (C := RX0) (T := TX0) (N := 5) hx hb hts kc_xTellHits_0 hown hK hP 0 rfl rfl 2 (by decide) (hts (.fieldLink RX0 9 "MistHeaps$Chances" "drifts" "[I") kc_xTellHits_6) (fun _ h9 => h9) rfl dX0_tellHits_57 ?_
                  refine lv_iload hx hb dX0_tellHits_60 (lv_at hl 4 rfl) ?_
                  refine va_iald hx hb hK hP 1 0 rfl rfl (vp_in_nI (n := i) (N := 36) (by omega) (by omega)) dX0_tellHits_62 ?_
                  refine qi_as (y := nI (drf i)) ((show fD (nI i : Int32).toNatClampNeg = fD i from by rw [nI_clamp (by omega)]).trans ((hdr i (by omega)).1)) ?_
                  refine lv_imul hx hb dX0_tellHits_63 ?_
                  refine qi_as (y := nI (2 * (drf i))) (pk_mul 2 (drf i)) ?_
                  refine lv_isub hx hb dX0_tellHits_64 ?_
                  refine qi_as (y := nI (20 - (2 * (drf i)))) (pk_sub (a := 20) (b := 2 * (drf i)) (by omega)) ?_
                  refine lv_lload_n hx hb dX0_tellHits_65 rfl (lv_at hl 2 rfl) ?_
                  refine lv_iload hx hb dX0_tellHits_66 (lv_at hl 4 rfl) ?_
                  refine lv_iload hx hb dX0_tellHits_68 (lv_at hl 3 rfl) ?_
                  have hnx := nx_lt i (by omega) 6 (by omega)
                  refine vp_callSi (va_runSN (As := [.int (nI i), .int 6]) (rest := [.long (lN ma), .int (nI (20 - (2 * (drf i)))), .int (nI i), .ref (rh 6)]) ⟨hx, hb, hml, hown, hts⟩ (c_beside l dC dI gd i 6 (by omega) (by omega)) ⟨va_cnB 2 hts ggX0_tellHits_X11_besideOrSame rfl rfl rfl (hG.1 (.methodLinkNest RX0 56 yX11_besideOrSame "MistHeaps") (by decide +kernel)) (hts (.initialized RX11) kc_xTellHits_4) (by decide +kernel) ⟨Nat.le_of_ble_eq_true rfl, Nat.le_of_ble_eq_true rfl⟩, (hts (.static yX11_besideOrSame) kc_xTellHits_7), trivial⟩ ⟨fun a U g mk q => by obtain ⟨q0, qhG⟩ := q; exact ⟨q0, qhG.mv g mk a⟩, fun U hU hW => ⟨rfl, hG.callF hS hU hW⟩⟩ rfl rfl hl.1 rfl (lv_room (Nat.le_of_ble_eq_true rfl)) dX0_tellHits_70 ⟨Nat.le_of_ble_eq_true rfl, Nat.le_of_ble_eq_true rfl⟩).run (fun r_130 hw_131 => ?_)
                  obtain rfl := hw_131
                  refine vp_callSi (va_runS (As := [.long (lN ma), .int (nI (nxN i 6))]) (rest := [.int (nI (20 - (2 * (drf i)))), .int (nI i), .ref (rh 6)]) ⟨hx, hb, hml, hown, hts⟩ (c_hit l dC dI gd ma (nxN i 6) hma (by omega)) (va_cwS 2 hts gX0_tellHits_X0_hit rfl rfl rfl hd_yX0_hit.2 ⟨Nat.le_of_ble_eq_true rfl, Nat.le_of_ble_eq_true rfl⟩) ⟨fun a U g mk q => by obtain ⟨q0, qhG⟩ := q; exact ⟨q0, qhG.mv g mk a⟩, fun U hU hW => ⟨rfl, hG.callF hS hU hW⟩⟩ rfl rfl hl.1 rfl (lv_room (Nat.le_of_ble_eq_true rfl)) dX0_tellHits_73 ⟨Nat.le_of_ble_eq_true rfl, Nat.le_of_ble_eq_true rfl⟩).run (fun r_132 hw_133 => ?_)
                  obtain rfl := hw_133
                  have hb2 := hb_2 (ma := ma) (c := (nxN i 6))
                  refine lv_imul hx hb dX0_tellHits_76 ?_
                  refine qi_as (y := nI ((20 - (2 * (drf i))) * (hbN ma (nxN i 6)))) (pk_mul (20 - (2 * (drf i))) (hbN ma (nxN i 6))) ?_
                  refine lv_aload_n hx hb dX0_tellHits_77 rfl (lv_at hl 0 rfl) ?_
                  refine va_get (D := (dC, dI)) (ci := 2) (v := .ref dr) (C := RX0) (T := TX0) (N := 5) hx hb hts kc_xTellHits_0 hown hK hP 0 rfl rfl 2 (by decide) (hts (.fieldLink RX0 9 "MistHeaps$Chances" "drifts" "[I") kc_xTellHits_6) (fun _ h9 => h9) rfl dX0_tellHits_78 ?_
                  refine lv_iload hx hb dX0_tellHits_81 (lv_at hl 4 rfl) ?_
                  refine va_iald hx hb hK hP 1 0 rfl rfl (vp_in_nI (n := i) (N := 36) (by omega) (by omega)) dX0_tellHits_83 ?_
                  refine qi_as (y := nI (drf i)) ((show fD (nI i : Int32).toNatClampNeg = fD i from by rw [nI_clamp (by omega)]).trans ((hdr i (by omega)).1)) ?_
                  refine lv_lload_n hx hb dX0_tellHits_84 rfl (lv_at hl 2 rfl) ?_
                  refine lv_iload hx hb dX0_tellHits_85 (lv_at hl 4 rfl) ?_
                  refine lv_iload hx hb dX0_tellHits_87 (lv_at hl 3 rfl) ?_
                  refine lv_bipush (v := 7) hx hb dX0_tellHits_89 (by decide) ?_
                  refine lv_iadd hx hb dX0_tellHits_91 ?_
                  refine qi_as (y := 13) (by decide) ?_
                  refine lv_bipush (v := 7) hx hb dX0_tellHits_92 (by decide) ?_
                  refine lv_iand hx hb dX0_tellHits_94 ?_
                  refine qi_as (y := 5) (by decide) ?_
                  have hnx := nx_lt i (by omega) 5 (by omega)
                  refine vp_callSi (va_runSN (As := [.int (nI i), .int 5]) (rest := [.long (lN ma), .int (nI (drf i)), .int (nI ((20 - (2 * (drf i))) * (hbN ma (nxN i 6)))), .int (nI i), .ref (rh 6)]) ⟨hx, hb, hml, hown, hts⟩ (c_beside l dC dI gd i 5 (by omega) (by omega)) ⟨va_cnB 2 hts ggX0_tellHits_X11_besideOrSame rfl rfl rfl (hG.1 (.methodLinkNest RX0 56 yX11_besideOrSame "MistHeaps") (by decide +kernel)) (hts (.initialized RX11) kc_xTellHits_4) (by decide +kernel) ⟨Nat.le_of_ble_eq_true rfl, Nat.le_of_ble_eq_true rfl⟩, (hts (.static yX11_besideOrSame) kc_xTellHits_7), trivial⟩ ⟨fun a U g mk q => by obtain ⟨q0, qhG⟩ := q; exact ⟨q0, qhG.mv g mk a⟩, fun U hU hW => ⟨rfl, hG.callF hS hU hW⟩⟩ rfl rfl hl.1 rfl (lv_room (Nat.le_of_ble_eq_true rfl)) dX0_tellHits_95 ⟨Nat.le_of_ble_eq_true rfl, Nat.le_of_ble_eq_true rfl⟩).run (fun r_134 hw_135 => ?_)
                  obtain rfl := hw_135
                  refine vp_callSi (va_runS (As := [.long (lN ma), .int (nI (nxN i 5))]) (rest := [.int (nI (drf i)), .int (nI ((20 - (2 * (drf i))) * (hbN ma (nxN i 6)))), .int (nI i), .ref (rh 6)]) ⟨hx, hb, hml, hown, hts⟩ (c_hit l dC dI gd ma (nxN i 5) hma (by omega)) (va_cwS 2 hts gX0_tellHits_X0_hit rfl rfl rfl hd_yX0_hit.2 ⟨Nat.le_of_ble_eq_true rfl, Nat.le_of_ble_eq_true rfl⟩) ⟨fun a U g mk q => by obtain ⟨q0, qhG⟩ := q; exact ⟨q0, qhG.mv g mk a⟩, fun U hU hW => ⟨rfl, hG.callF hS hU hW⟩⟩ rfl rfl hl.1 rfl (lv_room (Nat.le_of_ble_eq_true rfl)) dX0_tellHits_98 ⟨Nat.le_of_ble_eq_true rfl, Nat.le_of_ble_eq_true rfl⟩).run (fun r_136 hw_137 => ?_)
                  obtain rfl := hw_137
                  have hb2 := hb_2 (ma := ma) (c := (nxN i 5))
                  refine lv_imul hx hb dX0_tellHits_101 ?_
                  refine qi_as (y := nI ((drf i) * (hbN ma (nxN i 5)))) (pk_mul (drf i) (hbN ma (nxN i 5))) ?_
                  refine lv_iadd hx hb dX0_tellHits_102 ?_
                  refine qi_as (y := nI (((20 - (2 * (drf i))) * (hbN ma (nxN i 6))) + ((drf i) * (hbN ma (nxN i 5))))) (nI_add ((20 - (2 * (drf i))) * (hbN ma (nxN i 6))) ((drf i) * (hbN ma (nxN i 5)))) ?_
                  refine lv_aload_n hx hb dX0_tellHits_103 rfl (lv_at hl 0 rfl) ?_
                  refine va_get (D := (dC, dI)) (ci := 2) (v := .ref dr) (C := RX0) (T := TX0) (N := 5) hx hb hts kc_xTellHits_0 hown hK hP 0 rfl rfl 2 (by decide) (hts (.fieldLink RX0 9 "MistHeaps$Chances" "drifts" "[I") kc_xTellHits_6) (fun _ h9 => h9) rfl dX0_tellHits_104 ?_
                  refine lv_iload hx hb dX0_tellHits_107 (lv_at hl 4 rfl) ?_
                  refine va_iald hx hb hK hP 1 0 rfl rfl (vp_in_nI (n := i) (N := 36) (by omega) (by omega)) dX0_tellHits_109 ?_
                  refine qi_as (y := nI (drf i)) ((show fD (nI i : Int32).toNatClampNeg = fD i from by rw [nI_clamp (by omega)]).trans ((hdr i (by omega)).1)) ?_
                  refine lv_lload_n hx hb dX0_tellHits_110 rfl (lv_at hl 2 rfl) ?_
                  refine lv_iload hx hb dX0_tellHits_111 (lv_at hl 4 rfl) ?_
                  refine lv_iload hx hb dX0_tellHits_113 (lv_at hl 3 rfl) ?_
                  refine lv_iconst (v := 1) hx hb dX0_tellHits_115 (by decide) ?_
                  refine lv_iadd hx hb dX0_tellHits_116 ?_
                  refine qi_as (y := 7) (by decide) ?_
                  refine lv_bipush (v := 7) hx hb dX0_tellHits_117 (by decide) ?_
                  refine lv_iand hx hb dX0_tellHits_119 ?_
                  refine qi_as (y := 7) (by decide) ?_
                  have hnx := nx_lt i (by omega) 7 (by omega)
                  refine vp_callSi (va_runSN (As := [.int (nI i), .int 7]) (rest := [.long (lN ma), .int (nI (drf i)), .int (nI (((20 - (2 * (drf i))) * (hbN ma (nxN i 6))) + ((drf i) * (hbN ma (nxN i 5))))), .int (nI i), .ref (rh 6)]) ⟨hx, hb, hml, hown, hts⟩ (c_beside l dC dI gd i 7 (by omega) (by omega)) ⟨va_cnB 2 hts ggX0_tellHits_X11_besideOrSame rfl rfl rfl (hG.1 (.methodLinkNest RX0 56 yX11_besideOrSame "MistHeaps") (by decide +kernel)) (hts (.initialized RX11) kc_xTellHits_4) (by decide +kernel) ⟨Nat.le_of_ble_eq_true rfl, Nat.le_of_ble_eq_true rfl⟩, (hts (.static yX11_besideOrSame) kc_xTellHits_7), trivial⟩ ⟨fun a U g mk q => by obtain ⟨q0, qhG⟩ := q; exact ⟨q0, qhG.mv g mk a⟩, fun U hU hW => ⟨rfl, hG.callF hS hU hW⟩⟩ rfl rfl hl.1 rfl (lv_room (Nat.le_of_ble_eq_true rfl)) dX0_tellHits_120 ⟨Nat.le_of_ble_eq_true rfl, Nat.le_of_ble_eq_true rfl⟩).run (fun r_138 hw_139 => ?_)
                  obtain rfl := hw_139
                  refine vp_callSi (va_runS (As := [.long (lN ma), .int (nI (nxN i 7))]) (rest := [.int (nI (drf i)), .int (nI (((20 - (2 * (drf i))) * (hbN ma (nxN i 6))) + ((drf i) * (hbN ma (nxN i 5))))), .int (nI i), .ref (rh 6)]) ⟨hx, hb, hml, hown, hts⟩ (c_hit l dC dI gd ma (nxN i 7) hma (by omega)) (va_cwS 2 hts gX0_tellHits_X0_hit rfl rfl rfl hd_yX0_hit.2 ⟨Nat.le_of_ble_eq_true rfl, Nat.le_of_ble_eq_true rfl⟩) ⟨fun a U g mk q => by obtain ⟨q0, qhG⟩ := q; exact ⟨q0, qhG.mv g mk a⟩, fun U hU hW => ⟨rfl, hG.callF hS hU hW⟩⟩ rfl rfl hl.1 rfl (lv_room (Nat.le_of_ble_eq_true rfl)) dX0_tellHits_123 ⟨Nat.le_of_ble_eq_true rfl, Nat.le_of_ble_eq_true rfl⟩).run (fun r_140 hw_141 => ?_)
                  obtain rfl := hw_141
                  have hb2 := hb_2 (ma := ma) (c := (nxN i 7))
                  refine lv_imul hx hb dX0_tellHits_126 ?_
                  refine qi_as (y := nI ((drf i) * (hbN ma (nxN i 7)))) (pk_mul (drf i) (hbN ma (nxN i 7))) ?_
                  refine lv_iadd hx hb dX0_tellHits_127 ?_
                  refine qi_as (y := nI ((((20 - (2 * (drf i))) * (hbN ma (nxN i 6))) + ((drf i) * (hbN ma (nxN i 5)))) + ((drf i) * (hbN ma (nxN i 7))))) (nI_add (((20 - (2 * (drf i))) * (hbN ma (nxN i 6))) + ((drf i) * (hbN ma (nxN i 5)))) ((drf i) * (hbN ma (nxN i 7)))) ?_
                  refine va_iast hx hb hK hP hD hS 9 8 rfl rfl (vp_in_nI (n := i) (N := 36) (by omega) (by omega)) dX0_tellHits_128 (fun H locs hP hD hS => ?_)
                  rw [nI_clamp (n := i) (by omega)] at hP hD
                  have hP : va_P (dC, dI) vwCl [(zo2lirrr ch ft fr dr tO hO), (zaI dr cD 36 fD), (zaR hO cHO 8 (fun i => if i < 8 then some (rh i) else none)), (zaI (rh 0) cH 36 g02), (zaI (rh 1) cH 36 g12), (zaI (rh 2) cH 36 g22), (zaI (rh 3) cH 36 g32), (zaI (rh 4) cH 36 g42), (zaI (rh 5) cH 36 g52), (zaI (rh 6) cH 36 (upd f9 i (nI ((((20 - (2 * (drf i))) * (hbN ma (nxN i 6))) + ((drf i) * (hbN ma (nxN i 5)))) + ((drf i) * (hbN ma (nxN i 7))))))), (zaI (rh 7) cH 36 g72), (zo10ririliiriririr sc aTp (nI ts) aHl (nI nh) (lN ee) mi sn aHs (nI n) aWk (nI wz) aBk (nI bz) aFc)] H := hP
                  have hD : va_D A [(zo2lirrr ch ft fr dr tO hO), (zaI dr cD 36 fD), (zaR hO cHO 8 (fun i => if i < 8 then some (rh i) else none)), (zaI (rh 0) cH 36 g02), (zaI (rh 1) cH 36 g12), (zaI (rh 2) cH 36 g22), (zaI (rh 3) cH 36 g32), (zaI (rh 4) cH 36 g42), (zaI (rh 5) cH 36 g52), (zaI (rh 6) cH 36 (upd f9 i (nI ((((20 - (2 * (drf i))) * (hbN ma (nxN i 6))) + ((drf i) * (hbN ma (nxN i 5)))) + ((drf i) * (hbN ma (nxN i 7))))))), (zaI (rh 7) cH 36 g72), (zo10ririliiriririr sc aTp (nI ts) aHl (nI nh) (lN ee) mi sn aHs (nI n) aWk (nI wz) aBk (nI bz) aFc)] := hD
                  refine lv_iinc (v := nI (i + 1)) (lv' := [(5, .int (nI (i + 1))), (0, .ref ch), (1, .ref sc), (2, .long (lN ma)), (4, .int 6)]) hx hb dX0_tellHits_129 hl (k := 4) rfl (nI_add i 1) (by decide) rfl (fun ls hl => ?_)
                  refine lv_goto (tgt := 13) hx hb dX0_tellHits_132 (by decide) ?_
                  exact ih13 (i + 1) ((upd f9 i (nI ((((20 - (2 * (drf i))) * (hbN ma (nxN i 6))) + ((drf i) * (hbN ma (nxN i 5)))) + ((drf i) * (hbN ma (nxN i 7))))))) (by omega) (by omega) (up_g (g := fun k0 => nI (htN (edB ee) drf ma 6 k0)) hf9 (congrArg nI (ht_n (fun z9 => hd_125 ((in_E hee (by omega)).mpr z9)))).symm) _ _ (hK.sub [0, 1, 2, 3, 4, 5, 6, 7, 8, 9] rfl) (hP.sub [0, 1, 2, 3, 4, 5, 6, 7, 8, 9, 10, 11] rfl) (hD.sub [0, 1, 2, 3, 4, 5, 6, 7, 8, 9, 10, 11] (by decide) rfl) hS ls (lv_sub hl [1, 2, 3, 4, 0] rfl)
          exact L13 _ (0) (g62) (Nat.lt_succ_self _) (by omega) (fun k0 h0 => absurd h0 (Nat.not_lt_zero k0)) _ _ (hK.sub [0, 1, 2, 3, 4, 5, 6, 7, 8, 9] rfl) (hP.sub [0, 1, 2, 3, 4, 5, 6, 7, 8, 9, 10, 11] rfl) (hD.sub [0, 1, 2, 3, 4, 5, 6, 7, 8, 9, 10, 11] (by decide) rfl) hS ls (lv_sub hl [1, 2, 3, 4, 0] rfl)
        · skip
          refine lv_iconst (v := 0) hx hb dX0_tellHits_10 (by decide) ?_
          refine lv_istore (lv' := [(5, .int 0), (0, .ref ch), (1, .ref sc), (2, .long (lN ma)), (4, .int 7)]) hx hb dX0_tellHits_11 hl (by decide) rfl (fun ls hl => ?_)
          have L13 : ∀ (nF : Nat) (i : Nat) (f9 : Nat → Int32), 36 - i < nF → (i ≤ 36) → (∀ k0, k0 < i → f9 k0 = nI (htN (edB ee) drf ma 7 k0)) → ∀ (H : Heap) (locs : List Loc), va_K (dC, dI) vwCl [(cD, .int), (cHO, .array .int), (cH, .int), (cH, .int), (cH, .int), (cH, .int), (cH, .int), (cH, .int), (cH, .int), (cH, .int)] s → va_P (dC, dI) vwCl [(zo2lirrr ch ft fr dr tO hO), (zaI dr cD 36 fD), (zaR hO cHO 8 (fun i => if i < 8 then some (rh i) else none)), (zaI (rh 0) cH 36 g02), (zaI (rh 1) cH 36 g12), (zaI (rh 2) cH 36 g22), (zaI (rh 3) cH 36 g32), (zaI (rh 4) cH 36 g42), (zaI (rh 5) cH 36 g52), (zaI (rh 6) cH 36 g62), (zaI (rh 7) cH 36 f9), (zo10ririliiriririr sc aTp (nI ts) aHl (nI nh) (lN ee) mi sn aHs (nI n) aWk (nI wz) aBk (nI bz) aFc)] H → va_D A [(zo2lirrr ch ft fr dr tO hO), (zaI dr cD 36 fD), (zaR hO cHO 8 (fun i => if i < 8 then some (rh i) else none)), (zaI (rh 0) cH 36 g02), (zaI (rh 1) cH 36 g12), (zaI (rh 2) cH 36 g22), (zaI (rh 3) cH 36 g32), (zaI (rh 4) cH 36 g42), (zaI (rh 5) cH 36 g52), (zaI (rh 6) cH 36 g62), (zaI (rh 7) cH 36 f9), (zo10ririliiriririr sc aTp (nI ts) aHl (nI nh) (lN ee) mi sn aHs (nI n) aWk (nI wz) aBk (nI bz) aFc)] → va_S A s.heap H locs → ∀ (ls : Array Slot), lv_has ls 6 [(0, .ref ch), (1, .ref sc), (2, .long (lN ma)), (4, .int 7), (5, .int (nI i))] → W p l e ({ frames := 2, cells := 0, slots := 0, locals := 44 } : Room) s m args below meth c H locs 0 0 Q (F0 m 13 ls []) := by
            intro nF
            induction nF with
            | zero => intro i f9 hm; exact absurd hm (Nat.not_lt_zero _)
            | succ nF ih13 =>
              intro i f9 hm hi hf9 H locs hK hP hD hS ls hl
              refine lv_iload hx hb dX0_tellHits_13 (lv_at hl 4 rfl) ?_
              refine lv_bipush (v := 36) hx hb dX0_tellHits_15 (by decide) ?_
              refine lv_icmp_ge (tgt := 135) hx hb dX0_tellHits_17 (by decide) (fun c_142 => ?_) (fun c_142 => ?_)
              · skip
                have c_142 : 36 ≤ i := (nI_leI (a := 36) (b := i) (by omega) (by omega)).mp c_142
                refine lv_iinc (v := 8) (lv' := [(4, .int 8), (0, .ref ch), (1, .ref sc), (2, .long (lN ma)), (5, .int (nI i))]) hx hb dX0_tellHits_135 hl (k := 3) rfl (by decide) (by decide) rfl (fun ls hl => ?_)
                refine lv_goto (tgt := 3) hx hb dX0_tellHits_138 (by decide) ?_
                exact ih3 (8) (g02) (g12) (g22) (g32) (g42) (g52) (g62) (f9) (by omega) (by omega) (fun _ => hh0 (by omega)) (fun _ => hh1 (by omega)) (fun _ => hh2 (by omega)) (fun _ => hh3 (by omega)) (fun _ => hh4 (by omega)) (fun _ => hh5 (by omega)) (fun _ => hh6 (by omega)) (fun _ k0 h0 => hf9 k0 (by omega)) _ _ (hK.sub [0, 1, 2, 3, 4, 5, 6, 7, 8, 9] rfl) (hP.sub [0, 1, 2, 3, 4, 5, 6, 7, 8, 9, 10, 11] rfl) (hD.sub [0, 1, 2, 3, 4, 5, 6, 7, 8, 9, 10, 11] (by decide) rfl) hS ls (lv_sub hl [1, 2, 3, 0] rfl)
              · skip
                have c_142 : ¬ 36 ≤ i := fun q => c_142 ((nI_leI (a := 36) (b := i) (by omega) (by omega)).mpr q)
                refine lv_aload_n hx hb dX0_tellHits_20 rfl (lv_at hl 0 rfl) ?_
                refine va_get (D := (dC, dI)) (ci := 2) (v := .ref hO) (C := RX0) (T := TX0) (N := 5) hx hb hts kc_xTellHits_0 hown hK hP 0 rfl rfl 4 (by decide) (hts (.fieldLink RX0 22 "MistHeaps$Chances" "hits" "[[I") kc_xTellHits_1) (fun _ h9 => h9) rfl dX0_tellHits_21 ?_
                refine lv_iload hx hb dX0_tellHits_24 (lv_at hl 3 rfl) ?_
                refine va_alda hx hb hK hP 2 1 rfl rfl (vp_in_nI (n := 7) (N := 8) (by omega) (by omega)) dX0_tellHits_26 ?_
                refine qq_as (v := .ref (rh 7)) (rfl) ?_
                refine lv_iload hx hb dX0_tellHits_27 (lv_at hl 4 rfl) ?_
                refine lv_aload_n hx hb dX0_tellHits_29 rfl (lv_at hl 1 rfl) ?_
                refine va_get (D := (dC, dI)) (ci := 10) (v := .long (lN ee)) (C := RX8) (T := TX8) (N := 14) hx hb hts kc_xTellHits_2 hown hK hP 11 rfl rfl 4 (by decide) (hts (.fieldLink RX0 52 "MistHeaps$Scene" "edges" "J") kc_xTellHits_3) (fun _ h9 => h9) rfl dX0_tellHits_30 ?_
                refine lv_iload hx hb dX0_tellHits_33 (lv_at hl 4 rfl) ?_
                refine vp_callSi (va_runSN (As := [.long (lN ee), .int (nI i)]) (rest := [.int (nI i), .ref (rh 7)]) ⟨hx, hb, hml, hown, hts⟩ (c_isIn l dC dI (lN ee) (nI i)) ⟨va_cnB 2 hts ggX0_tellHits_X11_isIn rfl rfl rfl (hG.1 (.methodLinkNest RX0 44 yX11_isIn "MistHeaps") (by decide +kernel)) (hts (.initialized RX11) kc_xTellHits_4) (by decide +kernel) ⟨Nat.le_of_ble_eq_true rfl, Nat.le_of_ble_eq_true rfl⟩, (hts (.static yX11_isIn) kc_xTellHits_5), trivial⟩ ⟨fun a U g mk q => ⟨q.1, trivial⟩, fun U hU hW => ⟨rfl, trivial⟩⟩ rfl rfl hl.1 rfl (lv_room (Nat.le_of_ble_eq_true rfl)) dX0_tellHits_35 ⟨Nat.le_of_ble_eq_true rfl, Nat.le_of_ble_eq_true rfl⟩).run (fun r_143 hw_144 => ?_)
                rcases hw_144 with ⟨rfl, hd_145⟩ | ⟨rfl, hd_145⟩
                · skip
                  refine lv_if_eq (tgt := 53) hx hb dX0_tellHits_38 (by decide) (fun c_146 => absurd c_146 (by decide)) (fun _ => ?_)
                  refine lv_bipush (v := 20) hx hb dX0_tellHits_41 (by decide) ?_
                  refine lv_lload_n hx hb dX0_tellHits_43 rfl (lv_at hl 2 rfl) ?_
                  refine lv_iload hx hb dX0_tellHits_44 (lv_at hl 4 rfl) ?_
                  refine vp_callSi (va_runS (As := [.long (lN ma), .int (nI i)]) (rest := [.int 20, .int (nI i), .ref (rh 7)]) ⟨hx, hb, hml, hown, hts⟩ (c_hit l dC dI gd ma i hma (by omega)) (va_cwS 2 hts gX0_tellHits_X0_hit rfl rfl rfl hd_yX0_hit.2 ⟨Nat.le_of_ble_eq_true rfl, Nat.le_of_ble_eq_true rfl⟩) ⟨fun a U g mk q => by obtain ⟨q0, qhG⟩ := q; exact ⟨q0, qhG.mv g mk a⟩, fun U hU hW => ⟨rfl, hG.callF hS hU hW⟩⟩ rfl rfl hl.1 rfl (lv_room (Nat.le_of_ble_eq_true rfl)) dX0_tellHits_46 ⟨Nat.le_of_ble_eq_true rfl, Nat.le_of_ble_eq_true rfl⟩).run (fun r_147 hw_148 => ?_)
                  obtain rfl := hw_148
                  have hb2 := hb_2 (ma := ma) (c := i)
                  refine lv_imul hx hb dX0_tellHits_49 ?_
                  refine qi_as (y := nI (20 * (hbN ma i))) (pk_mul 20 (hbN ma i)) ?_
                  refine lv_goto (tgt := 128) hx hb dX0_tellHits_50 (by decide) ?_
                  refine va_iast hx hb hK hP hD hS 10 9 rfl rfl (vp_in_nI (n := i) (N := 36) (by omega) (by omega)) dX0_tellHits_128 (fun H locs hP hD hS => ?_)
                  rw [nI_clamp (n := i) (by omega)] at hP hD
                  have hP : va_P (dC, dI) vwCl [(zo2lirrr ch ft fr dr tO hO), (zaI dr cD 36 fD), (zaR hO cHO 8 (fun i => if i < 8 then some (rh i) else none)), (zaI (rh 0) cH 36 g02), (zaI (rh 1) cH 36 g12), (zaI (rh 2) cH 36 g22), (zaI (rh 3) cH 36 g32), (zaI (rh 4) cH 36 g42), (zaI (rh 5) cH 36 g52), (zaI (rh 6) cH 36 g62), (zaI (rh 7) cH 36 (upd f9 i (nI (20 * (hbN ma i))))), (zo10ririliiriririr sc aTp (nI ts) aHl (nI nh) (lN ee) mi sn aHs (nI n) aWk (nI wz) aBk (nI bz) aFc)] H := hP
                  have hD : va_D A [(zo2lirrr ch ft fr dr tO hO), (zaI dr cD 36 fD), (zaR hO cHO 8 (fun i => if i < 8 then some (rh i) else none)), (zaI (rh 0) cH 36 g02), (zaI (rh 1) cH 36 g12), (zaI (rh 2) cH 36 g22), (zaI (rh 3) cH 36 g32), (zaI (rh 4) cH 36 g42), (zaI (rh 5) cH 36 g52), (zaI (rh 6) cH 36 g62), (zaI (rh 7) cH 36 (upd f9 i (nI (20 * (hbN ma i))))), (zo10ririliiriririr sc aTp (nI ts) aHl (nI nh) (lN ee) mi sn aHs (nI n) aWk (nI wz) aBk (nI bz) aFc)] := hD
                  refine lv_iinc (v := nI (i + 1)) (lv' := [(5, .int (nI (i + 1))), (0, .ref ch), (1, .ref sc), (2, .long (lN ma)), (4, .int 7)]) hx hb dX0_tellHits_129 hl (k := 4) rfl (nI_add i 1) (by decide) rfl (fun ls hl => ?_)
                  refine lv_goto (tgt := 13) hx hb dX0_tellHits_132 (by decide) ?_
                  exact ih13 (i + 1) ((upd f9 i (nI (20 * (hbN ma i))))) (by omega) (by omega) (up_g (g := fun k0 => nI (htN (edB ee) drf ma 7 k0)) hf9 (congrArg nI (ht_e ((in_E hee (by omega)).mp hd_145))).symm) _ _ (hK.sub [0, 1, 2, 3, 4, 5, 6, 7, 8, 9] rfl) (hP.sub [0, 1, 2, 3, 4, 5, 6, 7, 8, 9, 10, 11] rfl) (hD.sub [0, 1, 2, 3, 4, 5, 6, 7, 8, 9, 10, 11] (by decide) rfl) hS ls (lv_sub hl [1, 2, 3, 4, 0] rfl)
                · skip
                  refine lv_if_eq (tgt := 53) hx hb dX0_tellHits_38 (by decide) (fun _ => ?_) (fun c_149 => absurd c_149 (by decide))
                  have hd5 := (hdr i (by omega)).2
                  refine lv_bipush (v := 20) hx hb dX0_tellHits_53 (by decide) ?_
                  refine lv_iconst (v := 2) hx hb dX0_tellHits_55 (by decide) ?_
                  refine lv_aload_n hx hb dX0_tellHits_56 rfl (lv_at hl 0 rfl) ?_
                  refine va_get (D := (dC, dI)) (ci := 2) (v := .ref dr) (C := RX0) (T := TX0) (N := 5) hx hb hts kc_xTellHits_0 hown hK hP 0 rfl rfl 2 (by decide) (hts (.fieldLink RX0 9 "MistHeaps$Chances" "drifts" "[I") kc_xTellHits_6) (fun _ h9 => h9) rfl dX0_tellHits_57 ?_
                  refine lv_iload hx hb dX0_tellHits_60 (lv_at hl 4 rfl) ?_
                  refine va_iald hx hb hK hP 1 0 rfl rfl (vp_in_nI (n := i) (N := 36) (by omega) (by omega)) dX0_tellHits_62 ?_
                  refine qi_as (y := nI (drf i)) ((show fD (nI i : Int32).toNatClampNeg = fD i from by rw [nI_clamp (by omega)]).trans ((hdr i (by omega)).1)) ?_
                  refine lv_imul hx hb dX0_tellHits_63 ?_
                  refine qi_as (y := nI (2 * (drf i))) (pk_mul 2 (drf i)) ?_
                  refine lv_isub hx hb dX0_tellHits_64 ?_
                  refine qi_as (y := nI (20 - (2 * (drf i)))) (pk_sub (a := 20) (b := 2 * (drf i)) (by omega)) ?_
                  refine lv_lload_n hx hb dX0_tellHits_65 rfl (lv_at hl 2 rfl) ?_
                  refine lv_iload hx hb dX0_tellHits_66 (lv_at hl 4 rfl) ?_
                  refine lv_iload hx hb dX0_tellHits_68 (lv_at hl 3 rfl) ?_
                  have hnx := nx_lt i (by omega) 7 (by omega)
                  refine vp_callSi (va_runSN (As := [.int (nI i), .int 7]) (rest := [.long (lN ma), .int (nI (20 - (2 * (drf i)))), .int (nI i), .ref (rh 7)]) ⟨hx, hb, hml, hown, hts⟩ (c_beside l dC dI gd i 7 (by omega) (by omega)) ⟨va_cnB 2 hts ggX0_tellHits_X11_besideOrSame rfl rfl rfl (hG.1 (.methodLinkNest RX0 56 yX11_besideOrSame "MistHeaps") (by decide +kernel)) (hts (.initialized RX11) kc_xTellHits_4) (by decide +kernel) ⟨Nat.le_of_ble_eq_true rfl, Nat.le_of_ble_eq_true rfl⟩, (hts (.static yX11_besideOrSame) kc_xTellHits_7), trivial⟩ ⟨fun a U g mk q => by obtain ⟨q0, qhG⟩ := q; exact ⟨q0, qhG.mv g mk a⟩, fun U hU hW => ⟨rfl, hG.callF hS hU hW⟩⟩ rfl rfl hl.1 rfl (lv_room (Nat.le_of_ble_eq_true rfl)) dX0_tellHits_70 ⟨Nat.le_of_ble_eq_true rfl, Nat.le_of_ble_eq_true rfl⟩).run (fun r_150 hw_151 => ?_)
                  obtain rfl := hw_151
                  refine vp_callSi (va_runS (As := [.long (lN ma), .int (nI (nxN i 7))]) (rest := [.int (nI (20 - (2 * (drf i)))), .int (nI i), .ref (rh 7)]) ⟨hx, hb, hml, hown, hts⟩ (c_hit l dC dI gd ma (nxN i 7) hma (by omega)) (va_cwS 2 hts gX0_tellHits_X0_hit rfl rfl rfl hd_yX0_hit.2 ⟨Nat.le_of_ble_eq_true rfl, Nat.le_of_ble_eq_true rfl⟩) ⟨fun a U g mk q => by obtain ⟨q0, qhG⟩ := q; exact ⟨q0, qhG.mv g mk a⟩, fun U hU hW => ⟨rfl, hG.callF hS hU hW⟩⟩ rfl rfl hl.1 rfl (lv_room (Nat.le_of_ble_eq_true rfl)) dX0_tellHits_73 ⟨Nat.le_of_ble_eq_true rfl, Nat.le_of_ble_eq_true rfl⟩).run (fun r_152 hw_153 => ?_)
                  obtain rfl := hw_153
                  have hb2 := hb_2 (ma := ma) (c := (nxN i 7))
                  refine lv_imul hx hb dX0_tellHits_76 ?_
                  refine qi_as (y := nI ((20 - (2 * (drf i))) * (hbN ma (nxN i 7)))) (pk_mul (20 - (2 * (drf i))) (hbN ma (nxN i 7))) ?_
                  refine lv_aload_n hx hb dX0_tellHits_77 rfl (lv_at hl 0 rfl) ?_
                  refine va_get (D := (dC, dI)) (ci := 2) (v := .ref dr) (C := RX0) (T := TX0) (N := 5) hx hb hts kc_xTellHits_0 hown hK hP 0 rfl rfl 2 (by decide) (hts (.fieldLink RX0 9 "MistHeaps$Chances" "drifts" "[I") kc_xTellHits_6) (fun _ h9 => h9) rfl dX0_tellHits_78 ?_
                  refine lv_iload hx hb dX0_tellHits_81 (lv_at hl 4 rfl) ?_
                  refine va_iald hx hb hK hP 1 0 rfl rfl (vp_in_nI (n := i) (N := 36) (by omega) (by omega)) dX0_tellHits_83 ?_
                  refine qi_as (y := nI (drf i)) ((show fD (nI i : Int32).toNatClampNeg = fD i from by rw [nI_clamp (by omega)]).trans ((hdr i (by omega)).1)) ?_
                  refine lv_lload_n hx hb dX0_tellHits_84 rfl (lv_at hl 2 rfl) ?_
                  refine lv_iload hx hb dX0_tellHits_85 (lv_at hl 4 rfl) ?_
                  refine lv_iload hx hb dX0_tellHits_87 (lv_at hl 3 rfl) ?_
                  refine lv_bipush (v := 7) hx hb dX0_tellHits_89 (by decide) ?_
                  refine lv_iadd hx hb dX0_tellHits_91 ?_
                  refine qi_as (y := 14) (by decide) ?_
                  refine lv_bipush (v := 7) hx hb dX0_tellHits_92 (by decide) ?_
                  refine lv_iand hx hb dX0_tellHits_94 ?_
                  refine qi_as (y := 6) (by decide) ?_
                  have hnx := nx_lt i (by omega) 6 (by omega)
                  refine vp_callSi (va_runSN (As := [.int (nI i), .int 6]) (rest := [.long (lN ma), .int (nI (drf i)), .int (nI ((20 - (2 * (drf i))) * (hbN ma (nxN i 7)))), .int (nI i), .ref (rh 7)]) ⟨hx, hb, hml, hown, hts⟩ (c_beside l dC dI gd i 6 (by omega) (by omega)) ⟨va_cnB 2 hts ggX0_tellHits_X11_besideOrSame rfl rfl rfl (hG.1 (.methodLinkNest RX0 56 yX11_besideOrSame "MistHeaps") (by decide +kernel)) (hts (.initialized RX11) kc_xTellHits_4) (by decide +kernel) ⟨Nat.le_of_ble_eq_true rfl, Nat.le_of_ble_eq_true rfl⟩, (hts (.static yX11_besideOrSame) kc_xTellHits_7), trivial⟩ ⟨fun a U g mk q => by obtain ⟨q0, qhG⟩ := q; exact ⟨q0, qhG.mv g mk a⟩, fun U hU hW => ⟨rfl, hG.callF hS hU hW⟩⟩ rfl rfl hl.1 rfl (lv_room (Nat.le_of_ble_eq_true rfl)) dX0_tellHits_95 ⟨Nat.le_of_ble_eq_true rfl, Nat.le_of_ble_eq_true rfl⟩).run (fun r_154 hw_155 => ?_)
                  obtain rfl := hw_155
                  refine vp_callSi (va_runS (As := [.long (lN ma), .int (nI (nxN i 6))]) (rest := [.int (nI (drf i)), .int (nI ((20 - (2 * (drf i))) * (hbN ma (nxN i 7)))), .int (nI i), .ref (rh 7)]) ⟨hx, hb, hml, hown, hts⟩ (c_hit l dC dI gd ma (nxN i 6) hma (by omega)) (va_cwS 2 hts gX0_tellHits_X0_hit rfl rfl rfl hd_yX0_hit.2 ⟨Nat.le_of_ble_eq_true rfl, Nat.le_of_ble_eq_true rfl⟩) ⟨fun a U g mk q => by obtain ⟨q0, qhG⟩ := q; exact ⟨q0, qhG.mv g mk a⟩, fun U hU hW => ⟨rfl, hG.callF hS hU hW⟩⟩ rfl rfl hl.1 rfl (lv_room (Nat.le_of_ble_eq_true rfl)) dX0_tellHits_98 ⟨Nat.le_of_ble_eq_true rfl, Nat.le_of_ble_eq_true rfl⟩).run (fun r_156 hw_157 => ?_)
                  obtain rfl := hw_157
                  have hb2 := hb_2 (ma := ma) (c := (nxN i 6))
                  refine lv_imul hx hb dX0_tellHits_101 ?_
                  refine qi_as (y := nI ((drf i) * (hbN ma (nxN i 6)))) (pk_mul (drf i) (hbN ma (nxN i 6))) ?_
                  refine lv_iadd hx hb dX0_tellHits_102 ?_
                  refine qi_as (y := nI (((20 - (2 * (drf i))) * (hbN ma (nxN i 7))) + ((drf i) * (hbN ma (nxN i 6))))) (nI_add ((20 - (2 * (drf i))) * (hbN ma (nxN i 7))) ((drf i) * (hbN ma (nxN i 6)))) ?_
                  refine lv_aload_n hx hb dX0_tellHits_103 rfl (lv_at hl 0 rfl) ?_
                  refine va_get (D := (dC, dI)) (ci := 2) (v := .ref dr) (C := RX0) (T := TX0) (N := 5) hx hb hts kc_xTellHits_0 hown hK hP 0 rfl rfl 2 (by decide) (hts (.fieldLink RX0 9 "MistHeaps$Chances" "drifts" "[I") kc_xTellHits_6) (fun _ h9 => h9) rfl dX0_tellHits_104 ?_
                  refine lv_iload hx hb dX0_tellHits_107 (lv_at hl 4 rfl) ?_
                  refine va_iald hx hb hK hP 1 0 rfl rfl (vp_in_nI (n := i) (N := 36) (by omega) (by omega)) dX0_tellHits_109 ?_
                  refine qi_as (y := nI (drf i)) ((show fD (nI i : Int32).toNatClampNeg = fD i from by rw [nI_clamp (by omega)]).trans ((hdr i (by omega)).1)) ?_
                  refine lv_lload_n hx hb dX0_tellHits_110 rfl (lv_at hl 2 rfl) ?_
                  refine lv_iload hx hb dX0_tellHits_111 (lv_at hl 4 rfl) ?_
                  refine lv_iload hx hb dX0_tellHits_113 (lv_at hl 3 rfl) ?_
                  refine lv_iconst (v := 1) hx hb dX0_tellHits_115 (by decide) ?_
                  refine lv_iadd hx hb dX0_tellHits_116 ?_
                  refine qi_as (y := 8) (by decide) ?_
                  refine lv_bipush (v := 7) hx hb dX0_tellHits_117 (by decide) ?_
                  refine lv_iand hx hb dX0_tellHits_119 ?_
                  refine qi_as (y := 0) (by decide) ?_
                  have hnx := nx_lt i (by omega) 0 (by omega)
                  refine vp_callSi (va_runSN (As := [.int (nI i), .int 0]) (rest := [.long (lN ma), .int (nI (drf i)), .int (nI (((20 - (2 * (drf i))) * (hbN ma (nxN i 7))) + ((drf i) * (hbN ma (nxN i 6))))), .int (nI i), .ref (rh 7)]) ⟨hx, hb, hml, hown, hts⟩ (c_beside l dC dI gd i 0 (by omega) (by omega)) ⟨va_cnB 2 hts ggX0_tellHits_X11_besideOrSame rfl rfl rfl (hG.1 (.methodLinkNest RX0 56 yX11_besideOrSame "MistHeaps") (by decide +kernel)) (hts (.initialized RX11) kc_xTellHits_4) (by decide +kernel) ⟨Nat.le_of_ble_eq_true rfl, Nat.le_of_ble_eq_true rfl⟩, (hts (.static yX11_besideOrSame) kc_xTellHits_7), trivial⟩ ⟨fun a U g mk q => by obtain ⟨q0, qhG⟩ := q; exact ⟨q0, qhG.mv g mk a⟩, fun U hU hW => ⟨rfl, hG.callF hS hU hW⟩⟩ rfl rfl hl.1 rfl (lv_room (Nat.le_of_ble_eq_true rfl)) dX0_tellHits_120 ⟨Nat.le_of_ble_eq_true rfl, Nat.le_of_ble_eq_true rfl⟩).run (fun r_158 hw_159 => ?_)
                  obtain rfl := hw_159
                  refine vp_callSi (va_runS (As := [.long (lN ma), .int (nI (nxN i 0))]) (rest := [.int (nI (drf i)), .int (nI (((20 - (2 * (drf i))) * (hbN ma (nxN i 7))) + ((drf i) * (hbN ma (nxN i 6))))), .int (nI i), .ref (rh 7)]) ⟨hx, hb, hml, hown, hts⟩ (c_hit l dC dI gd ma (nxN i 0) hma (by omega)) (va_cwS 2 hts gX0_tellHits_X0_hit rfl rfl rfl hd_yX0_hit.2 ⟨Nat.le_of_ble_eq_true rfl, Nat.le_of_ble_eq_true rfl⟩) ⟨fun a U g mk q => by obtain ⟨q0, qhG⟩ := q; exact ⟨q0, qhG.mv g mk a⟩, fun U hU hW => ⟨rfl, hG.callF hS hU hW⟩⟩ rfl rfl hl.1 rfl (lv_room (Nat.le_of_ble_eq_true rfl)) dX0_tellHits_123 ⟨Nat.le_of_ble_eq_true rfl, Nat.le_of_ble_eq_true rfl⟩).run (fun r_160 hw_161 => ?_)
                  obtain rfl := hw_161
                  have hb2 := hb_2 (ma := ma) (c := (nxN i 0))
                  refine lv_imul hx hb dX0_tellHits_126 ?_
                  refine qi_as (y := nI ((drf i) * (hbN ma (nxN i 0)))) (pk_mul (drf i) (hbN ma (nxN i 0))) ?_
                  refine lv_iadd hx hb dX0_tellHits_127 ?_
                  refine qi_as (y := nI ((((20 - (2 * (drf i))) * (hbN ma (nxN i 7))) + ((drf i) * (hbN ma (nxN i 6)))) + ((drf i) * (hbN ma (nxN i 0))))) (nI_add (((20 - (2 * (drf i))) * (hbN ma (nxN i 7))) + ((drf i) * (hbN ma (nxN i 6)))) ((drf i) * (hbN ma (nxN i 0)))) ?_
                  refine va_iast hx hb hK hP hD hS 10 9 rfl rfl (vp_in_nI (n := i) (N := 36) (by omega) (by omega)) dX0_tellHits_128 (fun H locs hP hD hS => ?_)
                  rw [nI_clamp (n := i) (by omega)] at hP hD
                  have hP : va_P (dC, dI) vwCl [(zo2lirrr ch ft fr dr tO hO), (zaI dr cD 36 fD), (zaR hO cHO 8 (fun i => if i < 8 then some (rh i) else none)), (zaI (rh 0) cH 36 g02), (zaI (rh 1) cH 36 g12), (zaI (rh 2) cH 36 g22), (zaI (rh 3) cH 36 g32), (zaI (rh 4) cH 36 g42), (zaI (rh 5) cH 36 g52), (zaI (rh 6) cH 36 g62), (zaI (rh 7) cH 36 (upd f9 i (nI ((((20 - (2 * (drf i))) * (hbN ma (nxN i 7))) + ((drf i) * (hbN ma (nxN i 6)))) + ((drf i) * (hbN ma (nxN i 0))))))), (zo10ririliiriririr sc aTp (nI ts) aHl (nI nh) (lN ee) mi sn aHs (nI n) aWk (nI wz) aBk (nI bz) aFc)] H := hP
                  have hD : va_D A [(zo2lirrr ch ft fr dr tO hO), (zaI dr cD 36 fD), (zaR hO cHO 8 (fun i => if i < 8 then some (rh i) else none)), (zaI (rh 0) cH 36 g02), (zaI (rh 1) cH 36 g12), (zaI (rh 2) cH 36 g22), (zaI (rh 3) cH 36 g32), (zaI (rh 4) cH 36 g42), (zaI (rh 5) cH 36 g52), (zaI (rh 6) cH 36 g62), (zaI (rh 7) cH 36 (upd f9 i (nI ((((20 - (2 * (drf i))) * (hbN ma (nxN i 7))) + ((drf i) * (hbN ma (nxN i 6)))) + ((drf i) * (hbN ma (nxN i 0))))))), (zo10ririliiriririr sc aTp (nI ts) aHl (nI nh) (lN ee) mi sn aHs (nI n) aWk (nI wz) aBk (nI bz) aFc)] := hD
                  refine lv_iinc (v := nI (i + 1)) (lv' := [(5, .int (nI (i + 1))), (0, .ref ch), (1, .ref sc), (2, .long (lN ma)), (4, .int 7)]) hx hb dX0_tellHits_129 hl (k := 4) rfl (nI_add i 1) (by decide) rfl (fun ls hl => ?_)
                  refine lv_goto (tgt := 13) hx hb dX0_tellHits_132 (by decide) ?_
                  exact ih13 (i + 1) ((upd f9 i (nI ((((20 - (2 * (drf i))) * (hbN ma (nxN i 7))) + ((drf i) * (hbN ma (nxN i 6)))) + ((drf i) * (hbN ma (nxN i 0))))))) (by omega) (by omega) (up_g (g := fun k0 => nI (htN (edB ee) drf ma 7 k0)) hf9 (congrArg nI (ht_n (fun z9 => hd_145 ((in_E hee (by omega)).mpr z9)))).symm) _ _ (hK.sub [0, 1, 2, 3, 4, 5, 6, 7, 8, 9] rfl) (hP.sub [0, 1, 2, 3, 4, 5, 6, 7, 8, 9, 10, 11] rfl) (hD.sub [0, 1, 2, 3, 4, 5, 6, 7, 8, 9, 10, 11] (by decide) rfl) hS ls (lv_sub hl [1, 2, 3, 4, 0] rfl)
          exact L13 _ (0) (g72) (Nat.lt_succ_self _) (by omega) (fun k0 h0 => absurd h0 (Nat.not_lt_zero k0)) _ _ (hK.sub [0, 1, 2, 3, 4, 5, 6, 7, 8, 9] rfl) (hP.sub [0, 1, 2, 3, 4, 5, 6, 7, 8, 9, 10, 11] rfl) (hD.sub [0, 1, 2, 3, 4, 5, 6, 7, 8, 9, 10, 11] (by decide) rfl) hS ls (lv_sub hl [1, 2, 3, 4, 0] rfl)
  exact L3 _ (0) (g0) (g1) (g2) (g3) (g4) (g5) (g6) (g7) (Nat.lt_succ_self _) (by omega) (fun z9 => absurd z9 (by omega)) (fun z9 => absurd z9 (by omega)) (fun z9 => absurd z9 (by omega)) (fun z9 => absurd z9 (by omega)) (fun z9 => absurd z9 (by omega)) (fun z9 => absurd z9 (by omega)) (fun z9 => absurd z9 (by omega)) (fun z9 => absurd z9 (by omega)) _ _ (hK.sub [0, 1, 2, 3, 4, 5, 6, 7, 8, 9] rfl) (hP.sub [0, 1, 2, 3, 4, 5, 6, 7, 8, 9, 10, 11] rfl) (hD.sub [0, 1, 2, 3, 4, 5, 6, 7, 8, 9, 10, 11] (by decide) rfl) hS ls (lv_sub hl [1, 2, 3, 0] rfl)

theorem kc_xTryLast_0 : ∀ w ∈ wsX00, w ∈ wsX0_tryLast := fun w h => List.mem_cons_of_mem _ (gin_wsX00 w h)
theorem kc_xTryLast_1 : (.fieldLink RX0 66 "MistHeaps$Chances" "foundTimes" "J" : Cond) ∈ wsX0_tryLast := kc_of 284 rfl rfl rfl
theorem kc_xTryLast_2 : (.fieldLink RX0 77 "MistHeaps$Chances" "foundRow" "I" : Cond) ∈ wsX0_tryLast := kc_of 286 rfl rfl rfl
theorem kc_xTryLast_3 : (.fieldLink RX0 22 "MistHeaps$Chances" "hits" "[[I" : Cond) ∈ wsX0_tryLast := kc_of 289 rfl rfl rfl
set_option maxHeartbeats 4000000 in
set_option maxRecDepth 100000 in
theorem c_xTryLast (l : Launch) (dC : Nat → ClassId) (dI : Nat → Nat → Nat) (ch : Nat) (dr : Nat) (tO : Nat) (hO : Nat) (i : Nat) (k : Nat) (fr : Int32) (ft : Int64) (cHO : ClassId) (cH : ClassId) (g0 : Nat → Int32) (g1 : Nat → Int32) (g2 : Nat → Int32) (g3 : Nat → Int32) (g4 : Nat → Int32) (g5 : Nat → Int32) (g6 : Nat → Int32) (g7 : Nat → Int32) (rh : Nat → Nat) (fa : Nat) (cA1 : ClassId) (ff : Nat → Int64) (T U : Nat → Nat) (Hh : Nat → Nat → Nat) (sz : Nat) (hk64 : k < 64) (hT : lnA ff T) (hh0 : ∀ k0, k0 < 36 → g0 k0 = nI (Hh 0 k0)) (hh1 : ∀ k0, k0 < 36 → g1 k0 = nI (Hh 1 k0)) (hh2 : ∀ k0, k0 < 36 → g2 k0 = nI (Hh 2 k0)) (hh3 : ∀ k0, k0 < 36 → g3 k0 = nI (Hh 3 k0)) (hh4 : ∀ k0, k0 < 36 → g4 k0 = nI (Hh 4 k0)) (hh5 : ∀ k0, k0 < 36 → g5 k0 = nI (Hh 5 k0)) (hh6 : ∀ k0, k0 < 36 → g6 k0 = nI (Hh 6 k0)) (hh7 : ∀ k0, k0 < 36 → g7 k0 = nI (Hh 7 k0)) (hHb : ∀ w9, ∀ k0, k0 < 36 → Hh w9 k0 ≤ 20) (hU : ∀ w9, w9 < 8 → U (k * 8 + w9) = smN (fun c9 => T c9 * Hh w9 c9) 36) (hUb : ∀ k0, U k0 ≤ 64000000) (hJ : fmJ U (k * 8) ft fr) : Met l yX0_tryLast wsX0_tryLast ({ frames := 0, cells := 0, slots := 0, locals := 0 } : Room) (va_Pc [.ref ch, .ref fa, .int (nI k)] (fun U => U.heap.size = sz ∧ va_P (dC, dI) vwCl [(zo2lirrr ch ft fr dr tO hO), (zaL fa cA1 36 ff), (zaR hO cHO 8 (fun i => if i < 8 then some (rh i) else none)), (zaI (rh 0) cH 36 g0), (zaI (rh 1) cH 36 g1), (zaI (rh 2) cH 36 g2), (zaI (rh 3) cH 36 g3), (zaI (rh 4) cH 36 g4), (zaI (rh 5) cH 36 g5), (zaI (rh 6) cH 36 g6), (zaI (rh 7) cH 36 g7)] U.heap ∧ va_K (dC, dI) vwCl [(cA1, .long), (cHO, .array .int), (cH, .int), (cH, .int), (cH, .int), (cH, .int), (cH, .int), (cH, .int), (cH, .int), (cH, .int)] U ∧ va_D (fun _ => True) [(zo2lirrr ch ft fr dr tO hO), (zaL fa cA1 36 ff), (zaR hO cHO 8 (fun i => if i < 8 then some (rh i) else none)), (zaI (rh 0) cH 36 g0), (zaI (rh 1) cH 36 g1), (zaI (rh 2) cH 36 g2), (zaI (rh 3) cH 36 g3), (zaI (rh 4) cH 36 g4), (zaI (rh 5) cH 36 g5), (zaI (rh 6) cH 36 g6), (zaI (rh 7) cH 36 g7)])) (va_Qv (fun (u : (Int64) × (Int32)) => match u with | (ft9, fr9) => fmJ U (k * 8 + 8) ft9 fr9) (fun (u : (Int64) × (Int32)) (t : State) => match u with | (ft9, fr9) => va_P (dC, dI) vwCl [(zo2lirrr ch ft9 fr9 dr tO hO), (zaL fa cA1 36 ff), (zaR hO cHO 8 (fun i => if i < 8 then some (rh i) else none)), (zaI (rh 0) cH 36 g0), (zaI (rh 1) cH 36 g1), (zaI (rh 2) cH 36 g2), (zaI (rh 3) cH 36 g3), (zaI (rh 4) cH 36 g4), (zaI (rh 5) cH 36 g5), (zaI (rh 6) cH 36 g6), (zaI (rh 7) cH 36 g7)] t.heap ∧ va_K (dC, dI) vwCl [(cA1, .long), (cHO, .array .int), (cH, .int), (cH, .int), (cH, .int), (cH, .int), (cH, .int), (cH, .int), (cH, .int), (cH, .int)] t ∧ va_D (va_A [(zo2lirrr ch ft fr dr tO hO), (zaL fa cA1 36 ff), (zaR hO cHO 8 (fun i => if i < 8 then some (rh i) else none)), (zaI (rh 0) cH 36 g0), (zaI (rh 1) cH 36 g1), (zaI (rh 2) cH 36 g2), (zaI (rh 3) cH 36 g3), (zaI (rh 4) cH 36 g4), (zaI (rh 5) cH 36 g5), (zaI (rh 6) cH 36 g6), (zaI (rh 7) cH 36 g7)] sz) [(zo2lirrr ch ft9 fr9 dr tO hO), (zaL fa cA1 36 ff), (zaR hO cHO 8 (fun i => if i < 8 then some (rh i) else none)), (zaI (rh 0) cH 36 g0), (zaI (rh 1) cH 36 g1), (zaI (rh 2) cH 36 g2), (zaI (rh 3) cH 36 g3), (zaI (rh 4) cH 36 g4), (zaI (rh 5) cH 36 g5), (zaI (rh 6) cH 36 g6), (zaI (rh 7) cH 36 g7)]) (va_A [(zo2lirrr ch ft fr dr tO hO), (zaL fa cA1 36 ff), (zaR hO cHO 8 (fun i => if i < 8 then some (rh i) else none)), (zaI (rh 0) cH 36 g0), (zaI (rh 1) cH 36 g1), (zaI (rh 2) cH 36 g2), (zaI (rh 3) cH 36 g3), (zaI (rh 4) cH 36 g4), (zaI (rh 5) cH 36 g5), (zaI (rh 6) cH 36 g6), (zaI (rh 7) cH 36 g7)] sz)) 0 0 (va_A [(zo2lirrr ch ft fr dr tO hO), (zaL fa cA1 36 ff), (zaR hO cHO 8 (fun i => if i < 8 then some (rh i) else none)), (zaI (rh 0) cH 36 g0), (zaI (rh 1) cH 36 g1), (zaI (rh 2) cH 36 g2), (zaI (rh 3) cH 36 g3), (zaI (rh 4) cH 36 g4), (zaI (rh 5) cH 36 g5), (zaI (rh 6) cH 36 g6), (zaI (rh 7) cH 36 g7)] sz) := by
  refine met_ofQ (cc := cX0_tryLast) (maxL := 7) (ret := none) (by decide) rfl ?_
  intro p e s m args below meth c s₁ Q B hml hv hQ
  obtain ⟨rfl, hsz, hP, hK, hD0⟩ := hv
  have hx := B.exec
  have hb := B.bytes
  have hr := B.returns
  have hts := atoms_spec (ws := wsX0_tryLast) B.pre
  have hown : s.vm.findClass RX0 = some m.cls := findClass_of_methodNamed B.named
  have hlocks := B.notSynchronized
  subst hsz
  have hD := hD0.self (sz := s.heap.size)
  generalize hAe : va_A [(zo2lirrr ch ft fr dr tO hO), (zaL fa cA1 36 ff), (zaR hO cHO 8 (fun i => if i < 8 then some (rh i) else none)), (zaI (rh 0) cH 36 g0), (zaI (rh 1) cH 36 g1), (zaI (rh 2) cH 36 g2), (zaI (rh 3) cH 36 g3), (zaI (rh 4) cH 36 g4), (zaI (rh 5) cH 36 g5), (zaI (rh 6) cH 36 g6), (zaI (rh 7) cH 36 g7)] s.heap.size = A at hD hQ ⊢
  have hA : ∀ q : Nat, s.heap.size ≤ q → A q := fun q h => by rw [← hAe]; exact Or.inr h
  have hS : va_S A s.heap s.heap [] := va_S.rf
  have hl := lv_entry [.ref ch, .ref fa, .int (nI k)] (n := 7) (Nat.le_of_ble_eq_true rfl)
  rw [lg_entry_eq]
  generalize (lg_sl [.ref ch, .ref fa, .int (nI k)] ++ List.replicate (7 - (lg_sl [.ref ch, .ref fa, .int (nI k)]).length) Slot.unset).toArray = ls at hl ⊢
  generalize hag : ([.ref ch, .ref fa, .int (nI k)] : List Value).toArray = args at hts hQ ⊢
  have hl : lv_has ls 7 [(0, .ref ch), (1, .ref fa), (2, .int (nI k))] := hl
  obtain ⟨H, hH⟩ : ∃ H : Heap, H = s.heap := ⟨_, rfl⟩
  rw [← hH] at hP
  rw [← hH]
  have hS : va_S A s.heap H [] := by rw [hH]; exact hS
  obtain ⟨locs, hlo⟩ : ∃ L : List Loc, L = [] := ⟨_, rfl⟩
  rw [← hlo] at hS
  rw [← hlo]
  clear hH hlo
  refine lv_iconst (v := 0) hx hb dX0_tryLast_0 (by decide) ?_
  refine lv_istore_n (lv' := [(3, .int 0), (0, .ref ch), (1, .ref fa), (2, .int (nI k))]) hx hb dX0_tryLast_1 rfl hl (by decide) rfl (fun ls hl => ?_)
  have L2 : ∀ (nF : Nat) (k9 : Nat) (ft2 : Int64) (fr2 : Int32), 8 - k9 < nF → (k9 ≤ 8) → (fmJ U (k * 8 + k9) ft2 fr2) → ∀ (H : Heap) (locs : List Loc), va_K (dC, dI) vwCl [(cA1, .long), (cHO, .array .int), (cH, .int), (cH, .int), (cH, .int), (cH, .int), (cH, .int), (cH, .int), (cH, .int), (cH, .int)] s → va_P (dC, dI) vwCl [(zo2lirrr ch ft2 fr2 dr tO hO), (zaL fa cA1 36 ff), (zaR hO cHO 8 (fun i => if i < 8 then some (rh i) else none)), (zaI (rh 0) cH 36 g0), (zaI (rh 1) cH 36 g1), (zaI (rh 2) cH 36 g2), (zaI (rh 3) cH 36 g3), (zaI (rh 4) cH 36 g4), (zaI (rh 5) cH 36 g5), (zaI (rh 6) cH 36 g6), (zaI (rh 7) cH 36 g7)] H → va_D A [(zo2lirrr ch ft2 fr2 dr tO hO), (zaL fa cA1 36 ff), (zaR hO cHO 8 (fun i => if i < 8 then some (rh i) else none)), (zaI (rh 0) cH 36 g0), (zaI (rh 1) cH 36 g1), (zaI (rh 2) cH 36 g2), (zaI (rh 3) cH 36 g3), (zaI (rh 4) cH 36 g4), (zaI (rh 5) cH 36 g5), (zaI (rh 6) cH 36 g6), (zaI (rh 7) cH 36 g7)] → va_S A s.heap H locs → ∀ (ls : Array Slot), lv_has ls 7 [(0, .ref ch), (1, .ref fa), (2, .int (nI k)), (3, .int (nI k9))] → W p l e ({ frames := 0, cells := 0, slots := 0, locals := 0 } : Room) s m args below meth c H locs 0 0 Q (F0 m 2 ls []) := by
    intro nF
    induction nF with
    | zero => intro k9 ft2 fr2 hm; exact absurd hm (Nat.not_lt_zero _)
    | succ nF ih2 =>
      intro k9 ft2 fr2 hm hk9 hJ9 H locs hK hP hD hS ls hl
      refine lv_iload_n hx hb dX0_tryLast_2 rfl (lv_at hl 3 rfl) ?_
      refine lv_bipush (v := 8) hx hb dX0_tryLast_3 (by decide) ?_
      refine lv_icmp_ge (tgt := 79) hx hb dX0_tryLast_5 (by decide) (fun c_1 => ?_) (fun c_1 => ?_)
      · skip
        have c_1 : 8 ≤ k9 := (nI_leI (a := 8) (b := k9) (by omega) (by omega)).mp c_1
        rw [hQ]
        have hP9 := hP.sub (ws' := [(zo2lirrr ch ft2 fr2 dr tO hO), (zaL fa cA1 36 ff), (zaR hO cHO 8 (fun i => if i < 8 then some (rh i) else none)), (zaI (rh 0) cH 36 g0), (zaI (rh 1) cH 36 g1), (zaI (rh 2) cH 36 g2), (zaI (rh 3) cH 36 g3), (zaI (rh 4) cH 36 g4), (zaI (rh 5) cH 36 g5), (zaI (rh 6) cH 36 g6), (zaI (rh 7) cH 36 g7)]) [0, 1, 2, 3, 4, 5, 6, 7, 8, 9, 10] rfl
        have hD9 := hD.sub (ws' := [(zo2lirrr ch ft2 fr2 dr tO hO), (zaL fa cA1 36 ff), (zaR hO cHO 8 (fun i => if i < 8 then some (rh i) else none)), (zaI (rh 0) cH 36 g0), (zaI (rh 1) cH 36 g1), (zaI (rh 2) cH 36 g2), (zaI (rh 3) cH 36 g3), (zaI (rh 4) cH 36 g4), (zaI (rh 5) cH 36 g5), (zaI (rh 6) cH 36 g6), (zaI (rh 7) cH 36 g7)]) [0, 1, 2, 3, 4, 5, 6, 7, 8, 9, 10] (by decide) rfl
        have hK9 := hK.sub (tys' := [(cA1, .long), (cHO, .array .int), (cH, .int), (cH, .int), (cH, .int), (cH, .int), (cH, .int), (cH, .int), (cH, .int), (cH, .int)]) [0, 1, 2, 3, 4, 5, 6, 7, 8, 9] rfl
        exact W.vret hx hb hr (fun tQ htQ hWQ => ⟨⟨(ft2, fr2), rfl, by rw [show k9 = 8 by omega] at hJ9; exact hJ9, by rw [htQ]; exact hP9, va_K.moved hWQ.alike hK9, hD9⟩, hS.F htQ⟩) hS.2.2 dX0_tryLast_79
      · skip
        have c_1 : ¬ 8 ≤ k9 := fun q => c_1 ((nI_leI (a := 8) (b := k9) (by omega) (by omega)).mpr q)
        rcases eight (k := k9) (by omega) with rfl | rfl | rfl | rfl | rfl | rfl | rfl | rfl
        · skip
          refine lv_lconst (v := 0) hx hb dX0_tryLast_8 (by decide) ?_
          refine lv_lstore (lv' := [(4, .long 0), (0, .ref ch), (1, .ref fa), (2, .int (nI k)), (3, .int 0)]) hx hb dX0_tryLast_9 hl (by decide) rfl (fun ls hl => ?_)
          refine lv_iconst (v := 0) hx hb dX0_tryLast_11 (by decide) ?_
          refine lv_istore (lv' := [(6, .int 0), (4, .long 0), (0, .ref ch), (1, .ref fa), (2, .int (nI k)), (3, .int 0)]) hx hb dX0_tryLast_12 hl (by decide) rfl (fun ls hl => ?_)
          have L14 : ∀ (nF : Nat) (i : Nat) (q : Int64), 36 - i < nF → (i ≤ 36) → (q = lN (smN (fun c9 => T c9 * Hh 0 c9) i)) → ∀ (H : Heap) (locs : List Loc), va_K (dC, dI) vwCl [(cA1, .long), (cHO, .array .int), (cH, .int), (cH, .int), (cH, .int), (cH, .int), (cH, .int), (cH, .int), (cH, .int), (cH, .int)] s → va_P (dC, dI) vwCl [(zo2lirrr ch ft2 fr2 dr tO hO), (zaL fa cA1 36 ff), (zaR hO cHO 8 (fun i => if i < 8 then some (rh i) else none)), (zaI (rh 0) cH 36 g0), (zaI (rh 1) cH 36 g1), (zaI (rh 2) cH 36 g2), (zaI (rh 3) cH 36 g3), (zaI (rh 4) cH 36 g4), (zaI (rh 5) cH 36 g5), (zaI (rh 6) cH 36 g6), (zaI (rh 7) cH 36 g7)] H → va_D A [(zo2lirrr ch ft2 fr2 dr tO hO), (zaL fa cA1 36 ff), (zaR hO cHO 8 (fun i => if i < 8 then some (rh i) else none)), (zaI (rh 0) cH 36 g0), (zaI (rh 1) cH 36 g1), (zaI (rh 2) cH 36 g2), (zaI (rh 3) cH 36 g3), (zaI (rh 4) cH 36 g4), (zaI (rh 5) cH 36 g5), (zaI (rh 6) cH 36 g6), (zaI (rh 7) cH 36 g7)] → va_S A s.heap H locs → ∀ (ls : Array Slot), lv_has ls 7 [(0, .ref ch), (1, .ref fa), (2, .int (nI k)), (3, .int 0), (4, .long q), (6, .int (nI i))] → W p l e ({ frames := 0, cells := 0, slots := 0, locals := 0 } : Room) s m args below meth c H locs 0 0 Q (F0 m 14 ls []) := by
            intro nF
            induction nF with
            | zero => intro i q hm; exact absurd hm (Nat.not_lt_zero _)
            | succ nF ih14 =>
              intro i q hm hi hq9 H locs hK hP hD hS ls hl
              refine lv_iload hx hb dX0_tryLast_14 (lv_at hl 5 rfl) ?_
              refine lv_bipush (v := 36) hx hb dX0_tryLast_16 (by decide) ?_
              refine lv_icmp_ge (tgt := 47) hx hb dX0_tryLast_18 (by decide) (fun c_2 => ?_) (fun c_2 => ?_)
              · skip
                have c_2 : 36 ≤ i := (nI_leI (a := 36) (b := i) (by omega) (by omega)).mp c_2
                have hS9 : q = lN (U (k * 8 + 0)) := by rw [hU 0 (by omega)]; exact sm_z hq9 (by omega)
                subst hS9
                refine lv_lload hx hb dX0_tryLast_47 (lv_at hl 4 rfl) ?_
                refine lv_aload_n hx hb dX0_tryLast_49 rfl (lv_at hl 0 rfl) ?_
                refine va_get (D := (dC, dI)) (ci := 2) (v := .long ft2) (C := RX0) (T := TX0) (N := 5) hx hb hts kc_xTryLast_0 hown hK hP 0 rfl rfl 0 (by decide) (hts (.fieldLink RX0 66 "MistHeaps$Chances" "foundTimes" "J") kc_xTryLast_1) (fun _ h9 => h9) rfl dX0_tryLast_50 ?_
                refine W.lcmp hx hb dX0_tryLast_53 ?_
                refine lv_if_le (tgt := 73) hx hb dX0_tryLast_54 (by decide) (fun c_3 => ?_) (fun c_3 => ?_)
                · skip
                  refine lv_iinc (v := 1) (lv' := [(3, .int 1), (0, .ref ch), (1, .ref fa), (2, .int (nI k)), (4, .long (lN (U (k * 8 + 0)))), (6, .int (nI i))]) hx hb dX0_tryLast_73 hl (k := 3) rfl (by decide) (by decide) rfl (fun ls hl => ?_)
                  refine lv_goto (tgt := 2) hx hb dX0_tryLast_76 (by decide) ?_
                  exact ih2 (1) (ft2) (fr2) (by omega) (by omega) (fj_n hJ9 hUb (fun z9 => absurd ((lg_cmp_le _ _).mp c_3) (Int64.not_le.mpr z9))) _ _ (hK.sub [0, 1, 2, 3, 4, 5, 6, 7, 8, 9] rfl) (hP.sub [0, 1, 2, 3, 4, 5, 6, 7, 8, 9, 10] rfl) (hD.sub [0, 1, 2, 3, 4, 5, 6, 7, 8, 9, 10] (by decide) rfl) hS ls (lv_sub hl [1, 2, 3, 0] rfl)
                · skip
                  refine lv_aload_n hx hb dX0_tryLast_57 rfl (lv_at hl 0 rfl) ?_
                  refine lv_lload hx hb dX0_tryLast_58 (lv_at hl 4 rfl) ?_
                  refine va_put (D := (dC, dI)) (ci := 2) (v := .long (lN (U (k * 8 + 0)))) (ty := .long) (C := RX0) (T := TX0) (N := 5) hx hb hts kc_xTryLast_0 tyX0 tyX0_ok nmX0 hown hK hP hD hS 0 rfl rfl 0 (by decide) (hts (.fieldLink RX0 66 "MistHeaps$Chances" "foundTimes" "J") kc_xTryLast_1) (fun _ h9 => h9) rfl (by decide +kernel) rfl rfl (Nat.le_of_ble_eq_true rfl) dX0_tryLast_60 (fun H locs hP hD hS => ?_)
                  have hP : va_P (dC, dI) vwCl [(zo2lirrr ch (lN (U (k * 8 + 0))) fr2 dr tO hO), (zaL fa cA1 36 ff), (zaR hO cHO 8 (fun i => if i < 8 then some (rh i) else none)), (zaI (rh 0) cH 36 g0), (zaI (rh 1) cH 36 g1), (zaI (rh 2) cH 36 g2), (zaI (rh 3) cH 36 g3), (zaI (rh 4) cH 36 g4), (zaI (rh 5) cH 36 g5), (zaI (rh 6) cH 36 g6), (zaI (rh 7) cH 36 g7)] H := hP
                  have hD : va_D A [(zo2lirrr ch (lN (U (k * 8 + 0))) fr2 dr tO hO), (zaL fa cA1 36 ff), (zaR hO cHO 8 (fun i => if i < 8 then some (rh i) else none)), (zaI (rh 0) cH 36 g0), (zaI (rh 1) cH 36 g1), (zaI (rh 2) cH 36 g2), (zaI (rh 3) cH 36 g3), (zaI (rh 4) cH 36 g4), (zaI (rh 5) cH 36 g5), (zaI (rh 6) cH 36 g6), (zaI (rh 7) cH 36 g7)] := hD
                  refine lv_aload_n hx hb dX0_tryLast_63 rfl (lv_at hl 0 rfl) ?_
                  refine lv_iload_n hx hb dX0_tryLast_64 rfl (lv_at hl 2 rfl) ?_
                  refine lv_bipush (v := 8) hx hb dX0_tryLast_65 (by decide) ?_
                  refine lv_imul hx hb dX0_tryLast_67 ?_
                  refine qi_as (y := nI (k * 8)) (pk_mul k 8) ?_
                  refine lv_iload_n hx hb dX0_tryLast_68 rfl (lv_at hl 3 rfl) ?_
                  refine lv_iadd hx hb dX0_tryLast_69 ?_
                  refine qi_as (y := nI ((k * 8) + 0)) (nI_add (k * 8) 0) ?_
                  refine va_put (D := (dC, dI)) (ci := 2) (v := .int (nI ((k * 8) + 0))) (ty := .int) (C := RX0) (T := TX0) (N := 5) hx hb hts kc_xTryLast_0 tyX0 tyX0_ok nmX0 hown hK hP hD hS 0 rfl rfl 1 (by decide) (hts (.fieldLink RX0 77 "MistHeaps$Chances" "foundRow" "I") kc_xTryLast_2) (fun _ h9 => h9) rfl (by decide +kernel) rfl rfl (Nat.le_of_ble_eq_true rfl) dX0_tryLast_70 (fun H locs hP hD hS => ?_)
                  have hP : va_P (dC, dI) vwCl [(zo2lirrr ch (lN (U (k * 8 + 0))) (nI ((k * 8) + 0)) dr tO hO), (zaL fa cA1 36 ff), (zaR hO cHO 8 (fun i => if i < 8 then some (rh i) else none)), (zaI (rh 0) cH 36 g0), (zaI (rh 1) cH 36 g1), (zaI (rh 2) cH 36 g2), (zaI (rh 3) cH 36 g3), (zaI (rh 4) cH 36 g4), (zaI (rh 5) cH 36 g5), (zaI (rh 6) cH 36 g6), (zaI (rh 7) cH 36 g7)] H := hP
                  have hD : va_D A [(zo2lirrr ch (lN (U (k * 8 + 0))) (nI ((k * 8) + 0)) dr tO hO), (zaL fa cA1 36 ff), (zaR hO cHO 8 (fun i => if i < 8 then some (rh i) else none)), (zaI (rh 0) cH 36 g0), (zaI (rh 1) cH 36 g1), (zaI (rh 2) cH 36 g2), (zaI (rh 3) cH 36 g3), (zaI (rh 4) cH 36 g4), (zaI (rh 5) cH 36 g5), (zaI (rh 6) cH 36 g6), (zaI (rh 7) cH 36 g7)] := hD
                  refine lv_iinc (v := 1) (lv' := [(3, .int 1), (0, .ref ch), (1, .ref fa), (2, .int (nI k)), (4, .long (lN (U (k * 8 + 0)))), (6, .int (nI i))]) hx hb dX0_tryLast_73 hl (k := 3) rfl (by decide) (by decide) rfl (fun ls hl => ?_)
                  refine lv_goto (tgt := 2) hx hb dX0_tryLast_76 (by decide) ?_
                  exact ih2 (1) (lN (U (k * 8 + 0))) (nI ((k * 8) + 0)) (by omega) (by omega) (fj_y hJ9 hUb (Int64.not_le.mp (fun z9 => c_3 ((lg_cmp_le _ _).mpr z9)))) _ _ (hK.sub [0, 1, 2, 3, 4, 5, 6, 7, 8, 9] rfl) (hP.sub [0, 1, 2, 3, 4, 5, 6, 7, 8, 9, 10] rfl) (hD.sub [0, 1, 2, 3, 4, 5, 6, 7, 8, 9, 10] (by decide) rfl) hS ls (lv_sub hl [1, 2, 3, 0] rfl)
              · skip
                have c_2 : ¬ 36 ≤ i := fun q => c_2 ((nI_leI (a := 36) (b := i) (by omega) (by omega)).mpr q)
                refine lv_lload hx hb dX0_tryLast_21 (lv_at hl 4 rfl) ?_
                refine lv_aload_n hx hb dX0_tryLast_23 rfl (lv_at hl 1 rfl) ?_
                refine lv_iload hx hb dX0_tryLast_24 (lv_at hl 5 rfl) ?_
                refine va_lald hx hb hK hP 1 0 rfl rfl (vp_in_nI (n := i) (N := 36) (by omega) (by omega)) dX0_tryLast_26 ?_
                refine ql_as (y := lN (T i)) ((show ff (nI i : Int32).toNatClampNeg = ff i from by rw [nI_clamp (by omega)]).trans (hT i (by omega))) ?_
                have hH9 := hHb 0 i (by omega)
                refine lv_aload_n hx hb dX0_tryLast_27 rfl (lv_at hl 0 rfl) ?_
                refine va_get (D := (dC, dI)) (ci := 2) (v := .ref hO) (C := RX0) (T := TX0) (N := 5) hx hb hts kc_xTryLast_0 hown hK hP 0 rfl rfl 4 (by decide) (hts (.fieldLink RX0 22 "MistHeaps$Chances" "hits" "[[I") kc_xTryLast_3) (fun _ h9 => h9) rfl dX0_tryLast_28 ?_
                refine lv_iload_n hx hb dX0_tryLast_31 rfl (lv_at hl 3 rfl) ?_
                refine va_alda hx hb hK hP 2 1 rfl rfl (vp_in_nI (n := 0) (N := 8) (by omega) (by omega)) dX0_tryLast_32 ?_
                refine qq_as (v := .ref (rh 0)) (rfl) ?_
                refine lv_iload hx hb dX0_tryLast_33 (lv_at hl 5 rfl) ?_
                refine va_iald hx hb hK hP 3 2 rfl rfl (vp_in_nI (n := i) (N := 36) (by omega) (by omega)) dX0_tryLast_35 ?_
                refine qi_as (y := nI (Hh 0 i)) ((show g0 (nI i : Int32).toNatClampNeg = g0 i from by rw [nI_clamp (by omega)]).trans (hh0 i (by omega))) ?_
                refine lv_i2l (v := lN (Hh 0 i)) hx hb dX0_tryLast_36 (nI_l (by omega)) ?_
                refine lv_lmul hx hb dX0_tryLast_37 ?_
                refine ql_as (y := lN (T i * Hh 0 i)) (lN_mul _ _) ?_
                refine lv_ladd hx hb dX0_tryLast_38 ?_
                refine lv_lstore (lv' := [(4, .long (q + (lN (T i * Hh 0 i)))), (0, .ref ch), (1, .ref fa), (2, .int (nI k)), (3, .int 0), (6, .int (nI i))]) hx hb dX0_tryLast_39 hl (by decide) rfl (fun ls hl => ?_)
                refine lv_iinc (v := nI (i + 1)) (lv' := [(6, .int (nI (i + 1))), (4, .long (q + (lN (T i * Hh 0 i)))), (0, .ref ch), (1, .ref fa), (2, .int (nI k)), (3, .int 0)]) hx hb dX0_tryLast_41 hl (k := 5) rfl (nI_add i 1) (by decide) rfl (fun ls hl => ?_)
                refine lv_goto (tgt := 14) hx hb dX0_tryLast_44 (by decide) ?_
                exact ih14 (i + 1) (q + (lN (T i * Hh 0 i))) (by omega) (by omega) (sm_q hq9) _ _ (hK.sub [0, 1, 2, 3, 4, 5, 6, 7, 8, 9] rfl) (hP.sub [0, 1, 2, 3, 4, 5, 6, 7, 8, 9, 10] rfl) (hD.sub [0, 1, 2, 3, 4, 5, 6, 7, 8, 9, 10] (by decide) rfl) hS ls (lv_sub hl [2, 3, 4, 5, 1, 0] rfl)
          exact L14 _ (0) (0) (Nat.lt_succ_self _) (by omega) (rfl) _ _ (hK.sub [0, 1, 2, 3, 4, 5, 6, 7, 8, 9] rfl) (hP.sub [0, 1, 2, 3, 4, 5, 6, 7, 8, 9, 10] rfl) (hD.sub [0, 1, 2, 3, 4, 5, 6, 7, 8, 9, 10] (by decide) rfl) hS ls (lv_sub hl [2, 3, 4, 5, 1, 0] rfl)
        · skip
          refine lv_lconst (v := 0) hx hb dX0_tryLast_8 (by decide) ?_
          refine lv_lstore (lv' := [(4, .long 0), (0, .ref ch), (1, .ref fa), (2, .int (nI k)), (3, .int 1)]) hx hb dX0_tryLast_9 hl (by decide) rfl (fun ls hl => ?_)
          refine lv_iconst (v := 0) hx hb dX0_tryLast_11 (by decide) ?_
          refine lv_istore (lv' := [(6, .int 0), (4, .long 0), (0, .ref ch), (1, .ref fa), (2, .int (nI k)), (3, .int 1)]) hx hb dX0_tryLast_12 hl (by decide) rfl (fun ls hl => ?_)
          have L14 : ∀ (nF : Nat) (i : Nat) (q : Int64), 36 - i < nF → (i ≤ 36) → (q = lN (smN (fun c9 => T c9 * Hh 1 c9) i)) → ∀ (H : Heap) (locs : List Loc), va_K (dC, dI) vwCl [(cA1, .long), (cHO, .array .int), (cH, .int), (cH, .int), (cH, .int), (cH, .int), (cH, .int), (cH, .int), (cH, .int), (cH, .int)] s → va_P (dC, dI) vwCl [(zo2lirrr ch ft2 fr2 dr tO hO), (zaL fa cA1 36 ff), (zaR hO cHO 8 (fun i => if i < 8 then some (rh i) else none)), (zaI (rh 0) cH 36 g0), (zaI (rh 1) cH 36 g1), (zaI (rh 2) cH 36 g2), (zaI (rh 3) cH 36 g3), (zaI (rh 4) cH 36 g4), (zaI (rh 5) cH 36 g5), (zaI (rh 6) cH 36 g6), (zaI (rh 7) cH 36 g7)] H → va_D A [(zo2lirrr ch ft2 fr2 dr tO hO), (zaL fa cA1 36 ff), (zaR hO cHO 8 (fun i => if i < 8 then some (rh i) else none)), (zaI (rh 0) cH 36 g0), (zaI (rh 1) cH 36 g1), (zaI (rh 2) cH 36 g2), (zaI (rh 3) cH 36 g3), (zaI (rh 4) cH 36 g4), (zaI (rh 5) cH 36 g5), (zaI (rh 6) cH 36 g6), (zaI (rh 7) cH 36 g7)] → va_S A s.heap H locs → ∀ (ls : Array Slot), lv_has ls 7 [(0, .ref ch), (1, .ref fa), (2, .int (nI k)), (3, .int 1), (4, .long q), (6, .int (nI i))] → W p l e ({ frames := 0, cells := 0, slots := 0, locals := 0 } : Room) s m args below meth c H locs 0 0 Q (F0 m 14 ls []) := by
            intro nF
            induction nF with
            | zero => intro i q hm; exact absurd hm (Nat.not_lt_zero _)
            | succ nF ih14 =>
              intro i q hm hi hq9 H locs hK hP hD hS ls hl
              refine lv_iload hx hb dX0_tryLast_14 (lv_at hl 5 rfl) ?_
              refine lv_bipush (v := 36) hx hb dX0_tryLast_16 (by decide) ?_
              refine lv_icmp_ge (tgt := 47) hx hb dX0_tryLast_18 (by decide) (fun c_4 => ?_) (fun c_4 => ?_)
              · skip
                have c_4 : 36 ≤ i := (nI_leI (a := 36) (b := i) (by omega) (by omega)).mp c_4
                have hS9 : q = lN (U (k * 8 + 1)) := by rw [hU 1 (by omega)]; exact sm_z hq9 (by omega)
                subst hS9
                refine lv_lload hx hb dX0_tryLast_47 (lv_at hl 4 rfl) ?_
                refine lv_aload_n hx hb dX0_tryLast_49 rfl (lv_at hl 0 rfl) ?_
                refine va_get (D := (dC, dI)) (ci := 2) (v := .long ft2) (C := RX0) (T := TX0) (N := 5) hx hb hts kc_xTryLast_0 hown hK hP 0 rfl rfl 0 (by decide) (hts (.fieldLink RX0 66 "MistHeaps$Chances" "foundTimes" "J") kc_xTryLast_1) (fun _ h9 => h9) rfl dX0_tryLast_50 ?_
                refine W.lcmp hx hb dX0_tryLast_53 ?_
                refine lv_if_le (tgt := 73) hx hb dX0_tryLast_54 (by decide) (fun c_5 => ?_) (fun c_5 => ?_)
                · skip
                  refine lv_iinc (v := 2) (lv' := [(3, .int 2), (0, .ref ch), (1, .ref fa), (2, .int (nI k)), (4, .long (lN (U (k * 8 + 1)))), (6, .int (nI i))]) hx hb dX0_tryLast_73 hl (k := 3) rfl (by decide) (by decide) rfl (fun ls hl => ?_)
                  refine lv_goto (tgt := 2) hx hb dX0_tryLast_76 (by decide) ?_
                  exact ih2 (2) (ft2) (fr2) (by omega) (by omega) (fj_n hJ9 hUb (fun z9 => absurd ((lg_cmp_le _ _).mp c_5) (Int64.not_le.mpr z9))) _ _ (hK.sub [0, 1, 2, 3, 4, 5, 6, 7, 8, 9] rfl) (hP.sub [0, 1, 2, 3, 4, 5, 6, 7, 8, 9, 10] rfl) (hD.sub [0, 1, 2, 3, 4, 5, 6, 7, 8, 9, 10] (by decide) rfl) hS ls (lv_sub hl [1, 2, 3, 0] rfl)
                · skip
                  refine lv_aload_n hx hb dX0_tryLast_57 rfl (lv_at hl 0 rfl) ?_
                  refine lv_lload hx hb dX0_tryLast_58 (lv_at hl 4 rfl) ?_
                  refine va_put (D := (dC, dI)) (ci := 2) (v := .long (lN (U (k * 8 + 1)))) (ty := .long) (C := RX0) (T := TX0) (N := 5) hx hb hts kc_xTryLast_0 tyX0 tyX0_ok nmX0 hown hK hP hD hS 0 rfl rfl 0 (by decide) (hts (.fieldLink RX0 66 "MistHeaps$Chances" "foundTimes" "J") kc_xTryLast_1) (fun _ h9 => h9) rfl (by decide +kernel) rfl rfl (Nat.le_of_ble_eq_true rfl) dX0_tryLast_60 (fun H locs hP hD hS => ?_)
                  have hP : va_P (dC, dI) vwCl [(zo2lirrr ch (lN (U (k * 8 + 1))) fr2 dr tO hO), (zaL fa cA1 36 ff), (zaR hO cHO 8 (fun i => if i < 8 then some (rh i) else none)), (zaI (rh 0) cH 36 g0), (zaI (rh 1) cH 36 g1), (zaI (rh 2) cH 36 g2), (zaI (rh 3) cH 36 g3), (zaI (rh 4) cH 36 g4), (zaI (rh 5) cH 36 g5), (zaI (rh 6) cH 36 g6), (zaI (rh 7) cH 36 g7)] H := hP
                  have hD : va_D A [(zo2lirrr ch (lN (U (k * 8 + 1))) fr2 dr tO hO), (zaL fa cA1 36 ff), (zaR hO cHO 8 (fun i => if i < 8 then some (rh i) else none)), (zaI (rh 0) cH 36 g0), (zaI (rh 1) cH 36 g1), (zaI (rh 2) cH 36 g2), (zaI (rh 3) cH 36 g3), (zaI (rh 4) cH 36 g4), (zaI (rh 5) cH 36 g5), (zaI (rh 6) cH 36 g6), (zaI (rh 7) cH 36 g7)] := hD
                  refine lv_aload_n hx hb dX0_tryLast_63 rfl (lv_at hl 0 rfl) ?_
                  refine lv_iload_n hx hb dX0_tryLast_64 rfl (lv_at hl 2 rfl) ?_
                  refine lv_bipush (v := 8) hx hb dX0_tryLast_65 (by decide) ?_
                  refine lv_imul hx hb dX0_tryLast_67 ?_
                  refine qi_as (y := nI (k * 8)) (pk_mul k 8) ?_
                  refine lv_iload_n hx hb dX0_tryLast_68 rfl (lv_at hl 3 rfl) ?_
                  refine lv_iadd hx hb dX0_tryLast_69 ?_
                  refine qi_as (y := nI ((k * 8) + 1)) (nI_add (k * 8) 1) ?_
                  refine va_put (D := (dC, dI)) (ci := 2) (v := .int (nI ((k * 8) + 1))) (ty := .int) (C := RX0) (T := TX0) (N := 5) hx hb hts kc_xTryLast_0 tyX0 tyX0_ok nmX0 hown hK hP hD hS 0 rfl rfl 1 (by decide) (hts (.fieldLink RX0 77 "MistHeaps$Chances" "foundRow" "I") kc_xTryLast_2) (fun _ h9 => h9) rfl (by decide +kernel) rfl rfl (Nat.le_of_ble_eq_true rfl) dX0_tryLast_70 (fun H locs hP hD hS => ?_)
                  have hP : va_P (dC, dI) vwCl [(zo2lirrr ch (lN (U (k * 8 + 1))) (nI ((k * 8) + 1)) dr tO hO), (zaL fa cA1 36 ff), (zaR hO cHO 8 (fun i => if i < 8 then some (rh i) else none)), (zaI (rh 0) cH 36 g0), (zaI (rh 1) cH 36 g1), (zaI (rh 2) cH 36 g2), (zaI (rh 3) cH 36 g3), (zaI (rh 4) cH 36 g4), (zaI (rh 5) cH 36 g5), (zaI (rh 6) cH 36 g6), (zaI (rh 7) cH 36 g7)] H := hP
                  have hD : va_D A [(zo2lirrr ch (lN (U (k * 8 + 1))) (nI ((k * 8) + 1)) dr tO hO), (zaL fa cA1 36 ff), (zaR hO cHO 8 (fun i => if i < 8 then some (rh i) else none)), (zaI (rh 0) cH 36 g0), (zaI (rh 1) cH 36 g1), (zaI (rh 2) cH 36 g2), (zaI (rh 3) cH 36 g3), (zaI (rh 4) cH 36 g4), (zaI (rh 5) cH 36 g5), (zaI (rh 6) cH 36 g6), (zaI (rh 7) cH 36 g7)] := hD
                  refine lv_iinc (v := 2) (lv' := [(3, .int 2), (0, .ref ch), (1, .ref fa), (2, .int (nI k)), (4, .long (lN (U (k * 8 + 1)))), (6, .int (nI i))]) hx hb dX0_tryLast_73 hl (k := 3) rfl (by decide) (by decide) rfl (fun ls hl => ?_)
                  refine lv_goto (tgt := 2) hx hb dX0_tryLast_76 (by decide) ?_
                  exact ih2 (2) (lN (U (k * 8 + 1))) (nI ((k * 8) + 1)) (by omega) (by omega) (fj_y hJ9 hUb (Int64.not_le.mp (fun z9 => c_5 ((lg_cmp_le _ _).mpr z9)))) _ _ (hK.sub [0, 1, 2, 3, 4, 5, 6, 7, 8, 9] rfl) (hP.sub [0, 1, 2, 3, 4, 5, 6, 7, 8, 9, 10] rfl) (hD.sub [0, 1, 2, 3, 4, 5, 6, 7, 8, 9, 10] (by decide) rfl) hS ls (lv_sub hl [1, 2, 3, 0] rfl)
              · skip
                have c_4 : ¬ 36 ≤ i := fun q => c_4 ((nI_leI (a := 36) (b := i) (by omega) (by omega)).mpr q)
                refine lv_lload hx hb dX0_tryLast_21 (lv_at hl 4 rfl) ?_
                refine lv_aload_n hx hb dX0_tryLast_23 rfl (lv_at hl 1 rfl) ?_
                refine lv_iload hx hb dX0_tryLast_24 (lv_at hl 5 rfl) ?_
                refine va_lald hx hb hK hP 1 0 rfl rfl (vp_in_nI (n := i) (N := 36) (by omega) (by omega)) dX0_tryLast_26 ?_
                refine ql_as (y := lN (T i)) ((show ff (nI i : Int32).toNatClampNeg = ff i from by rw [nI_clamp (by omega)]).trans (hT i (by omega))) ?_
                have hH9 := hHb 1 i (by omega)
                refine lv_aload_n hx hb dX0_tryLast_27 rfl (lv_at hl 0 rfl) ?_
                refine va_get (D := (dC, dI)) (ci := 2) (v := .ref hO) (C := RX0) (T := TX0) (N := 5) hx hb hts kc_xTryLast_0 hown hK hP 0 rfl rfl 4 (by decide) (hts (.fieldLink RX0 22 "MistHeaps$Chances" "hits" "[[I") kc_xTryLast_3) (fun _ h9 => h9) rfl dX0_tryLast_28 ?_
                refine lv_iload_n hx hb dX0_tryLast_31 rfl (lv_at hl 3 rfl) ?_
                refine va_alda hx hb hK hP 2 1 rfl rfl (vp_in_nI (n := 1) (N := 8) (by omega) (by omega)) dX0_tryLast_32 ?_
                refine qq_as (v := .ref (rh 1)) (rfl) ?_
                refine lv_iload hx hb dX0_tryLast_33 (lv_at hl 5 rfl) ?_
                refine va_iald hx hb hK hP 4 3 rfl rfl (vp_in_nI (n := i) (N := 36) (by omega) (by omega)) dX0_tryLast_35 ?_
                refine qi_as (y := nI (Hh 1 i)) ((show g1 (nI i : Int32).toNatClampNeg = g1 i from by rw [nI_clamp (by omega)]).trans (hh1 i (by omega))) ?_
                refine lv_i2l (v := lN (Hh 1 i)) hx hb dX0_tryLast_36 (nI_l (by omega)) ?_
                refine lv_lmul hx hb dX0_tryLast_37 ?_
                refine ql_as (y := lN (T i * Hh 1 i)) (lN_mul _ _) ?_
                refine lv_ladd hx hb dX0_tryLast_38 ?_
                refine lv_lstore (lv' := [(4, .long (q + (lN (T i * Hh 1 i)))), (0, .ref ch), (1, .ref fa), (2, .int (nI k)), (3, .int 1), (6, .int (nI i))]) hx hb dX0_tryLast_39 hl (by decide) rfl (fun ls hl => ?_)
                refine lv_iinc (v := nI (i + 1)) (lv' := [(6, .int (nI (i + 1))), (4, .long (q + (lN (T i * Hh 1 i)))), (0, .ref ch), (1, .ref fa), (2, .int (nI k)), (3, .int 1)]) hx hb dX0_tryLast_41 hl (k := 5) rfl (nI_add i 1) (by decide) rfl (fun ls hl => ?_)
                refine lv_goto (tgt := 14) hx hb dX0_tryLast_44 (by decide) ?_
                exact ih14 (i + 1) (q + (lN (T i * Hh 1 i))) (by omega) (by omega) (sm_q hq9) _ _ (hK.sub [0, 1, 2, 3, 4, 5, 6, 7, 8, 9] rfl) (hP.sub [0, 1, 2, 3, 4, 5, 6, 7, 8, 9, 10] rfl) (hD.sub [0, 1, 2, 3, 4, 5, 6, 7, 8, 9, 10] (by decide) rfl) hS ls (lv_sub hl [2, 3, 4, 5, 1, 0] rfl)
          exact L14 _ (0) (0) (Nat.lt_succ_self _) (by omega) (rfl) _ _ (hK.sub [0, 1, 2, 3, 4, 5, 6, 7, 8, 9] rfl) (hP.sub [0, 1, 2, 3, 4, 5, 6, 7, 8, 9, 10] rfl) (hD.sub [0, 1, 2, 3, 4, 5, 6, 7, 8, 9, 10] (by decide) rfl) hS ls (lv_sub hl [2, 3, 4, 5, 1, 0] rfl)
        · skip
          refine lv_lconst (v := 0) hx hb dX0_tryLast_8 (by decide) ?_
          refine lv_lstore (lv' := [(4, .long 0), (0, .ref ch), (1, .ref fa), (2, .int (nI k)), (3, .int 2)]) hx hb dX0_tryLast_9 hl (by decide) rfl (fun ls hl => ?_)
          refine lv_iconst (v := 0) hx hb dX0_tryLast_11 (by decide) ?_
          refine lv_istore (lv' := [(6, .int 0), (4, .long 0), (0, .ref ch), (1, .ref fa), (2, .int (nI k)), (3, .int 2)]) hx hb dX0_tryLast_12 hl (by decide) rfl (fun ls hl => ?_)
          have L14 : ∀ (nF : Nat) (i : Nat) (q : Int64), 36 - i < nF → (i ≤ 36) → (q = lN (smN (fun c9 => T c9 * Hh 2 c9) i)) → ∀ (H : Heap) (locs : List Loc), va_K (dC, dI) vwCl [(cA1, .long), (cHO, .array .int), (cH, .int), (cH, .int), (cH, .int), (cH, .int), (cH, .int), (cH, .int), (cH, .int), (cH, .int)] s → va_P (dC, dI) vwCl [(zo2lirrr ch ft2 fr2 dr tO hO), (zaL fa cA1 36 ff), (zaR hO cHO 8 (fun i => if i < 8 then some (rh i) else none)), (zaI (rh 0) cH 36 g0), (zaI (rh 1) cH 36 g1), (zaI (rh 2) cH 36 g2), (zaI (rh 3) cH 36 g3), (zaI (rh 4) cH 36 g4), (zaI (rh 5) cH 36 g5), (zaI (rh 6) cH 36 g6), (zaI (rh 7) cH 36 g7)] H → va_D A [(zo2lirrr ch ft2 fr2 dr tO hO), (zaL fa cA1 36 ff), (zaR hO cHO 8 (fun i => if i < 8 then some (rh i) else none)), (zaI (rh 0) cH 36 g0), (zaI (rh 1) cH 36 g1), (zaI (rh 2) cH 36 g2), (zaI (rh 3) cH 36 g3), (zaI (rh 4) cH 36 g4), (zaI (rh 5) cH 36 g5), (zaI (rh 6) cH 36 g6), (zaI (rh 7) cH 36 g7)] → va_S A s.heap H locs → ∀ (ls : Array Slot), lv_has ls 7 [(0, .ref ch), (1, .ref fa), (2, .int (nI k)), (3, .int 2), (4, .long q), (6, .int (nI i))] → W p l e ({ frames := 0, cells := 0, slots := 0, locals := 0 } : Room) s m args below meth c H locs 0 0 Q (F0 m 14 ls []) := by
            intro nF
            induction nF with
            | zero => intro i q hm; exact absurd hm (Nat.not_lt_zero _)
            | succ nF ih14 =>
              intro i q hm hi hq9 H locs hK hP hD hS ls hl
              refine lv_iload hx hb dX0_tryLast_14 (lv_at hl 5 rfl) ?_
              refine lv_bipush (v := 36) hx hb dX0_tryLast_16 (by decide) ?_
              refine lv_icmp_ge (tgt := 47) hx hb dX0_tryLast_18 (by decide) (fun c_6 => ?_) (fun c_6 => ?_)
              · skip
                have c_6 : 36 ≤ i := (nI_leI (a := 36) (b := i) (by omega) (by omega)).mp c_6
                have hS9 : q = lN (U (k * 8 + 2)) := by rw [hU 2 (by omega)]; exact sm_z hq9 (by omega)
                subst hS9
                refine lv_lload hx hb dX0_tryLast_47 (lv_at hl 4 rfl) ?_
                refine lv_aload_n hx hb dX0_tryLast_49 rfl (lv_at hl 0 rfl) ?_
                refine va_get (D := (dC, dI)) (ci := 2) (v := .long ft2) (C := RX0) (T := TX0) (N := 5) hx hb hts kc_xTryLast_0 hown hK hP 0 rfl rfl 0 (by decide) (hts (.fieldLink RX0 66 "MistHeaps$Chances" "foundTimes" "J") kc_xTryLast_1) (fun _ h9 => h9) rfl dX0_tryLast_50 ?_
                refine W.lcmp hx hb dX0_tryLast_53 ?_
                refine lv_if_le (tgt := 73) hx hb dX0_tryLast_54 (by decide) (fun c_7 => ?_) (fun c_7 => ?_)
                · skip
                  refine lv_iinc (v := 3) (lv' := [(3, .int 3), (0, .ref ch), (1, .ref fa), (2, .int (nI k)), (4, .long (lN (U (k * 8 + 2)))), (6, .int (nI i))]) hx hb dX0_tryLast_73 hl (k := 3) rfl (by decide) (by decide) rfl (fun ls hl => ?_)
                  refine lv_goto (tgt := 2) hx hb dX0_tryLast_76 (by decide) ?_
                  exact ih2 (3) (ft2) (fr2) (by omega) (by omega) (fj_n hJ9 hUb (fun z9 => absurd ((lg_cmp_le _ _).mp c_7) (Int64.not_le.mpr z9))) _ _ (hK.sub [0, 1, 2, 3, 4, 5, 6, 7, 8, 9] rfl) (hP.sub [0, 1, 2, 3, 4, 5, 6, 7, 8, 9, 10] rfl) (hD.sub [0, 1, 2, 3, 4, 5, 6, 7, 8, 9, 10] (by decide) rfl) hS ls (lv_sub hl [1, 2, 3, 0] rfl)
                · skip
                  refine lv_aload_n hx hb dX0_tryLast_57 rfl (lv_at hl 0 rfl) ?_
                  refine lv_lload hx hb dX0_tryLast_58 (lv_at hl 4 rfl) ?_
                  refine va_put (D := (dC, dI)) (ci := 2) (v := .long (lN (U (k * 8 + 2)))) (ty := .long) (C := RX0) (T := TX0) (N := 5) hx hb hts kc_xTryLast_0 tyX0 tyX0_ok nmX0 hown hK hP hD hS 0 rfl rfl 0 (by decide) (hts (.fieldLink RX0 66 "MistHeaps$Chances" "foundTimes" "J") kc_xTryLast_1) (fun _ h9 => h9) rfl (by decide +kernel) rfl rfl (Nat.le_of_ble_eq_true rfl) dX0_tryLast_60 (fun H locs hP hD hS => ?_)
                  have hP : va_P (dC, dI) vwCl [(zo2lirrr ch (lN (U (k * 8 + 2))) fr2 dr tO hO), (zaL fa cA1 36 ff), (zaR hO cHO 8 (fun i => if i < 8 then some (rh i) else none)), (zaI (rh 0) cH 36 g0), (zaI (rh 1) cH 36 g1), (zaI (rh 2) cH 36 g2), (zaI (rh 3) cH 36 g3), (zaI (rh 4) cH 36 g4), (zaI (rh 5) cH 36 g5), (zaI (rh 6) cH 36 g6), (zaI (rh 7) cH 36 g7)] H := hP
                  have hD : va_D A [(zo2lirrr ch (lN (U (k * 8 + 2))) fr2 dr tO hO), (zaL fa cA1 36 ff), (zaR hO cHO 8 (fun i => if i < 8 then some (rh i) else none)), (zaI (rh 0) cH 36 g0), (zaI (rh 1) cH 36 g1), (zaI (rh 2) cH 36 g2), (zaI (rh 3) cH 36 g3), (zaI (rh 4) cH 36 g4), (zaI (rh 5) cH 36 g5), (zaI (rh 6) cH 36 g6), (zaI (rh 7) cH 36 g7)] := hD
                  refine lv_aload_n hx hb dX0_tryLast_63 rfl (lv_at hl 0 rfl) ?_
                  refine lv_iload_n hx hb dX0_tryLast_64 rfl (lv_at hl 2 rfl) ?_
                  refine lv_bipush (v := 8) hx hb dX0_tryLast_65 (by decide) ?_
                  refine lv_imul hx hb dX0_tryLast_67 ?_
                  refine qi_as (y := nI (k * 8)) (pk_mul k 8) ?_
                  refine lv_iload_n hx hb dX0_tryLast_68 rfl (lv_at hl 3 rfl) ?_
                  refine lv_iadd hx hb dX0_tryLast_69 ?_
                  refine qi_as (y := nI ((k * 8) + 2)) (nI_add (k * 8) 2) ?_
                  refine va_put (D := (dC, dI)) (ci := 2) (v := .int (nI ((k * 8) + 2))) (ty := .int) (C := RX0) (T := TX0) (N := 5) hx hb hts kc_xTryLast_0 tyX0 tyX0_ok nmX0 hown hK hP hD hS 0 rfl rfl 1 (by decide) (hts (.fieldLink RX0 77 "MistHeaps$Chances" "foundRow" "I") kc_xTryLast_2) (fun _ h9 => h9) rfl (by decide +kernel) rfl rfl (Nat.le_of_ble_eq_true rfl) dX0_tryLast_70 (fun H locs hP hD hS => ?_)
                  have hP : va_P (dC, dI) vwCl [(zo2lirrr ch (lN (U (k * 8 + 2))) (nI ((k * 8) + 2)) dr tO hO), (zaL fa cA1 36 ff), (zaR hO cHO 8 (fun i => if i < 8 then some (rh i) else none)), (zaI (rh 0) cH 36 g0), (zaI (rh 1) cH 36 g1), (zaI (rh 2) cH 36 g2), (zaI (rh 3) cH 36 g3), (zaI (rh 4) cH 36 g4), (zaI (rh 5) cH 36 g5), (zaI (rh 6) cH 36 g6), (zaI (rh 7) cH 36 g7)] H := hP
                  have hD : va_D A [(zo2lirrr ch (lN (U (k * 8 + 2))) (nI ((k * 8) + 2)) dr tO hO), (zaL fa cA1 36 ff), (zaR hO cHO 8 (fun i => if i < 8 then some (rh i) else none)), (zaI (rh 0) cH 36 g0), (zaI (rh 1) cH 36 g1), (zaI (rh 2) cH 36 g2), (zaI (rh 3) cH 36 g3), (zaI (rh 4) cH 36 g4), (zaI (rh 5) cH 36 g5), (zaI (rh 6) cH 36 g6), (zaI (rh 7) cH 36 g7)] := hD
                  refine lv_iinc (v := 3) (lv' := [(3, .int 3), (0, .ref ch), (1, .ref fa), (2, .int (nI k)), (4, .long (lN (U (k * 8 + 2)))), (6, .int (nI i))]) hx hb dX0_tryLast_73 hl (k := 3) rfl (by decide) (by decide) rfl (fun ls hl => ?_)
                  refine lv_goto (tgt := 2) hx hb dX0_tryLast_76 (by decide) ?_
                  exact ih2 (3) (lN (U (k * 8 + 2))) (nI ((k * 8) + 2)) (by omega) (by omega) (fj_y hJ9 hUb (Int64.not_le.mp (fun z9 => c_7 ((lg_cmp_le _ _).mpr z9)))) _ _ (hK.sub [0, 1, 2, 3, 4, 5, 6, 7, 8, 9] rfl) (hP.sub [0, 1, 2, 3, 4, 5, 6, 7, 8, 9, 10] rfl) (hD.sub [0, 1, 2, 3, 4, 5, 6, 7, 8, 9, 10] (by decide) rfl) hS ls (lv_sub hl [1, 2, 3, 0] rfl)
              · skip
                have c_6 : ¬ 36 ≤ i := fun q => c_6 ((nI_leI (a := 36) (b := i) (by omega) (by omega)).mpr q)
                refine lv_lload hx hb dX0_tryLast_21 (lv_at hl 4 rfl) ?_
                refine lv_aload_n hx hb dX0_tryLast_23 rfl (lv_at hl 1 rfl) ?_
                refine lv_iload hx hb dX0_tryLast_24 (lv_at hl 5 rfl) ?_
                refine va_lald hx hb hK hP 1 0 rfl rfl (vp_in_nI (n := i) (N := 36) (by omega) (by omega)) dX0_tryLast_26 ?_
                refine ql_as (y := lN (T i)) ((show ff (nI i : Int32).toNatClampNeg = ff i from by rw [nI_clamp (by omega)]).trans (hT i (by omega))) ?_
                have hH9 := hHb 2 i (by omega)
                refine lv_aload_n hx hb dX0_tryLast_27 rfl (lv_at hl 0 rfl) ?_
                refine va_get (D := (dC, dI)) (ci := 2) (v := .ref hO) (C := RX0) (T := TX0) (N := 5) hx hb hts kc_xTryLast_0 hown hK hP 0 rfl rfl 4 (by decide) (hts (.fieldLink RX0 22 "MistHeaps$Chances" "hits" "[[I") kc_xTryLast_3) (fun _ h9 => h9) rfl dX0_tryLast_28 ?_
                refine lv_iload_n hx hb dX0_tryLast_31 rfl (lv_at hl 3 rfl) ?_
                refine va_alda hx hb hK hP 2 1 rfl rfl (vp_in_nI (n := 2) (N := 8) (by omega) (by omega)) dX0_tryLast_32 ?_
                refine qq_as (v := .ref (rh 2)) (rfl) ?_
                refine lv_iload hx hb dX0_tryLast_33 (lv_at hl 5 rfl) ?_
                refine va_iald hx hb hK hP 5 4 rfl rfl (vp_in_nI (n := i) (N := 36) (by omega) (by omega)) dX0_tryLast_35 ?_
                refine qi_as (y := nI (Hh 2 i)) ((show g2 (nI i : Int32).toNatClampNeg = g2 i from by rw [nI_clamp (by omega)]).trans (hh2 i (by omega))) ?_
                refine lv_i2l (v := lN (Hh 2 i)) hx hb dX0_tryLast_36 (nI_l (by omega)) ?_
                refine lv_lmul hx hb dX0_tryLast_37 ?_
                refine ql_as (y := lN (T i * Hh 2 i)) (lN_mul _ _) ?_
                refine lv_ladd hx hb dX0_tryLast_38 ?_
                refine lv_lstore (lv' := [(4, .long (q + (lN (T i * Hh 2 i)))), (0, .ref ch), (1, .ref fa), (2, .int (nI k)), (3, .int 2), (6, .int (nI i))]) hx hb dX0_tryLast_39 hl (by decide) rfl (fun ls hl => ?_)
                refine lv_iinc (v := nI (i + 1)) (lv' := [(6, .int (nI (i + 1))), (4, .long (q + (lN (T i * Hh 2 i)))), (0, .ref ch), (1, .ref fa), (2, .int (nI k)), (3, .int 2)]) hx hb dX0_tryLast_41 hl (k := 5) rfl (nI_add i 1) (by decide) rfl (fun ls hl => ?_)
                refine lv_goto (tgt := 14) hx hb dX0_tryLast_44 (by decide) ?_
                exact ih14 (i + 1) (q + (lN (T i * Hh 2 i))) (by omega) (by omega) (sm_q hq9) _ _ (hK.sub [0, 1, 2, 3, 4, 5, 6, 7, 8, 9] rfl) (hP.sub [0, 1, 2, 3, 4, 5, 6, 7, 8, 9, 10] rfl) (hD.sub [0, 1, 2, 3, 4, 5, 6, 7, 8, 9, 10] (by decide) rfl) hS ls (lv_sub hl [2, 3, 4, 5, 1, 0] rfl)
          exact L14 _ (0) (0) (Nat.lt_succ_self _) (by omega) (rfl) _ _ (hK.sub [0, 1, 2, 3, 4, 5, 6, 7, 8, 9] rfl) (hP.sub [0, 1, 2, 3, 4, 5, 6, 7, 8, 9, 10] rfl) (hD.sub [0, 1, 2, 3, 4, 5, 6, 7, 8, 9, 10] (by decide) rfl) hS ls (lv_sub hl [2, 3, 4, 5, 1, 0] rfl)
        · skip
          refine lv_lconst (v := 0) hx hb dX0_tryLast_8 (by decide) ?_
          refine lv_lstore (lv' := [(4, .long 0), (0, .ref ch), (1, .ref fa), (2, .int (nI k)), (3, .int 3)]) hx hb dX0_tryLast_9 hl (by decide) rfl (fun ls hl => ?_)
          refine lv_iconst (v := 0) hx hb dX0_tryLast_11 (by decide) ?_
          refine lv_istore (lv' := [(6, .int 0), (4, .long 0), (0, .ref ch), (1, .ref fa), (2, .int (nI k)), (3, .int 3)]) hx hb dX0_tryLast_12 hl (by decide) rfl (fun ls hl => ?_)
          have L14 : ∀ (nF : Nat) (i : Nat) (q : Int64), 36 - i < nF → (i ≤ 36) → (q = lN (smN (fun c9 => T c9 * Hh 3 c9) i)) → ∀ (H : Heap) (locs : List Loc), va_K (dC, dI) vwCl [(cA1, .long), (cHO, .array .int), (cH, .int), (cH, .int), (cH, .int), (cH, .int), (cH, .int), (cH, .int), (cH, .int), (cH, .int)] s → va_P (dC, dI) vwCl [(zo2lirrr ch ft2 fr2 dr tO hO), (zaL fa cA1 36 ff), (zaR hO cHO 8 (fun i => if i < 8 then some (rh i) else none)), (zaI (rh 0) cH 36 g0), (zaI (rh 1) cH 36 g1), (zaI (rh 2) cH 36 g2), (zaI (rh 3) cH 36 g3), (zaI (rh 4) cH 36 g4), (zaI (rh 5) cH 36 g5), (zaI (rh 6) cH 36 g6), (zaI (rh 7) cH 36 g7)] H → va_D A [(zo2lirrr ch ft2 fr2 dr tO hO), (zaL fa cA1 36 ff), (zaR hO cHO 8 (fun i => if i < 8 then some (rh i) else none)), (zaI (rh 0) cH 36 g0), (zaI (rh 1) cH 36 g1), (zaI (rh 2) cH 36 g2), (zaI (rh 3) cH 36 g3), (zaI (rh 4) cH 36 g4), (zaI (rh 5) cH 36 g5), (zaI (rh 6) cH 36 g6), (zaI (rh 7) cH 36 g7)] → va_S A s.heap H locs → ∀ (ls : Array Slot), lv_has ls 7 [(0, .ref ch), (1, .ref fa), (2, .int (nI k)), (3, .int 3), (4, .long q), (6, .int (nI i))] → W p l e ({ frames := 0, cells := 0, slots := 0, locals := 0 } : Room) s m args below meth c H locs 0 0 Q (F0 m 14 ls []) := by
            intro nF
            induction nF with
            | zero => intro i q hm; exact absurd hm (Nat.not_lt_zero _)
            | succ nF ih14 =>
              intro i q hm hi hq9 H locs hK hP hD hS ls hl
              refine lv_iload hx hb dX0_tryLast_14 (lv_at hl 5 rfl) ?_
              refine lv_bipush (v := 36) hx hb dX0_tryLast_16 (by decide) ?_
              refine lv_icmp_ge (tgt := 47) hx hb dX0_tryLast_18 (by decide) (fun c_8 => ?_) (fun c_8 => ?_)
              · skip
                have c_8 : 36 ≤ i := (nI_leI (a := 36) (b := i) (by omega) (by omega)).mp c_8
                have hS9 : q = lN (U (k * 8 + 3)) := by rw [hU 3 (by omega)]; exact sm_z hq9 (by omega)
                subst hS9
                refine lv_lload hx hb dX0_tryLast_47 (lv_at hl 4 rfl) ?_
                refine lv_aload_n hx hb dX0_tryLast_49 rfl (lv_at hl 0 rfl) ?_
                refine va_get (D := (dC, dI)) (ci := 2) (v := .long ft2) (C := RX0) (T := TX0) (N := 5) hx hb hts kc_xTryLast_0 hown hK hP 0 rfl rfl 0 (by decide) (hts (.fieldLink RX0 66 "MistHeaps$Chances" "foundTimes" "J") kc_xTryLast_1) (fun _ h9 => h9) rfl dX0_tryLast_50 ?_
                refine W.lcmp hx hb dX0_tryLast_53 ?_
                refine lv_if_le (tgt := 73) hx hb dX0_tryLast_54 (by decide) (fun c_9 => ?_) (fun c_9 => ?_)
                · skip
                  refine lv_iinc (v := 4) (lv' := [(3, .int 4), (0, .ref ch), (1, .ref fa), (2, .int (nI k)), (4, .long (lN (U (k * 8 + 3)))), (6, .int (nI i))]) hx hb dX0_tryLast_73 hl (k := 3) rfl (by decide) (by decide) rfl (fun ls hl => ?_)
                  refine lv_goto (tgt := 2) hx hb dX0_tryLast_76 (by decide) ?_
                  exact ih2 (4) (ft2) (fr2) (by omega) (by omega) (fj_n hJ9 hUb (fun z9 => absurd ((lg_cmp_le _ _).mp c_9) (Int64.not_le.mpr z9))) _ _ (hK.sub [0, 1, 2, 3, 4, 5, 6, 7, 8, 9] rfl) (hP.sub [0, 1, 2, 3, 4, 5, 6, 7, 8, 9, 10] rfl) (hD.sub [0, 1, 2, 3, 4, 5, 6, 7, 8, 9, 10] (by decide) rfl) hS ls (lv_sub hl [1, 2, 3, 0] rfl)
                · skip
                  refine lv_aload_n hx hb dX0_tryLast_57 rfl (lv_at hl 0 rfl) ?_
                  refine lv_lload hx hb dX0_tryLast_58 (lv_at hl 4 rfl) ?_
                  refine va_put (D := (dC, dI)) (ci := 2) (v := .long (lN (U (k * 8 + 3)))) (ty := .long) (C := RX0) (T := TX0) (N := 5) hx hb hts kc_xTryLast_0 tyX0 tyX0_ok nmX0 hown hK hP hD hS 0 rfl rfl 0 (by decide) (hts (.fieldLink RX0 66 "MistHeaps$Chances" "foundTimes" "J") kc_xTryLast_1) (fun _ h9 => h9) rfl (by decide +kernel) rfl rfl (Nat.le_of_ble_eq_true rfl) dX0_tryLast_60 (fun H locs hP hD hS => ?_)
                  have hP : va_P (dC, dI) vwCl [(zo2lirrr ch (lN (U (k * 8 + 3))) fr2 dr tO hO), (zaL fa cA1 36 ff), (zaR hO cHO 8 (fun i => if i < 8 then some (rh i) else none)), (zaI (rh 0) cH 36 g0), (zaI (rh 1) cH 36 g1), (zaI (rh 2) cH 36 g2), (zaI (rh 3) cH 36 g3), (zaI (rh 4) cH 36 g4), (zaI (rh 5) cH 36 g5), (zaI (rh 6) cH 36 g6), (zaI (rh 7) cH 36 g7)] H := hP
                  have hD : va_D A [(zo2lirrr ch (lN (U (k * 8 + 3))) fr2 dr tO hO), (zaL fa cA1 36 ff), (zaR hO cHO 8 (fun i => if i < 8 then some (rh i) else none)), (zaI (rh 0) cH 36 g0), (zaI (rh 1) cH 36 g1), (zaI (rh 2) cH 36 g2), (zaI (rh 3) cH 36 g3), (zaI (rh 4) cH 36 g4), (zaI (rh 5) cH 36 g5), (zaI (rh 6) cH 36 g6), (zaI (rh 7) cH 36 g7)] := hD
                  refine lv_aload_n hx hb dX0_tryLast_63 rfl (lv_at hl 0 rfl) ?_
                  refine lv_iload_n hx hb dX0_tryLast_64 rfl (lv_at hl 2 rfl) ?_
                  refine lv_bipush (v := 8) hx hb dX0_tryLast_65 (by decide) ?_
                  refine lv_imul hx hb dX0_tryLast_67 ?_
                  refine qi_as (y := nI (k * 8)) (pk_mul k 8) ?_
                  refine lv_iload_n hx hb dX0_tryLast_68 rfl (lv_at hl 3 rfl) ?_
                  refine lv_iadd hx hb dX0_tryLast_69 ?_
                  refine qi_as (y := nI ((k * 8) + 3)) (nI_add (k * 8) 3) ?_
                  refine va_put (D := (dC, dI)) (ci := 2) (v := .int (nI ((k * 8) + 3))) (ty := .int) (C := RX0) (T := TX0) (N := 5) hx hb hts kc_xTryLast_0 tyX0 tyX0_ok nmX0 hown hK hP hD hS 0 rfl rfl 1 (by decide) (hts (.fieldLink RX0 77 "MistHeaps$Chances" "foundRow" "I") kc_xTryLast_2) (fun _ h9 => h9) rfl (by decide +kernel) rfl rfl (Nat.le_of_ble_eq_true rfl) dX0_tryLast_70 (fun H locs hP hD hS => ?_)
                  have hP : va_P (dC, dI) vwCl [(zo2lirrr ch (lN (U (k * 8 + 3))) (nI ((k * 8) + 3)) dr tO hO), (zaL fa cA1 36 ff), (zaR hO cHO 8 (fun i => if i < 8 then some (rh i) else none)), (zaI (rh 0) cH 36 g0), (zaI (rh 1) cH 36 g1), (zaI (rh 2) cH 36 g2), (zaI (rh 3) cH 36 g3), (zaI (rh 4) cH 36 g4), (zaI (rh 5) cH 36 g5), (zaI (rh 6) cH 36 g6), (zaI (rh 7) cH 36 g7)] H := hP
                  have hD : va_D A [(zo2lirrr ch (lN (U (k * 8 + 3))) (nI ((k * 8) + 3)) dr tO hO), (zaL fa cA1 36 ff), (zaR hO cHO 8 (fun i => if i < 8 then some (rh i) else none)), (zaI (rh 0) cH 36 g0), (zaI (rh 1) cH 36 g1), (zaI (rh 2) cH 36 g2), (zaI (rh 3) cH 36 g3), (zaI (rh 4) cH 36 g4), (zaI (rh 5) cH 36 g5), (zaI (rh 6) cH 36 g6), (zaI (rh 7) cH 36 g7)] := hD
                  refine lv_iinc (v := 4) (lv' := [(3, .int 4), (0, .ref ch), (1, .ref fa), (2, .int (nI k)), (4, .long (lN (U (k * 8 + 3)))), (6, .int (nI i))]) hx hb dX0_tryLast_73 hl (k := 3) rfl (by decide) (by decide) rfl (fun ls hl => ?_)
                  refine lv_goto (tgt := 2) hx hb dX0_tryLast_76 (by decide) ?_
                  exact ih2 (4) (lN (U (k * 8 + 3))) (nI ((k * 8) + 3)) (by omega) (by omega) (fj_y hJ9 hUb (Int64.not_le.mp (fun z9 => c_9 ((lg_cmp_le _ _).mpr z9)))) _ _ (hK.sub [0, 1, 2, 3, 4, 5, 6, 7, 8, 9] rfl) (hP.sub [0, 1, 2, 3, 4, 5, 6, 7, 8, 9, 10] rfl) (hD.sub [0, 1, 2, 3, 4, 5, 6, 7, 8, 9, 10] (by decide) rfl) hS ls (lv_sub hl [1, 2, 3, 0] rfl)
              · skip
                have c_8 : ¬ 36 ≤ i := fun q => c_8 ((nI_leI (a := 36) (b := i) (by omega) (by omega)).mpr q)
                refine lv_lload hx hb dX0_tryLast_21 (lv_at hl 4 rfl) ?_
                refine lv_aload_n hx hb dX0_tryLast_23 rfl (lv_at hl 1 rfl) ?_
                refine lv_iload hx hb dX0_tryLast_24 (lv_at hl 5 rfl) ?_
                refine va_lald hx hb hK hP 1 0 rfl rfl (vp_in_nI (n := i) (N := 36) (by omega) (by omega)) dX0_tryLast_26 ?_
                refine ql_as (y := lN (T i)) ((show ff (nI i : Int32).toNatClampNeg = ff i from by rw [nI_clamp (by omega)]).trans (hT i (by omega))) ?_
                have hH9 := hHb 3 i (by omega)
                refine lv_aload_n hx hb dX0_tryLast_27 rfl (lv_at hl 0 rfl) ?_
                refine va_get (D := (dC, dI)) (ci := 2) (v := .ref hO) (C := RX0) (T := TX0) (N := 5) hx hb hts kc_xTryLast_0 hown hK hP 0 rfl rfl 4 (by decide) (hts (.fieldLink RX0 22 "MistHeaps$Chances" "hits" "[[I") kc_xTryLast_3) (fun _ h9 => h9) rfl dX0_tryLast_28 ?_
                refine lv_iload_n hx hb dX0_tryLast_31 rfl (lv_at hl 3 rfl) ?_
                refine va_alda hx hb hK hP 2 1 rfl rfl (vp_in_nI (n := 3) (N := 8) (by omega) (by omega)) dX0_tryLast_32 ?_
                refine qq_as (v := .ref (rh 3)) (rfl) ?_
                refine lv_iload hx hb dX0_tryLast_33 (lv_at hl 5 rfl) ?_
                refine va_iald hx hb hK hP 6 5 rfl rfl (vp_in_nI (n := i) (N := 36) (by omega) (by omega)) dX0_tryLast_35 ?_
                refine qi_as (y := nI (Hh 3 i)) ((show g3 (nI i : Int32).toNatClampNeg = g3 i from by rw [nI_clamp (by omega)]).trans (hh3 i (by omega))) ?_
                refine lv_i2l (v := lN (Hh 3 i)) hx hb dX0_tryLast_36 (nI_l (by omega)) ?_
                refine lv_lmul hx hb dX0_tryLast_37 ?_
                refine ql_as (y := lN (T i * Hh 3 i)) (lN_mul _ _) ?_
                refine lv_ladd hx hb dX0_tryLast_38 ?_
                refine lv_lstore (lv' := [(4, .long (q + (lN (T i * Hh 3 i)))), (0, .ref ch), (1, .ref fa), (2, .int (nI k)), (3, .int 3), (6, .int (nI i))]) hx hb dX0_tryLast_39 hl (by decide) rfl (fun ls hl => ?_)
                refine lv_iinc (v := nI (i + 1)) (lv' := [(6, .int (nI (i + 1))), (4, .long (q + (lN (T i * Hh 3 i)))), (0, .ref ch), (1, .ref fa), (2, .int (nI k)), (3, .int 3)]) hx hb dX0_tryLast_41 hl (k := 5) rfl (nI_add i 1) (by decide) rfl (fun ls hl => ?_)
                refine lv_goto (tgt := 14) hx hb dX0_tryLast_44 (by decide) ?_
                exact ih14 (i + 1) (q + (lN (T i * Hh 3 i))) (by omega) (by omega) (sm_q hq9) _ _ (hK.sub [0, 1, 2, 3, 4, 5, 6, 7, 8, 9] rfl) (hP.sub [0, 1, 2, 3, 4, 5, 6, 7, 8, 9, 10] rfl) (hD.sub [0, 1, 2, 3, 4, 5, 6, 7, 8, 9, 10] (by decide) rfl) hS ls (lv_sub hl [2, 3, 4, 5, 1, 0] rfl)
          exact L14 _ (0) (0) (Nat.lt_succ_self _) (by omega) (rfl) _ _ (hK.sub [0, 1, 2, 3, 4, 5, 6, 7, 8, 9] rfl) (hP.sub [0, 1, 2, 3, 4, 5, 6, 7, 8, 9, 10] rfl) (hD.sub [0, 1, 2, 3, 4, 5, 6, 7, 8, 9, 10] (by decide) rfl) hS ls (lv_sub hl [2, 3, 4, 5, 1, 0] rfl)
        · skip
          refine lv_lconst (v := 0) hx hb dX0_tryLast_8 (by decide) ?_
          refine lv_lstore (lv' := [(4, .long 0), (0, .ref ch), (1, .ref fa), (2, .int (nI k)), (3, .int 4)]) hx hb dX0_tryLast_9 hl (by decide) rfl (fun ls hl => ?_)
          refine lv_iconst (v := 0) hx hb dX0_tryLast_11 (by decide) ?_
          refine lv_istore (lv' := [(6, .int 0), (4, .long 0), (0, .ref ch), (1, .ref fa), (2, .int (nI k)), (3, .int 4)]) hx hb dX0_tryLast_12 hl (by decide) rfl (fun ls hl => ?_)
          have L14 : ∀ (nF : Nat) (i : Nat) (q : Int64), 36 - i < nF → (i ≤ 36) → (q = lN (smN (fun c9 => T c9 * Hh 4 c9) i)) → ∀ (H : Heap) (locs : List Loc), va_K (dC, dI) vwCl [(cA1, .long), (cHO, .array .int), (cH, .int), (cH, .int), (cH, .int), (cH, .int), (cH, .int), (cH, .int), (cH, .int), (cH, .int)] s → va_P (dC, dI) vwCl [(zo2lirrr ch ft2 fr2 dr tO hO), (zaL fa cA1 36 ff), (zaR hO cHO 8 (fun i => if i < 8 then some (rh i) else none)), (zaI (rh 0) cH 36 g0), (zaI (rh 1) cH 36 g1), (zaI (rh 2) cH 36 g2), (zaI (rh 3) cH 36 g3), (zaI (rh 4) cH 36 g4), (zaI (rh 5) cH 36 g5), (zaI (rh 6) cH 36 g6), (zaI (rh 7) cH 36 g7)] H → va_D A [(zo2lirrr ch ft2 fr2 dr tO hO), (zaL fa cA1 36 ff), (zaR hO cHO 8 (fun i => if i < 8 then some (rh i) else none)), (zaI (rh 0) cH 36 g0), (zaI (rh 1) cH 36 g1), (zaI (rh 2) cH 36 g2), (zaI (rh 3) cH 36 g3), (zaI (rh 4) cH 36 g4), (zaI (rh 5) cH 36 g5), (zaI (rh 6) cH 36 g6), (zaI (rh 7) cH 36 g7)] → va_S A s.heap H locs → ∀ (ls : Array Slot), lv_has ls 7 [(0, .ref ch), (1, .ref fa), (2, .int (nI k)), (3, .int 4), (4, .long q), (6, .int (nI i))] → W p l e ({ frames := 0, cells := 0, slots := 0, locals := 0 } : Room) s m args below meth c H locs 0 0 Q (F0 m 14 ls []) := by
            intro nF
            induction nF with
            | zero => intro i q hm; exact absurd hm (Nat.not_lt_zero _)
            | succ nF ih14 =>
              intro i q hm hi hq9 H locs hK hP hD hS ls hl
              refine lv_iload hx hb dX0_tryLast_14 (lv_at hl 5 rfl) ?_
              refine lv_bipush (v := 36) hx hb dX0_tryLast_16 (by decide) ?_
              refine lv_icmp_ge (tgt := 47) hx hb dX0_tryLast_18 (by decide) (fun c_10 => ?_) (fun c_10 => ?_)
              · skip
                have c_10 : 36 ≤ i := (nI_leI (a := 36) (b := i) (by omega) (by omega)).mp c_10
                have hS9 : q = lN (U (k * 8 + 4)) := by rw [hU 4 (by omega)]; exact sm_z hq9 (by omega)
                subst hS9
                refine lv_lload hx hb dX0_tryLast_47 (lv_at hl 4 rfl) ?_
                refine lv_aload_n hx hb dX0_tryLast_49 rfl (lv_at hl 0 rfl) ?_
                refine va_get (D := (dC, dI)) (ci := 2) (v := .long ft2) (C := RX0) (T := TX0) (N := 5) hx hb hts kc_xTryLast_0 hown hK hP 0 rfl rfl 0 (by decide) (hts (.fieldLink RX0 66 "MistHeaps$Chances" "foundTimes" "J") kc_xTryLast_1) (fun _ h9 => h9) rfl dX0_tryLast_50 ?_
                refine W.lcmp hx hb dX0_tryLast_53 ?_
                refine lv_if_le (tgt := 73) hx hb dX0_tryLast_54 (by decide) (fun c_11 => ?_) (fun c_11 => ?_)
                · skip
                  refine lv_iinc (v := 5) (lv' := [(3, .int 5), (0, .ref ch), (1, .ref fa), (2, .int (nI k)), (4, .long (lN (U (k * 8 + 4)))), (6, .int (nI i))]) hx hb dX0_tryLast_73 hl (k := 3) rfl (by decide) (by decide) rfl (fun ls hl => ?_)
                  refine lv_goto (tgt := 2) hx hb dX0_tryLast_76 (by decide) ?_
                  exact ih2 (5) (ft2) (fr2) (by omega) (by omega) (fj_n hJ9 hUb (fun z9 => absurd ((lg_cmp_le _ _).mp c_11) (Int64.not_le.mpr z9))) _ _ (hK.sub [0, 1, 2, 3, 4, 5, 6, 7, 8, 9] rfl) (hP.sub [0, 1, 2, 3, 4, 5, 6, 7, 8, 9, 10] rfl) (hD.sub [0, 1, 2, 3, 4, 5, 6, 7, 8, 9, 10] (by decide) rfl) hS ls (lv_sub hl [1, 2, 3, 0] rfl)
                · skip
                  refine lv_aload_n hx hb dX0_tryLast_57 rfl (lv_at hl 0 rfl) ?_
                  refine lv_lload hx hb dX0_tryLast_58 (lv_at hl 4 rfl) ?_
                  refine va_put (D := (dC, dI)) (ci := 2) (v := .long (lN (U (k * 8 + 4)))) (ty := .long) (C := RX0) (T := TX0) (N := 5) hx hb hts kc_xTryLast_0 tyX0 tyX0_ok nmX0 hown hK hP hD hS 0 rfl rfl 0 (by decide) (hts (.fieldLink RX0 66 "MistHeaps$Chances" "foundTimes" "J") kc_xTryLast_1) (fun _ h9 => h9) rfl (by decide +kernel) rfl rfl (Nat.le_of_ble_eq_true rfl) dX0_tryLast_60 (fun H locs hP hD hS => ?_)
                  have hP : va_P (dC, dI) vwCl [(zo2lirrr ch (lN (U (k * 8 + 4))) fr2 dr tO hO), (zaL fa cA1 36 ff), (zaR hO cHO 8 (fun i => if i < 8 then some (rh i) else none)), (zaI (rh 0) cH 36 g0), (zaI (rh 1) cH 36 g1), (zaI (rh 2) cH 36 g2), (zaI (rh 3) cH 36 g3), (zaI (rh 4) cH 36 g4), (zaI (rh 5) cH 36 g5), (zaI (rh 6) cH 36 g6), (zaI (rh 7) cH 36 g7)] H := hP
                  have hD : va_D A [(zo2lirrr ch (lN (U (k * 8 + 4))) fr2 dr tO hO), (zaL fa cA1 36 ff), (zaR hO cHO 8 (fun i => if i < 8 then some (rh i) else none)), (zaI (rh 0) cH 36 g0), (zaI (rh 1) cH 36 g1), (zaI (rh 2) cH 36 g2), (zaI (rh 3) cH 36 g3), (zaI (rh 4) cH 36 g4), (zaI (rh 5) cH 36 g5), (zaI (rh 6) cH 36 g6), (zaI (rh 7) cH 36 g7)] := hD
                  refine lv_aload_n hx hb dX0_tryLast_63 rfl (lv_at hl 0 rfl) ?_
                  refine lv_iload_n hx hb dX0_tryLast_64 rfl (lv_at hl 2 rfl) ?_
                  refine lv_bipush (v := 8) hx hb dX0_tryLast_65 (by decide) ?_
                  refine lv_imul hx hb dX0_tryLast_67 ?_
                  refine qi_as (y := nI (k * 8)) (pk_mul k 8) ?_
                  refine lv_iload_n hx hb dX0_tryLast_68 rfl (lv_at hl 3 rfl) ?_
                  refine lv_iadd hx hb dX0_tryLast_69 ?_
                  refine qi_as (y := nI ((k * 8) + 4)) (nI_add (k * 8) 4) ?_
                  refine va_put (D := (dC, dI)) (ci := 2) (v := .int (nI ((k * 8) + 4))) (ty := .int) (C := RX0) (T := TX0) (N := 5) hx hb hts kc_xTryLast_0 tyX0 tyX0_ok nmX0 hown hK hP hD hS 0 rfl rfl 1 (by decide) (hts (.fieldLink RX0 77 "MistHeaps$Chances" "foundRow" "I") kc_xTryLast_2) (fun _ h9 => h9) rfl (by decide +kernel) rfl rfl (Nat.le_of_ble_eq_true rfl) dX0_tryLast_70 (fun H locs hP hD hS => ?_)
                  have hP : va_P (dC, dI) vwCl [(zo2lirrr ch (lN (U (k * 8 + 4))) (nI ((k * 8) + 4)) dr tO hO), (zaL fa cA1 36 ff), (zaR hO cHO 8 (fun i => if i < 8 then some (rh i) else none)), (zaI (rh 0) cH 36 g0), (zaI (rh 1) cH 36 g1), (zaI (rh 2) cH 36 g2), (zaI (rh 3) cH 36 g3), (zaI (rh 4) cH 36 g4), (zaI (rh 5) cH 36 g5), (zaI (rh 6) cH 36 g6), (zaI (rh 7) cH 36 g7)] H := hP
                  have hD : va_D A [(zo2lirrr ch (lN (U (k * 8 + 4))) (nI ((k * 8) + 4)) dr tO hO), (zaL fa cA1 36 ff), (zaR hO cHO 8 (fun i => if i < 8 then some (rh i) else none)), (zaI (rh 0) cH 36 g0), (zaI (rh 1) cH 36 g1), (zaI (rh 2) cH 36 g2), (zaI (rh 3) cH 36 g3), (zaI (rh 4) cH 36 g4), (zaI (rh 5) cH 36 g5), (zaI (rh 6) cH 36 g6), (zaI (rh 7) cH 36 g7)] := hD
                  refine lv_iinc (v := 5) (lv' := [(3, .int 5), (0, .ref ch), (1, .ref fa), (2, .int (nI k)), (4, .long (lN (U (k * 8 + 4)))), (6, .int (nI i))]) hx hb dX0_tryLast_73 hl (k := 3) rfl (by decide) (by decide) rfl (fun ls hl => ?_)
                  refine lv_goto (tgt := 2) hx hb dX0_tryLast_76 (by decide) ?_
                  exact ih2 (5) (lN (U (k * 8 + 4))) (nI ((k * 8) + 4)) (by omega) (by omega) (fj_y hJ9 hUb (Int64.not_le.mp (fun z9 => c_11 ((lg_cmp_le _ _).mpr z9)))) _ _ (hK.sub [0, 1, 2, 3, 4, 5, 6, 7, 8, 9] rfl) (hP.sub [0, 1, 2, 3, 4, 5, 6, 7, 8, 9, 10] rfl) (hD.sub [0, 1, 2, 3, 4, 5, 6, 7, 8, 9, 10] (by decide) rfl) hS ls (lv_sub hl [1, 2, 3, 0] rfl)
              · skip
                have c_10 : ¬ 36 ≤ i := fun q => c_10 ((nI_leI (a := 36) (b := i) (by omega) (by omega)).mpr q)
                refine lv_lload hx hb dX0_tryLast_21 (lv_at hl 4 rfl) ?_
                refine lv_aload_n hx hb dX0_tryLast_23 rfl (lv_at hl 1 rfl) ?_
                refine lv_iload hx hb dX0_tryLast_24 (lv_at hl 5 rfl) ?_
                refine va_lald hx hb hK hP 1 0 rfl rfl (vp_in_nI (n := i) (N := 36) (by omega) (by omega)) dX0_tryLast_26 ?_
                refine ql_as (y := lN (T i)) ((show ff (nI i : Int32).toNatClampNeg = ff i from by rw [nI_clamp (by omega)]).trans (hT i (by omega))) ?_
                have hH9 := hHb 4 i (by omega)
                refine lv_aload_n hx hb dX0_tryLast_27 rfl (lv_at hl 0 rfl) ?_
                refine va_get (D := (dC, dI)) (ci := 2) (v := .ref hO) (C := RX0) (T := TX0) (N := 5) hx hb hts kc_xTryLast_0 hown hK hP 0 rfl rfl 4 (by decide) (hts (.fieldLink RX0 22 "MistHeaps$Chances" "hits" "[[I") kc_xTryLast_3) (fun _ h9 => h9) rfl dX0_tryLast_28 ?_
                refine lv_iload_n hx hb dX0_tryLast_31 rfl (lv_at hl 3 rfl) ?_
                refine va_alda hx hb hK hP 2 1 rfl rfl (vp_in_nI (n := 4) (N := 8) (by omega) (by omega)) dX0_tryLast_32 ?_
                refine qq_as (v := .ref (rh 4)) (rfl) ?_
                refine lv_iload hx hb dX0_tryLast_33 (lv_at hl 5 rfl) ?_
                refine va_iald hx hb hK hP 7 6 rfl rfl (vp_in_nI (n := i) (N := 36) (by omega) (by omega)) dX0_tryLast_35 ?_
                refine qi_as (y := nI (Hh 4 i)) ((show g4 (nI i : Int32).toNatClampNeg = g4 i from by rw [nI_clamp (by omega)]).trans (hh4 i (by omega))) ?_
                refine lv_i2l (v := lN (Hh 4 i)) hx hb dX0_tryLast_36 (nI_l (by omega)) ?_
                refine lv_lmul hx hb dX0_tryLast_37 ?_
                refine ql_as (y := lN (T i * Hh 4 i)) (lN_mul _ _) ?_
                refine lv_ladd hx hb dX0_tryLast_38 ?_
                refine lv_lstore (lv' := [(4, .long (q + (lN (T i * Hh 4 i)))), (0, .ref ch), (1, .ref fa), (2, .int (nI k)), (3, .int 4), (6, .int (nI i))]) hx hb dX0_tryLast_39 hl (by decide) rfl (fun ls hl => ?_)
                refine lv_iinc (v := nI (i + 1)) (lv' := [(6, .int (nI (i + 1))), (4, .long (q + (lN (T i * Hh 4 i)))), (0, .ref ch), (1, .ref fa), (2, .int (nI k)), (3, .int 4)]) hx hb dX0_tryLast_41 hl (k := 5) rfl (nI_add i 1) (by decide) rfl (fun ls hl => ?_)
                refine lv_goto (tgt := 14) hx hb dX0_tryLast_44 (by decide) ?_
                exact ih14 (i + 1) (q + (lN (T i * Hh 4 i))) (by omega) (by omega) (sm_q hq9) _ _ (hK.sub [0, 1, 2, 3, 4, 5, 6, 7, 8, 9] rfl) (hP.sub [0, 1, 2, 3, 4, 5, 6, 7, 8, 9, 10] rfl) (hD.sub [0, 1, 2, 3, 4, 5, 6, 7, 8, 9, 10] (by decide) rfl) hS ls (lv_sub hl [2, 3, 4, 5, 1, 0] rfl)
          exact L14 _ (0) (0) (Nat.lt_succ_self _) (by omega) (rfl) _ _ (hK.sub [0, 1, 2, 3, 4, 5, 6, 7, 8, 9] rfl) (hP.sub [0, 1, 2, 3, 4, 5, 6, 7, 8, 9, 10] rfl) (hD.sub [0, 1, 2, 3, 4, 5, 6, 7, 8, 9, 10] (by decide) rfl) hS ls (lv_sub hl [2, 3, 4, 5, 1, 0] rfl)
        · skip
          refine lv_lconst (v := 0) hx hb dX0_tryLast_8 (by decide) ?_
          refine lv_lstore (lv' := [(4, .long 0), (0, .ref ch), (1, .ref fa), (2, .int (nI k)), (3, .int 5)]) hx hb dX0_tryLast_9 hl (by decide) rfl (fun ls hl => ?_)
          refine lv_iconst (v := 0) hx hb dX0_tryLast_11 (by decide) ?_
          refine lv_istore (lv' := [(6, .int 0), (4, .long 0), (0, .ref ch), (1, .ref fa), (2, .int (nI k)), (3, .int 5)]) hx hb dX0_tryLast_12 hl (by decide) rfl (fun ls hl => ?_)
          have L14 : ∀ (nF : Nat) (i : Nat) (q : Int64), 36 - i < nF → (i ≤ 36) → (q = lN (smN (fun c9 => T c9 * Hh 5 c9) i)) → ∀ (H : Heap) (locs : List Loc), va_K (dC, dI) vwCl [(cA1, .long), (cHO, .array .int), (cH, .int), (cH, .int), (cH, .int), (cH, .int), (cH, .int), (cH, .int), (cH, .int), (cH, .int)] s → va_P (dC, dI) vwCl [(zo2lirrr ch ft2 fr2 dr tO hO), (zaL fa cA1 36 ff), (zaR hO cHO 8 (fun i => if i < 8 then some (rh i) else none)), (zaI (rh 0) cH 36 g0), (zaI (rh 1) cH 36 g1), (zaI (rh 2) cH 36 g2), (zaI (rh 3) cH 36 g3), (zaI (rh 4) cH 36 g4), (zaI (rh 5) cH 36 g5), (zaI (rh 6) cH 36 g6), (zaI (rh 7) cH 36 g7)] H → va_D A [(zo2lirrr ch ft2 fr2 dr tO hO), (zaL fa cA1 36 ff), (zaR hO cHO 8 (fun i => if i < 8 then some (rh i) else none)), (zaI (rh 0) cH 36 g0), (zaI (rh 1) cH 36 g1), (zaI (rh 2) cH 36 g2), (zaI (rh 3) cH 36 g3), (zaI (rh 4) cH 36 g4), (zaI (rh 5) cH 36 g5), (zaI (rh 6) cH 36 g6), (zaI (rh 7) cH 36 g7)] → va_S A s.heap H locs → ∀ (ls : Array Slot), lv_has ls 7 [(0, .ref ch), (1, .ref fa), (2, .int (nI k)), (3, .int 5), (4, .long q), (6, .int (nI i))] → W p l e ({ frames := 0, cells := 0, slots := 0, locals := 0 } : Room) s m args below meth c H locs 0 0 Q (F0 m 14 ls []) := by
            intro nF
            induction nF with
            | zero => intro i q hm; exact absurd hm (Nat.not_lt_zero _)
            | succ nF ih14 =>
              intro i q hm hi hq9 H locs hK hP hD hS ls hl
              refine lv_iload hx hb dX0_tryLast_14 (lv_at hl 5 rfl) ?_
              refine lv_bipush (v := 36) hx hb dX0_tryLast_16 (by decide) ?_
              refine lv_icmp_ge (tgt := 47) hx hb dX0_tryLast_18 (by decide) (fun c_12 => ?_) (fun c_12 => ?_)
              · skip
                have c_12 : 36 ≤ i := (nI_leI (a := 36) (b := i) (by omega) (by omega)).mp c_12
                have hS9 : q = lN (U (k * 8 + 5)) := by rw [hU 5 (by omega)]; exact sm_z hq9 (by omega)
                subst hS9
                refine lv_lload hx hb dX0_tryLast_47 (lv_at hl 4 rfl) ?_
                refine lv_aload_n hx hb dX0_tryLast_49 rfl (lv_at hl 0 rfl) ?_
                refine va_get (D := (dC, dI)) (ci := 2) (v := .long ft2) (C := RX0) (T := TX0) (N := 5) hx hb hts kc_xTryLast_0 hown hK hP 0 rfl rfl 0 (by decide) (hts (.fieldLink RX0 66 "MistHeaps$Chances" "foundTimes" "J") kc_xTryLast_1) (fun _ h9 => h9) rfl dX0_tryLast_50 ?_
                refine W.lcmp hx hb dX0_tryLast_53 ?_
                refine lv_if_le (tgt := 73) hx hb dX0_tryLast_54 (by decide) (fun c_13 => ?_) (fun c_13 => ?_)
                · skip
                  refine lv_iinc (v := 6) (lv' := [(3, .int 6), (0, .ref ch), (1, .ref fa), (2, .int (nI k)), (4, .long (lN (U (k * 8 + 5)))), (6, .int (nI i))]) hx hb dX0_tryLast_73 hl (k := 3) rfl (by decide) (by decide) rfl (fun ls hl => ?_)
                  refine lv_goto (tgt := 2) hx hb dX0_tryLast_76 (by decide) ?_
                  exact ih2 (6) (ft2) (fr2) (by omega) (by omega) (fj_n hJ9 hUb (fun z9 => absurd ((lg_cmp_le _ _).mp c_13) (Int64.not_le.mpr z9))) _ _ (hK.sub [0, 1, 2, 3, 4, 5, 6, 7, 8, 9] rfl) (hP.sub [0, 1, 2, 3, 4, 5, 6, 7, 8, 9, 10] rfl) (hD.sub [0, 1, 2, 3, 4, 5, 6, 7, 8, 9, 10] (by decide) rfl) hS ls (lv_sub hl [1, 2, 3, 0] rfl)
                · skip
                  refine lv_aload_n hx hb dX0_tryLast_57 rfl (lv_at hl 0 rfl) ?_
                  refine lv_lload hx hb dX0_tryLast_58 (lv_at hl 4 rfl) ?_
                  refine va_put (D := (dC, dI)) (ci := 2) (v := .long (lN (U (k * 8 + 5)))) (ty := .long) (C := RX0) (T := TX0) (N := 5) hx hb hts kc_xTryLast_0 tyX0 tyX0_ok nmX0 hown hK hP hD hS 0 rfl rfl 0 (by decide) (hts (.fieldLink RX0 66 "MistHeaps$Chances" "foundTimes" "J") kc_xTryLast_1) (fun _ h9 => h9) rfl (by decide +kernel) rfl rfl (Nat.le_of_ble_eq_true rfl) dX0_tryLast_60 (fun H locs hP hD hS => ?_)
                  have hP : va_P (dC, dI) vwCl [(zo2lirrr ch (lN (U (k * 8 + 5))) fr2 dr tO hO), (zaL fa cA1 36 ff), (zaR hO cHO 8 (fun i => if i < 8 then some (rh i) else none)), (zaI (rh 0) cH 36 g0), (zaI (rh 1) cH 36 g1), (zaI (rh 2) cH 36 g2), (zaI (rh 3) cH 36 g3), (zaI (rh 4) cH 36 g4), (zaI (rh 5) cH 36 g5), (zaI (rh 6) cH 36 g6), (zaI (rh 7) cH 36 g7)] H := hP
                  have hD : va_D A [(zo2lirrr ch (lN (U (k * 8 + 5))) fr2 dr tO hO), (zaL fa cA1 36 ff), (zaR hO cHO 8 (fun i => if i < 8 then some (rh i) else none)), (zaI (rh 0) cH 36 g0), (zaI (rh 1) cH 36 g1), (zaI (rh 2) cH 36 g2), (zaI (rh 3) cH 36 g3), (zaI (rh 4) cH 36 g4), (zaI (rh 5) cH 36 g5), (zaI (rh 6) cH 36 g6), (zaI (rh 7) cH 36 g7)] := hD
                  refine lv_aload_n hx hb dX0_tryLast_63 rfl (lv_at hl 0 rfl) ?_
                  refine lv_iload_n hx hb dX0_tryLast_64 rfl (lv_at hl 2 rfl) ?_
                  refine lv_bipush (v := 8) hx hb dX0_tryLast_65 (by decide) ?_
                  refine lv_imul hx hb dX0_tryLast_67 ?_
                  refine qi_as (y := nI (k * 8)) (pk_mul k 8) ?_
                  refine lv_iload_n hx hb dX0_tryLast_68 rfl (lv_at hl 3 rfl) ?_
                  refine lv_iadd hx hb dX0_tryLast_69 ?_
                  refine qi_as (y := nI ((k * 8) + 5)) (nI_add (k * 8) 5) ?_
                  refine va_put (D := (dC, dI)) (ci := 2) (v := .int (nI ((k * 8) + 5))) (ty := .int) (C := RX0) (T := TX0) (N := 5) hx hb hts kc_xTryLast_0 tyX0 tyX0_ok nmX0 hown hK hP hD hS 0 rfl rfl 1 (by decide) (hts (.fieldLink RX0 77 "MistHeaps$Chances" "foundRow" "I") kc_xTryLast_2) (fun _ h9 => h9) rfl (by decide +kernel) rfl rfl (Nat.le_of_ble_eq_true rfl) dX0_tryLast_70 (fun H locs hP hD hS => ?_)
                  have hP : va_P (dC, dI) vwCl [(zo2lirrr ch (lN (U (k * 8 + 5))) (nI ((k * 8) + 5)) dr tO hO), (zaL fa cA1 36 ff), (zaR hO cHO 8 (fun i => if i < 8 then some (rh i) else none)), (zaI (rh 0) cH 36 g0), (zaI (rh 1) cH 36 g1), (zaI (rh 2) cH 36 g2), (zaI (rh 3) cH 36 g3), (zaI (rh 4) cH 36 g4), (zaI (rh 5) cH 36 g5), (zaI (rh 6) cH 36 g6), (zaI (rh 7) cH 36 g7)] H := hP
                  have hD : va_D A [(zo2lirrr ch (lN (U (k * 8 + 5))) (nI ((k * 8) + 5)) dr tO hO), (zaL fa cA1 36 ff), (zaR hO cHO 8 (fun i => if i < 8 then some (rh i) else none)), (zaI (rh 0) cH 36 g0), (zaI (rh 1) cH 36 g1), (zaI (rh 2) cH 36 g2), (zaI (rh 3) cH 36 g3), (zaI (rh 4) cH 36 g4), (zaI (rh 5) cH 36 g5), (zaI (rh 6) cH 36 g6), (zaI (rh 7) cH 36 g7)] := hD
                  refine lv_iinc (v := 6) (lv' := [(3, .int 6), (0, .ref ch), (1, .ref fa), (2, .int (nI k)), (4, .long (lN (U (k * 8 + 5)))), (6, .int (nI i))]) hx hb dX0_tryLast_73 hl (k := 3) rfl (by decide) (by decide) rfl (fun ls hl => ?_)
                  refine lv_goto (tgt := 2) hx hb dX0_tryLast_76 (by decide) ?_
                  exact ih2 (6) (lN (U (k * 8 + 5))) (nI ((k * 8) + 5)) (by omega) (by omega) (fj_y hJ9 hUb (Int64.not_le.mp (fun z9 => c_13 ((lg_cmp_le _ _).mpr z9)))) _ _ (hK.sub [0, 1, 2, 3, 4, 5, 6, 7, 8, 9] rfl) (hP.sub [0, 1, 2, 3, 4, 5, 6, 7, 8, 9, 10] rfl) (hD.sub [0, 1, 2, 3, 4, 5, 6, 7, 8, 9, 10] (by decide) rfl) hS ls (lv_sub hl [1, 2, 3, 0] rfl)
              · skip
                have c_12 : ¬ 36 ≤ i := fun q => c_12 ((nI_leI (a := 36) (b := i) (by omega) (by omega)).mpr q)
                refine lv_lload hx hb dX0_tryLast_21 (lv_at hl 4 rfl) ?_
                refine lv_aload_n hx hb dX0_tryLast_23 rfl (lv_at hl 1 rfl) ?_
                refine lv_iload hx hb dX0_tryLast_24 (lv_at hl 5 rfl) ?_
                refine va_lald hx hb hK hP 1 0 rfl rfl (vp_in_nI (n := i) (N := 36) (by omega) (by omega)) dX0_tryLast_26 ?_
                refine ql_as (y := lN (T i)) ((show ff (nI i : Int32).toNatClampNeg = ff i from by rw [nI_clamp (by omega)]).trans (hT i (by omega))) ?_
                have hH9 := hHb 5 i (by omega)
                refine lv_aload_n hx hb dX0_tryLast_27 rfl (lv_at hl 0 rfl) ?_
                refine va_get (D := (dC, dI)) (ci := 2) (v := .ref hO) (C := RX0) (T := TX0) (N := 5) hx hb hts kc_xTryLast_0 hown hK hP 0 rfl rfl 4 (by decide) (hts (.fieldLink RX0 22 "MistHeaps$Chances" "hits" "[[I") kc_xTryLast_3) (fun _ h9 => h9) rfl dX0_tryLast_28 ?_
                refine lv_iload_n hx hb dX0_tryLast_31 rfl (lv_at hl 3 rfl) ?_
                refine va_alda hx hb hK hP 2 1 rfl rfl (vp_in_nI (n := 5) (N := 8) (by omega) (by omega)) dX0_tryLast_32 ?_
                refine qq_as (v := .ref (rh 5)) (rfl) ?_
                refine lv_iload hx hb dX0_tryLast_33 (lv_at hl 5 rfl) ?_
                refine va_iald hx hb hK hP 8 7 rfl rfl (vp_in_nI (n := i) (N := 36) (by omega) (by omega)) dX0_tryLast_35 ?_
                refine qi_as (y := nI (Hh 5 i)) ((show g5 (nI i : Int32).toNatClampNeg = g5 i from by rw [nI_clamp (by omega)]).trans (hh5 i (by omega))) ?_
                refine lv_i2l (v := lN (Hh 5 i)) hx hb dX0_tryLast_36 (nI_l (by omega)) ?_
                refine lv_lmul hx hb dX0_tryLast_37 ?_
                refine ql_as (y := lN (T i * Hh 5 i)) (lN_mul _ _) ?_
                refine lv_ladd hx hb dX0_tryLast_38 ?_
                refine lv_lstore (lv' := [(4, .long (q + (lN (T i * Hh 5 i)))), (0, .ref ch), (1, .ref fa), (2, .int (nI k)), (3, .int 5), (6, .int (nI i))]) hx hb dX0_tryLast_39 hl (by decide) rfl (fun ls hl => ?_)
                refine lv_iinc (v := nI (i + 1)) (lv' := [(6, .int (nI (i + 1))), (4, .long (q + (lN (T i * Hh 5 i)))), (0, .ref ch), (1, .ref fa), (2, .int (nI k)), (3, .int 5)]) hx hb dX0_tryLast_41 hl (k := 5) rfl (nI_add i 1) (by decide) rfl (fun ls hl => ?_)
                refine lv_goto (tgt := 14) hx hb dX0_tryLast_44 (by decide) ?_
                exact ih14 (i + 1) (q + (lN (T i * Hh 5 i))) (by omega) (by omega) (sm_q hq9) _ _ (hK.sub [0, 1, 2, 3, 4, 5, 6, 7, 8, 9] rfl) (hP.sub [0, 1, 2, 3, 4, 5, 6, 7, 8, 9, 10] rfl) (hD.sub [0, 1, 2, 3, 4, 5, 6, 7, 8, 9, 10] (by decide) rfl) hS ls (lv_sub hl [2, 3, 4, 5, 1, 0] rfl)
          exact L14 _ (0) (0) (Nat.lt_succ_self _) (by omega) (rfl) _ _ (hK.sub [0, 1, 2, 3, 4, 5, 6, 7, 8, 9] rfl) (hP.sub [0, 1, 2, 3, 4, 5, 6, 7, 8, 9, 10] rfl) (hD.sub [0, 1, 2, 3, 4, 5, 6, 7, 8, 9, 10] (by decide) rfl) hS ls (lv_sub hl [2, 3, 4, 5, 1, 0] rfl)
        · skip
          refine lv_lconst (v := 0) hx hb dX0_tryLast_8 (by decide) ?_
          refine lv_lstore (lv' := [(4, .long 0), (0, .ref ch), (1, .ref fa), (2, .int (nI k)), (3, .int 6)]) hx hb dX0_tryLast_9 hl (by decide) rfl (fun ls hl => ?_)
          refine lv_iconst (v := 0) hx hb dX0_tryLast_11 (by decide) ?_
          refine lv_istore (lv' := [(6, .int 0), (4, .long 0), (0, .ref ch), (1, .ref fa), (2, .int (nI k)), (3, .int 6)]) hx hb dX0_tryLast_12 hl (by decide) rfl (fun ls hl => ?_)
          have L14 : ∀ (nF : Nat) (i : Nat) (q : Int64), 36 - i < nF → (i ≤ 36) → (q = lN (smN (fun c9 => T c9 * Hh 6 c9) i)) → ∀ (H : Heap) (locs : List Loc), va_K (dC, dI) vwCl [(cA1, .long), (cHO, .array .int), (cH, .int), (cH, .int), (cH, .int), (cH, .int), (cH, .int), (cH, .int), (cH, .int), (cH, .int)] s → va_P (dC, dI) vwCl [(zo2lirrr ch ft2 fr2 dr tO hO), (zaL fa cA1 36 ff), (zaR hO cHO 8 (fun i => if i < 8 then some (rh i) else none)), (zaI (rh 0) cH 36 g0), (zaI (rh 1) cH 36 g1), (zaI (rh 2) cH 36 g2), (zaI (rh 3) cH 36 g3), (zaI (rh 4) cH 36 g4), (zaI (rh 5) cH 36 g5), (zaI (rh 6) cH 36 g6), (zaI (rh 7) cH 36 g7)] H → va_D A [(zo2lirrr ch ft2 fr2 dr tO hO), (zaL fa cA1 36 ff), (zaR hO cHO 8 (fun i => if i < 8 then some (rh i) else none)), (zaI (rh 0) cH 36 g0), (zaI (rh 1) cH 36 g1), (zaI (rh 2) cH 36 g2), (zaI (rh 3) cH 36 g3), (zaI (rh 4) cH 36 g4), (zaI (rh 5) cH 36 g5), (zaI (rh 6) cH 36 g6), (zaI (rh 7) cH 36 g7)] → va_S A s.heap H locs → ∀ (ls : Array Slot), lv_has ls 7 [(0, .ref ch), (1, .ref fa), (2, .int (nI k)), (3, .int 6), (4, .long q), (6, .int (nI i))] → W p l e ({ frames := 0, cells := 0, slots := 0, locals := 0 } : Room) s m args below meth c H locs 0 0 Q (F0 m 14 ls []) := by
            intro nF
            induction nF with
            | zero => intro i q hm; exact absurd hm (Nat.not_lt_zero _)
            | succ nF ih14 =>
              intro i q hm hi hq9 H locs hK hP hD hS ls hl
              refine lv_iload hx hb dX0_tryLast_14 (lv_at hl 5 rfl) ?_
              refine lv_bipush (v := 36) hx hb dX0_tryLast_16 (by decide) ?_
              refine lv_icmp_ge (tgt := 47) hx hb dX0_tryLast_18 (by decide) (fun c_14 => ?_) (fun c_14 => ?_)
              · skip
                have c_14 : 36 ≤ i := (nI_leI (a := 36) (b := i) (by omega) (by omega)).mp c_14
                have hS9 : q = lN (U (k * 8 + 6)) := by rw [hU 6 (by omega)]; exact sm_z hq9 (by omega)
                subst hS9
                refine lv_lload hx hb dX0_tryLast_47 (lv_at hl 4 rfl) ?_
                refine lv_aload_n hx hb dX0_tryLast_49 rfl (lv_at hl 0 rfl) ?_
                refine va_get (D := (dC, dI)) (ci := 2) (v := .long ft2) (C := RX0) (T := TX0) (N := 5) hx hb hts kc_xTryLast_0 hown hK hP 0 rfl rfl 0 (by decide) (hts (.fieldLink RX0 66 "MistHeaps$Chances" "foundTimes" "J") kc_xTryLast_1) (fun _ h9 => h9) rfl dX0_tryLast_50 ?_
                refine W.lcmp hx hb dX0_tryLast_53 ?_
                refine lv_if_le (tgt := 73) hx hb dX0_tryLast_54 (by decide) (fun c_15 => ?_) (fun c_15 => ?_)
                · skip
                  refine lv_iinc (v := 7) (lv' := [(3, .int 7), (0, .ref ch), (1, .ref fa), (2, .int (nI k)), (4, .long (lN (U (k * 8 + 6)))), (6, .int (nI i))]) hx hb dX0_tryLast_73 hl (k := 3) rfl (by decide) (by decide) rfl (fun ls hl => ?_)
                  refine lv_goto (tgt := 2) hx hb dX0_tryLast_76 (by decide) ?_
                  exact ih2 (7) (ft2) (fr2) (by omega) (by omega) (fj_n hJ9 hUb (fun z9 => absurd ((lg_cmp_le _ _).mp c_15) (Int64.not_le.mpr z9))) _ _ (hK.sub [0, 1, 2, 3, 4, 5, 6, 7, 8, 9] rfl) (hP.sub [0, 1, 2, 3, 4, 5, 6, 7, 8, 9, 10] rfl) (hD.sub [0, 1, 2, 3, 4, 5, 6, 7, 8, 9, 10] (by decide) rfl) hS ls (lv_sub hl [1, 2, 3, 0] rfl)
                · skip
                  refine lv_aload_n hx hb dX0_tryLast_57 rfl (lv_at hl 0 rfl) ?_
                  refine lv_lload hx hb dX0_tryLast_58 (lv_at hl 4 rfl) ?_
                  refine va_put (D := (dC, dI)) (ci := 2) (v := .long (lN (U (k * 8 + 6)))) (ty := .long) (C := RX0) (T := TX0) (N := 5) hx hb hts kc_xTryLast_0 tyX0 tyX0_ok nmX0 hown hK hP hD hS 0 rfl rfl 0 (by decide) (hts (.fieldLink RX0 66 "MistHeaps$Chances" "foundTimes" "J") kc_xTryLast_1) (fun _ h9 => h9) rfl (by decide +kernel) rfl rfl (Nat.le_of_ble_eq_true rfl) dX0_tryLast_60 (fun H locs hP hD hS => ?_)
                  have hP : va_P (dC, dI) vwCl [(zo2lirrr ch (lN (U (k * 8 + 6))) fr2 dr tO hO), (zaL fa cA1 36 ff), (zaR hO cHO 8 (fun i => if i < 8 then some (rh i) else none)), (zaI (rh 0) cH 36 g0), (zaI (rh 1) cH 36 g1), (zaI (rh 2) cH 36 g2), (zaI (rh 3) cH 36 g3), (zaI (rh 4) cH 36 g4), (zaI (rh 5) cH 36 g5), (zaI (rh 6) cH 36 g6), (zaI (rh 7) cH 36 g7)] H := hP
                  have hD : va_D A [(zo2lirrr ch (lN (U (k * 8 + 6))) fr2 dr tO hO), (zaL fa cA1 36 ff), (zaR hO cHO 8 (fun i => if i < 8 then some (rh i) else none)), (zaI (rh 0) cH 36 g0), (zaI (rh 1) cH 36 g1), (zaI (rh 2) cH 36 g2), (zaI (rh 3) cH 36 g3), (zaI (rh 4) cH 36 g4), (zaI (rh 5) cH 36 g5), (zaI (rh 6) cH 36 g6), (zaI (rh 7) cH 36 g7)] := hD
                  refine lv_aload_n hx hb dX0_tryLast_63 rfl (lv_at hl 0 rfl) ?_
                  refine lv_iload_n hx hb dX0_tryLast_64 rfl (lv_at hl 2 rfl) ?_
                  refine lv_bipush (v := 8) hx hb dX0_tryLast_65 (by decide) ?_
                  refine lv_imul hx hb dX0_tryLast_67 ?_
                  refine qi_as (y := nI (k * 8)) (pk_mul k 8) ?_
                  refine lv_iload_n hx hb dX0_tryLast_68 rfl (lv_at hl 3 rfl) ?_
                  refine lv_iadd hx hb dX0_tryLast_69 ?_
                  refine qi_as (y := nI ((k * 8) + 6)) (nI_add (k * 8) 6) ?_
                  refine va_put (D := (dC, dI)) (ci := 2) (v := .int (nI ((k * 8) + 6))) (ty := .int) (C := RX0) (T := TX0) (N := 5) hx hb hts kc_xTryLast_0 tyX0 tyX0_ok nmX0 hown hK hP hD hS 0 rfl rfl 1 (by decide) (hts (.fieldLink RX0 77 "MistHeaps$Chances" "foundRow" "I") kc_xTryLast_2) (fun _ h9 => h9) rfl (by decide +kernel) rfl rfl (Nat.le_of_ble_eq_true rfl) dX0_tryLast_70 (fun H locs hP hD hS => ?_)
                  have hP : va_P (dC, dI) vwCl [(zo2lirrr ch (lN (U (k * 8 + 6))) (nI ((k * 8) + 6)) dr tO hO), (zaL fa cA1 36 ff), (zaR hO cHO 8 (fun i => if i < 8 then some (rh i) else none)), (zaI (rh 0) cH 36 g0), (zaI (rh 1) cH 36 g1), (zaI (rh 2) cH 36 g2), (zaI (rh 3) cH 36 g3), (zaI (rh 4) cH 36 g4), (zaI (rh 5) cH 36 g5), (zaI (rh 6) cH 36 g6), (zaI (rh 7) cH 36 g7)] H := hP
                  have hD : va_D A [(zo2lirrr ch (lN (U (k * 8 + 6))) (nI ((k * 8) + 6)) dr tO hO), (zaL fa cA1 36 ff), (zaR hO cHO 8 (fun i => if i < 8 then some (rh i) else none)), (zaI (rh 0) cH 36 g0), (zaI (rh 1) cH 36 g1), (zaI (rh 2) cH 36 g2), (zaI (rh 3) cH 36 g3), (zaI (rh 4) cH 36 g4), (zaI (rh 5) cH 36 g5), (zaI (rh 6) cH 36 g6), (zaI (rh 7) cH 36 g7)] := hD
                  refine lv_iinc (v := 7) (lv' := [(3, .int 7), (0, .ref ch), (1, .ref fa), (2, .int (nI k)), (4, .long (lN (U (k * 8 + 6)))), (6, .int (nI i))]) hx hb dX0_tryLast_73 hl (k := 3) rfl (by decide) (by decide) rfl (fun ls hl => ?_)
                  refine lv_goto (tgt := 2) hx hb dX0_tryLast_76 (by decide) ?_
                  exact ih2 (7) (lN (U (k * 8 + 6))) (nI ((k * 8) + 6)) (by omega) (by omega) (fj_y hJ9 hUb (Int64.not_le.mp (fun z9 => c_15 ((lg_cmp_le _ _).mpr z9)))) _ _ (hK.sub [0, 1, 2, 3, 4, 5, 6, 7, 8, 9] rfl) (hP.sub [0, 1, 2, 3, 4, 5, 6, 7, 8, 9, 10] rfl) (hD.sub [0, 1, 2, 3, 4, 5, 6, 7, 8, 9, 10] (by decide) rfl) hS ls (lv_sub hl [1, 2, 3, 0] rfl)
              · skip
                have c_14 : ¬ 36 ≤ i := fun q => c_14 ((nI_leI (a := 36) (b := i) (by omega) (by omega)).mpr q)
                refine lv_lload hx hb dX0_tryLast_21 (lv_at hl 4 rfl) ?_
                refine lv_aload_n hx hb dX0_tryLast_23 rfl (lv_at hl 1 rfl) ?_
                refine lv_iload hx hb dX0_tryLast_24 (lv_at hl 5 rfl) ?_
                refine va_lald hx hb hK hP 1 0 rfl rfl (vp_in_nI (n := i) (N := 36) (by omega) (by omega)) dX0_tryLast_26 ?_
                refine ql_as (y := lN (T i)) ((show ff (nI i : Int32).toNatClampNeg = ff i from by rw [nI_clamp (by omega)]).trans (hT i (by omega))) ?_
                have hH9 := hHb 6 i (by omega)
                refine lv_aload_n hx hb dX0_tryLast_27 rfl (lv_at hl 0 rfl) ?_
                refine va_get (D := (dC, dI)) (ci := 2) (v := .ref hO) (C := RX0) (T := TX0) (N := 5) hx hb hts kc_xTryLast_0 hown hK hP 0 rfl rfl 4 (by decide) (hts (.fieldLink RX0 22 "MistHeaps$Chances" "hits" "[[I") kc_xTryLast_3) (fun _ h9 => h9) rfl dX0_tryLast_28 ?_
                refine lv_iload_n hx hb dX0_tryLast_31 rfl (lv_at hl 3 rfl) ?_
                refine va_alda hx hb hK hP 2 1 rfl rfl (vp_in_nI (n := 6) (N := 8) (by omega) (by omega)) dX0_tryLast_32 ?_
                refine qq_as (v := .ref (rh 6)) (rfl) ?_
                refine lv_iload hx hb dX0_tryLast_33 (lv_at hl 5 rfl) ?_
                refine va_iald hx hb hK hP 9 8 rfl rfl (vp_in_nI (n := i) (N := 36) (by omega) (by omega)) dX0_tryLast_35 ?_
                refine qi_as (y := nI (Hh 6 i)) ((show g6 (nI i : Int32).toNatClampNeg = g6 i from by rw [nI_clamp (by omega)]).trans (hh6 i (by omega))) ?_
                refine lv_i2l (v := lN (Hh 6 i)) hx hb dX0_tryLast_36 (nI_l (by omega)) ?_
                refine lv_lmul hx hb dX0_tryLast_37 ?_
                refine ql_as (y := lN (T i * Hh 6 i)) (lN_mul _ _) ?_
                refine lv_ladd hx hb dX0_tryLast_38 ?_
                refine lv_lstore (lv' := [(4, .long (q + (lN (T i * Hh 6 i)))), (0, .ref ch), (1, .ref fa), (2, .int (nI k)), (3, .int 6), (6, .int (nI i))]) hx hb dX0_tryLast_39 hl (by decide) rfl (fun ls hl => ?_)
                refine lv_iinc (v := nI (i + 1)) (lv' := [(6, .int (nI (i + 1))), (4, .long (q + (lN (T i * Hh 6 i)))), (0, .ref ch), (1, .ref fa), (2, .int (nI k)), (3, .int 6)]) hx hb dX0_tryLast_41 hl (k := 5) rfl (nI_add i 1) (by decide) rfl (fun ls hl => ?_)
                refine lv_goto (tgt := 14) hx hb dX0_tryLast_44 (by decide) ?_
                exact ih14 (i + 1) (q + (lN (T i * Hh 6 i))) (by omega) (by omega) (sm_q hq9) _ _ (hK.sub [0, 1, 2, 3, 4, 5, 6, 7, 8, 9] rfl) (hP.sub [0, 1, 2, 3, 4, 5, 6, 7, 8, 9, 10] rfl) (hD.sub [0, 1, 2, 3, 4, 5, 6, 7, 8, 9, 10] (by decide) rfl) hS ls (lv_sub hl [2, 3, 4, 5, 1, 0] rfl)
          exact L14 _ (0) (0) (Nat.lt_succ_self _) (by omega) (rfl) _ _ (hK.sub [0, 1, 2, 3, 4, 5, 6, 7, 8, 9] rfl) (hP.sub [0, 1, 2, 3, 4, 5, 6, 7, 8, 9, 10] rfl) (hD.sub [0, 1, 2, 3, 4, 5, 6, 7, 8, 9, 10] (by decide) rfl) hS ls (lv_sub hl [2, 3, 4, 5, 1, 0] rfl)
        · skip
          refine lv_lconst (v := 0) hx hb dX0_tryLast_8 (by decide) ?_
          refine lv_lstore (lv' := [(4, .long 0), (0, .ref ch), (1, .ref fa), (2, .int (nI k)), (3, .int 7)]) hx hb dX0_tryLast_9 hl (by decide) rfl (fun ls hl => ?_)
          refine lv_iconst (v := 0) hx hb dX0_tryLast_11 (by decide) ?_
          refine lv_istore (lv' := [(6, .int 0), (4, .long 0), (0, .ref ch), (1, .ref fa), (2, .int (nI k)), (3, .int 7)]) hx hb dX0_tryLast_12 hl (by decide) rfl (fun ls hl => ?_)
          have L14 : ∀ (nF : Nat) (i : Nat) (q : Int64), 36 - i < nF → (i ≤ 36) → (q = lN (smN (fun c9 => T c9 * Hh 7 c9) i)) → ∀ (H : Heap) (locs : List Loc), va_K (dC, dI) vwCl [(cA1, .long), (cHO, .array .int), (cH, .int), (cH, .int), (cH, .int), (cH, .int), (cH, .int), (cH, .int), (cH, .int), (cH, .int)] s → va_P (dC, dI) vwCl [(zo2lirrr ch ft2 fr2 dr tO hO), (zaL fa cA1 36 ff), (zaR hO cHO 8 (fun i => if i < 8 then some (rh i) else none)), (zaI (rh 0) cH 36 g0), (zaI (rh 1) cH 36 g1), (zaI (rh 2) cH 36 g2), (zaI (rh 3) cH 36 g3), (zaI (rh 4) cH 36 g4), (zaI (rh 5) cH 36 g5), (zaI (rh 6) cH 36 g6), (zaI (rh 7) cH 36 g7)] H → va_D A [(zo2lirrr ch ft2 fr2 dr tO hO), (zaL fa cA1 36 ff), (zaR hO cHO 8 (fun i => if i < 8 then some (rh i) else none)), (zaI (rh 0) cH 36 g0), (zaI (rh 1) cH 36 g1), (zaI (rh 2) cH 36 g2), (zaI (rh 3) cH 36 g3), (zaI (rh 4) cH 36 g4), (zaI (rh 5) cH 36 g5), (zaI (rh 6) cH 36 g6), (zaI (rh 7) cH 36 g7)] → va_S A s.heap H locs → ∀ (ls : Array Slot), lv_has ls 7 [(0, .ref ch), (1, .ref fa), (2, .int (nI k)), (3, .int 7), (4, .long q), (6, .int (nI i))] → W p l e ({ frames := 0, cells := 0, slots := 0, locals := 0 } : Room) s m args below meth c H locs 0 0 Q (F0 m 14 ls []) := by
            intro nF
            induction nF with
            | zero => intro i q hm; exact absurd hm (Nat.not_lt_zero _)
            | succ nF ih14 =>
              intro i q hm hi hq9 H locs hK hP hD hS ls hl
              refine lv_iload hx hb dX0_tryLast_14 (lv_at hl 5 rfl) ?_
              refine lv_bipush (v := 36) hx hb dX0_tryLast_16 (by decide) ?_
              refine lv_icmp_ge (tgt := 47) hx hb dX0_tryLast_18 (by decide) (fun c_16 => ?_) (fun c_16 => ?_)
              · skip
                have c_16 : 36 ≤ i := (nI_leI (a := 36) (b := i) (by omega) (by omega)).mp c_16
                have hS9 : q = lN (U (k * 8 + 7)) := by rw [hU 7 (by omega)]; exact sm_z hq9 (by omega)
                subst hS9
                refine lv_lload hx hb dX0_tryLast_47 (lv_at hl 4 rfl) ?_
                refine lv_aload_n hx hb dX0_tryLast_49 rfl (lv_at hl 0 rfl) ?_
                refine va_get (D := (dC, dI)) (ci := 2) (v := .long ft2) (C := RX0) (T := TX0) (N := 5) hx hb hts kc_xTryLast_0 hown hK hP 0 rfl rfl 0 (by decide) (hts (.fieldLink RX0 66 "MistHeaps$Chances" "foundTimes" "J") kc_xTryLast_1) (fun _ h9 => h9) rfl dX0_tryLast_50 ?_
                refine W.lcmp hx hb dX0_tryLast_53 ?_
                refine lv_if_le (tgt := 73) hx hb dX0_tryLast_54 (by decide) (fun c_17 => ?_) (fun c_17 => ?_)
                · skip
                  refine lv_iinc (v := 8) (lv' := [(3, .int 8), (0, .ref ch), (1, .ref fa), (2, .int (nI k)), (4, .long (lN (U (k * 8 + 7)))), (6, .int (nI i))]) hx hb dX0_tryLast_73 hl (k := 3) rfl (by decide) (by decide) rfl (fun ls hl => ?_)
                  refine lv_goto (tgt := 2) hx hb dX0_tryLast_76 (by decide) ?_
                  exact ih2 (8) (ft2) (fr2) (by omega) (by omega) (fj_n hJ9 hUb (fun z9 => absurd ((lg_cmp_le _ _).mp c_17) (Int64.not_le.mpr z9))) _ _ (hK.sub [0, 1, 2, 3, 4, 5, 6, 7, 8, 9] rfl) (hP.sub [0, 1, 2, 3, 4, 5, 6, 7, 8, 9, 10] rfl) (hD.sub [0, 1, 2, 3, 4, 5, 6, 7, 8, 9, 10] (by decide) rfl) hS ls (lv_sub hl [1, 2, 3, 0] rfl)
                · skip
                  refine lv_aload_n hx hb dX0_tryLast_57 rfl (lv_at hl 0 rfl) ?_
                  refine lv_lload hx hb dX0_tryLast_58 (lv_at hl 4 rfl) ?_
                  refine va_put (D := (dC, dI)) (ci := 2) (v := .long (lN (U (k * 8 + 7)))) (ty := .long) (C := RX0) (T := TX0) (N := 5) hx hb hts kc_xTryLast_0 tyX0 tyX0_ok nmX0 hown hK hP hD hS 0 rfl rfl 0 (by decide) (hts (.fieldLink RX0 66 "MistHeaps$Chances" "foundTimes" "J") kc_xTryLast_1) (fun _ h9 => h9) rfl (by decide +kernel) rfl rfl (Nat.le_of_ble_eq_true rfl) dX0_tryLast_60 (fun H locs hP hD hS => ?_)
                  have hP : va_P (dC, dI) vwCl [(zo2lirrr ch (lN (U (k * 8 + 7))) fr2 dr tO hO), (zaL fa cA1 36 ff), (zaR hO cHO 8 (fun i => if i < 8 then some (rh i) else none)), (zaI (rh 0) cH 36 g0), (zaI (rh 1) cH 36 g1), (zaI (rh 2) cH 36 g2), (zaI (rh 3) cH 36 g3), (zaI (rh 4) cH 36 g4), (zaI (rh 5) cH 36 g5), (zaI (rh 6) cH 36 g6), (zaI (rh 7) cH 36 g7)] H := hP
                  have hD : va_D A [(zo2lirrr ch (lN (U (k * 8 + 7))) fr2 dr tO hO), (zaL fa cA1 36 ff), (zaR hO cHO 8 (fun i => if i < 8 then some (rh i) else none)), (zaI (rh 0) cH 36 g0), (zaI (rh 1) cH 36 g1), (zaI (rh 2) cH 36 g2), (zaI (rh 3) cH 36 g3), (zaI (rh 4) cH 36 g4), (zaI (rh 5) cH 36 g5), (zaI (rh 6) cH 36 g6), (zaI (rh 7) cH 36 g7)] := hD
                  refine lv_aload_n hx hb dX0_tryLast_63 rfl (lv_at hl 0 rfl) ?_
                  refine lv_iload_n hx hb dX0_tryLast_64 rfl (lv_at hl 2 rfl) ?_
                  refine lv_bipush (v := 8) hx hb dX0_tryLast_65 (by decide) ?_
                  refine lv_imul hx hb dX0_tryLast_67 ?_
                  refine qi_as (y := nI (k * 8)) (pk_mul k 8) ?_
                  refine lv_iload_n hx hb dX0_tryLast_68 rfl (lv_at hl 3 rfl) ?_
                  refine lv_iadd hx hb dX0_tryLast_69 ?_
                  refine qi_as (y := nI ((k * 8) + 7)) (nI_add (k * 8) 7) ?_
                  refine va_put (D := (dC, dI)) (ci := 2) (v := .int (nI ((k * 8) + 7))) (ty := .int) (C := RX0) (T := TX0) (N := 5) hx hb hts kc_xTryLast_0 tyX0 tyX0_ok nmX0 hown hK hP hD hS 0 rfl rfl 1 (by decide) (hts (.fieldLink RX0 77 "MistHeaps$Chances" "foundRow" "I") kc_xTryLast_2) (fun _ h9 => h9) rfl (by decide +kernel) rfl rfl (Nat.le_of_ble_eq_true rfl) dX0_tryLast_70 (fun H locs hP hD hS => ?_)
                  have hP : va_P (dC, dI) vwCl [(zo2lirrr ch (lN (U (k * 8 + 7))) (nI ((k * 8) + 7)) dr tO hO), (zaL fa cA1 36 ff), (zaR hO cHO 8 (fun i => if i < 8 then some (rh i) else none)), (zaI (rh 0) cH 36 g0), (zaI (rh 1) cH 36 g1), (zaI (rh 2) cH 36 g2), (zaI (rh 3) cH 36 g3), (zaI (rh 4) cH 36 g4), (zaI (rh 5) cH 36 g5), (zaI (rh 6) cH 36 g6), (zaI (rh 7) cH 36 g7)] H := hP
                  have hD : va_D A [(zo2lirrr ch (lN (U (k * 8 + 7))) (nI ((k * 8) + 7)) dr tO hO), (zaL fa cA1 36 ff), (zaR hO cHO 8 (fun i => if i < 8 then some (rh i) else none)), (zaI (rh 0) cH 36 g0), (zaI (rh 1) cH 36 g1), (zaI (rh 2) cH 36 g2), (zaI (rh 3) cH 36 g3), (zaI (rh 4) cH 36 g4), (zaI (rh 5) cH 36 g5), (zaI (rh 6) cH 36 g6), (zaI (rh 7) cH 36 g7)] := hD
                  refine lv_iinc (v := 8) (lv' := [(3, .int 8), (0, .ref ch), (1, .ref fa), (2, .int (nI k)), (4, .long (lN (U (k * 8 + 7)))), (6, .int (nI i))]) hx hb dX0_tryLast_73 hl (k := 3) rfl (by decide) (by decide) rfl (fun ls hl => ?_)
                  refine lv_goto (tgt := 2) hx hb dX0_tryLast_76 (by decide) ?_
                  exact ih2 (8) (lN (U (k * 8 + 7))) (nI ((k * 8) + 7)) (by omega) (by omega) (fj_y hJ9 hUb (Int64.not_le.mp (fun z9 => c_17 ((lg_cmp_le _ _).mpr z9)))) _ _ (hK.sub [0, 1, 2, 3, 4, 5, 6, 7, 8, 9] rfl) (hP.sub [0, 1, 2, 3, 4, 5, 6, 7, 8, 9, 10] rfl) (hD.sub [0, 1, 2, 3, 4, 5, 6, 7, 8, 9, 10] (by decide) rfl) hS ls (lv_sub hl [1, 2, 3, 0] rfl)
              · skip
                have c_16 : ¬ 36 ≤ i := fun q => c_16 ((nI_leI (a := 36) (b := i) (by omega) (by omega)).mpr q)
                refine lv_lload hx hb dX0_tryLast_21 (lv_at hl 4 rfl) ?_
                refine lv_aload_n hx hb dX0_tryLast_23 rfl (lv_at hl 1 rfl) ?_
                refine lv_iload hx hb dX0_tryLast_24 (lv_at hl 5 rfl) ?_
                refine va_lald hx hb hK hP 1 0 rfl rfl (vp_in_nI (n := i) (N := 36) (by omega) (by omega)) dX0_tryLast_26 ?_
                refine ql_as (y := lN (T i)) ((show ff (nI i : Int32).toNatClampNeg = ff i from by rw [nI_clamp (by omega)]).trans (hT i (by omega))) ?_
                have hH9 := hHb 7 i (by omega)
                refine lv_aload_n hx hb dX0_tryLast_27 rfl (lv_at hl 0 rfl) ?_
                refine va_get (D := (dC, dI)) (ci := 2) (v := .ref hO) (C := RX0) (T := TX0) (N := 5) hx hb hts kc_xTryLast_0 hown hK hP 0 rfl rfl 4 (by decide) (hts (.fieldLink RX0 22 "MistHeaps$Chances" "hits" "[[I") kc_xTryLast_3) (fun _ h9 => h9) rfl dX0_tryLast_28 ?_
                refine lv_iload_n hx hb dX0_tryLast_31 rfl (lv_at hl 3 rfl) ?_
                refine va_alda hx hb hK hP 2 1 rfl rfl (vp_in_nI (n := 7) (N := 8) (by omega) (by omega)) dX0_tryLast_32 ?_
                refine qq_as (v := .ref (rh 7)) (rfl) ?_
                refine lv_iload hx hb dX0_tryLast_33 (lv_at hl 5 rfl) ?_
                refine va_iald hx hb hK hP 10 9 rfl rfl (vp_in_nI (n := i) (N := 36) (by omega) (by omega)) dX0_tryLast_35 ?_
                refine qi_as (y := nI (Hh 7 i)) ((show g7 (nI i : Int32).toNatClampNeg = g7 i from by rw [nI_clamp (by omega)]).trans (hh7 i (by omega))) ?_
                refine lv_i2l (v := lN (Hh 7 i)) hx hb dX0_tryLast_36 (nI_l (by omega)) ?_
                refine lv_lmul hx hb dX0_tryLast_37 ?_
                refine ql_as (y := lN (T i * Hh 7 i)) (lN_mul _ _) ?_
                refine lv_ladd hx hb dX0_tryLast_38 ?_
                refine lv_lstore (lv' := [(4, .long (q + (lN (T i * Hh 7 i)))), (0, .ref ch), (1, .ref fa), (2, .int (nI k)), (3, .int 7), (6, .int (nI i))]) hx hb dX0_tryLast_39 hl (by decide) rfl (fun ls hl => ?_)
                refine lv_iinc (v := nI (i + 1)) (lv' := [(6, .int (nI (i + 1))), (4, .long (q + (lN (T i * Hh 7 i)))), (0, .ref ch), (1, .ref fa), (2, .int (nI k)), (3, .int 7)]) hx hb dX0_tryLast_41 hl (k := 5) rfl (nI_add i 1) (by decide) rfl (fun ls hl => ?_)
                refine lv_goto (tgt := 14) hx hb dX0_tryLast_44 (by decide) ?_
                exact ih14 (i + 1) (q + (lN (T i * Hh 7 i))) (by omega) (by omega) (sm_q hq9) _ _ (hK.sub [0, 1, 2, 3, 4, 5, 6, 7, 8, 9] rfl) (hP.sub [0, 1, 2, 3, 4, 5, 6, 7, 8, 9, 10] rfl) (hD.sub [0, 1, 2, 3, 4, 5, 6, 7, 8, 9, 10] (by decide) rfl) hS ls (lv_sub hl [2, 3, 4, 5, 1, 0] rfl)
          exact L14 _ (0) (0) (Nat.lt_succ_self _) (by omega) (rfl) _ _ (hK.sub [0, 1, 2, 3, 4, 5, 6, 7, 8, 9] rfl) (hP.sub [0, 1, 2, 3, 4, 5, 6, 7, 8, 9, 10] rfl) (hD.sub [0, 1, 2, 3, 4, 5, 6, 7, 8, 9, 10] (by decide) rfl) hS ls (lv_sub hl [2, 3, 4, 5, 1, 0] rfl)
  exact L2 _ (0) (ft) (fr) (Nat.lt_succ_self _) (by omega) (hJ) _ _ (hK.sub [0, 1, 2, 3, 4, 5, 6, 7, 8, 9] rfl) (hP.sub [0, 1, 2, 3, 4, 5, 6, 7, 8, 9, 10] rfl) (hD.sub [0, 1, 2, 3, 4, 5, 6, 7, 8, 9, 10] (by decide) rfl) hS ls (lv_sub hl [1, 2, 3, 0] rfl)

theorem fw_w3 : ∀ s : Nat, s < 3 → ∀ f : Nat, f < 512 → nI f >>> (nI (3 * s) &&& 31) &&& 7 = nI (f / 8 ^ s % 8) := by decide +kernel

theorem kc_xFoundWay_0 : ∀ w ∈ wsX00, w ∈ wsX0_foundWay := fun w h => List.mem_cons_of_mem _ (gin_wsX00 w h)
theorem kc_xFoundWay_1 : (.fieldLink RX0 77 "MistHeaps$Chances" "foundRow" "I" : Cond) ∈ wsX0_foundWay := kc_of 286 rfl rfl rfl
set_option maxHeartbeats 4000000 in
set_option maxRecDepth 100000 in
theorem c_xFoundWay (l : Launch) (dC : Nat → ClassId) (dI : Nat → Nat → Nat) (ch : Nat) (dr : Nat) (tO : Nat) (hO : Nat) (j : Nat) (k : Nat) (fr : Int32) (ft : Int64) (f9 : Nat) (hf5 : f9 < 512) (hfr : fr = nI f9) (hk3 : 1 ≤ k ∧ k ≤ 3) (hjk : j < k) : Met l yX0_foundWay wsX0_foundWay ({ frames := 0, cells := 0, slots := 0, locals := 0 } : Room) (va_Pc [.ref ch, .int (nI k), .int (nI j)] (fun U => va_P (dC, dI) vwCl [(zo2lirrr ch ft fr dr tO hO)] U.heap ∧ va_K (dC, dI) vwCl [] U)) (vp_Si (fun r => r = nI (wyR f9 k j))) 0 0 (fun _ => False) := by
  refine met_ofQ (cc := cX0_foundWay) (maxL := 3) (ret := (some .int)) (by decide) rfl ?_
  intro p e s m args below meth c s₁ Q B hml hv hQ
  obtain ⟨rfl, hP, hK⟩ := hv
  have hx := B.exec
  have hb := B.bytes
  have hr := B.returns
  have hts := atoms_spec (ws := wsX0_foundWay) B.pre
  have hown : s.vm.findClass RX0 = some m.cls := findClass_of_methodNamed B.named
  have hlocks := B.notSynchronized
  obtain ⟨A, hAe⟩ : ∃ A : Nat → Prop, A = fun _ => False := ⟨_, rfl⟩
  rw [← hAe] at hQ
  have hS : va_S A s.heap s.heap [] := va_S.rf
  have hl := lv_entry [.ref ch, .int (nI k), .int (nI j)] (n := 3) (Nat.le_of_ble_eq_true rfl)
  rw [lg_entry_eq]
  generalize (lg_sl [.ref ch, .int (nI k), .int (nI j)] ++ List.replicate (3 - (lg_sl [.ref ch, .int (nI k), .int (nI j)]).length) Slot.unset).toArray = ls at hl ⊢
  generalize hag : ([.ref ch, .int (nI k), .int (nI j)] : List Value).toArray = args at hts hQ ⊢
  have hl : lv_has ls 3 [(0, .ref ch), (1, .int (nI k)), (2, .int (nI j))] := hl
  subst hfr
  refine lv_aload_n hx hb dX0_foundWay_0 rfl (lv_at hl 0 rfl) ?_
  refine va_get (D := (dC, dI)) (ci := 2) (v := .int (nI f9)) (C := RX0) (T := TX0) (N := 5) hx hb hts kc_xFoundWay_0 hown hK hP 0 rfl rfl 1 (by decide) (hts (.fieldLink RX0 77 "MistHeaps$Chances" "foundRow" "I") kc_xFoundWay_1) (fun _ h9 => h9) rfl dX0_foundWay_1 ?_
  refine lv_iconst (v := 3) hx hb dX0_foundWay_4 (by decide) ?_
  refine lv_iload_n hx hb dX0_foundWay_5 rfl (lv_at hl 1 rfl) ?_
  refine lv_iconst (v := 1) hx hb dX0_foundWay_6 (by decide) ?_
  refine lv_isub hx hb dX0_foundWay_7 ?_
  refine qi_as (y := nI (k - 1)) (pk_sub (a := k) (b := 1) (by omega)) ?_
  refine lv_iload_n hx hb dX0_foundWay_8 rfl (lv_at hl 2 rfl) ?_
  refine lv_isub hx hb dX0_foundWay_9 ?_
  refine qi_as (y := nI ((k - 1) - j)) (pk_sub (a := k - 1) (b := j) (by omega)) ?_
  refine lv_imul hx hb dX0_foundWay_10 ?_
  refine qi_as (y := nI (3 * ((k - 1) - j))) (pk_mul 3 ((k - 1) - j)) ?_
  refine lv_ishr hx hb dX0_foundWay_11 ?_
  refine lv_bipush (v := 7) hx hb dX0_foundWay_12 (by decide) ?_
  refine lv_iand hx hb dX0_foundWay_14 ?_
  refine qi_as (y := nI (wyR f9 k j)) (fw_w3 (k - 1 - j) (by omega) f9 hf5) ?_
  rw [hQ]
  exact W.iret (v := nI (wyR f9 k j)) hx hb hr (fun tQ htQ hWQ => ⟨nI (wyR f9 k j), rfl, rfl, by rw [htQ]⟩) (fun q hq => absurd hq List.not_mem_nil) dX0_foundWay_15
end mg15c
section mg15c
theorem ggX0_search_X0_begin : GoodIn wsX0_search wsX0_begin := gga_of 833 rfl rfl rfl
theorem gX0_search_X0_begin : GoodIn wsX0_search (wsV RX0 27 RX0 yX0_begin wsX0_begin) := goodIn_app (ggh_of [830, 832, 14, 68] rfl rfl rfl) ggX0_search_X0_begin
theorem ggX0_search_X0_tellHits : GoodIn wsX0_search wsX0_tellHits := gga_of 871 rfl rfl rfl
theorem gX0_search_X0_tellHits : GoodIn wsX0_search (wsV RX0 60 RX0 yX0_tellHits wsX0_tellHits) := goodIn_app (ggh_of [868, 870, 16, 68] rfl rfl rfl) ggX0_search_X0_tellHits
theorem ggX0_search_X0_tryLast : GoodIn wsX0_search wsX0_tryLast := gga_of 879 rfl rfl rfl
theorem gX0_search_X0_tryLast : GoodIn wsX0_search (wsV RX0 69 RX0 yX0_tryLast wsX0_tryLast) := goodIn_app (ggh_of [876, 878, 17, 68] rfl rfl rfl) ggX0_search_X0_tryLast
theorem ggX0_search_X0_spread : GoodIn wsX0_search wsX0_spread := gga_of 838 rfl rfl rfl
theorem gX0_search_X0_spread : GoodIn wsX0_search (wsV RX0 40 RX0 yX0_spread wsX0_spread) := goodIn_app (ggh_of [835, 837, 15, 68] rfl rfl rfl) ggX0_search_X0_spread
theorem ggX0_walked_X0_begin : GoodIn wsX0_walked wsX0_begin := gga_of 833 rfl rfl rfl
theorem gX0_walked_X0_begin : GoodIn wsX0_walked (wsV RX0 27 RX0 yX0_begin wsX0_begin) := goodIn_app (ggh_of [830, 832, 14, 68] rfl rfl rfl) ggX0_walked_X0_begin
theorem ggX0_walked_X11_isIn : GoodIn wsX0_walked wsX11_isIn := gga_of 841 rfl rfl rfl
theorem ggX0_walked_X0_spread : GoodIn wsX0_walked wsX0_spread := gga_of 838 rfl rfl rfl
theorem gX0_walked_X0_spread : GoodIn wsX0_walked (wsV RX0 40 RX0 yX0_spread wsX0_spread) := goodIn_app (ggh_of [835, 837, 15, 68] rfl rfl rfl) ggX0_walked_X0_spread
noncomputable def dk15dsearch_cX0_search_0 : List (Nat × List Nat) := [(0, [42]), (1, [43]), (2, [28]), (3, [182, 0, 27]), (6, [42]), (7, [43]), (8, [33]), (9, [182, 0, 60]), (12, [42]), (13, [20, 0, 64]), (16, [181, 0, 66]), (19, [21, 5]), (21, [4]), (22, [100]), (23, [54, 6]), (25, [3]), (26, [54, 7]), (28, [21, 7]), (30, [4]), (31, [6]), (32, [21, 6]), (34, [104]), (35, [120]), (36, [162, 0, 102]), (39, [3]), (40, [54, 8]), (42, [21, 8]), (44, [21, 6]), (46, [162, 0, 73]), (49, [6]), (119, [42]), (120, [42]), (121, [180, 0, 17]), (124, [21, 6]), (126, [50]), (127, [21, 7]), (129, [182, 0, 69]), (132, [132, 7, 1]), (135, [167, 255, 149]), (138, [177])]
set_option maxRecDepth 100000 in
theorem dk15dsearch_cX0_search_0_a : btA cX0_search dk15dsearch_cX0_search_0 = true := by decide +kernel
theorem dX0_search_0 : decode cX0_search 0 = .ok (.aload_n 0, 1) := bd42 (btAt dk15dsearch_cX0_search_0_a 0 rfl)
theorem dX0_search_1 : decode cX0_search 1 = .ok (.aload_n 1, 1) := bd43 (btAt dk15dsearch_cX0_search_0_a 1 rfl)
theorem dX0_search_2 : decode cX0_search 2 = .ok (.iload_n 2, 1) := bd28 (btAt dk15dsearch_cX0_search_0_a 2 rfl)
theorem dX0_search_3 : decode cX0_search 3 = .ok (.invokevirtual 27, 3) := bd182 (a := 0) (b := 27) (btAt dk15dsearch_cX0_search_0_a 3 rfl)
theorem dX0_search_6 : decode cX0_search 6 = .ok (.aload_n 0, 1) := bd42 (btAt dk15dsearch_cX0_search_0_a 4 rfl)
theorem dX0_search_7 : decode cX0_search 7 = .ok (.aload_n 1, 1) := bd43 (btAt dk15dsearch_cX0_search_0_a 5 rfl)
theorem dX0_search_8 : decode cX0_search 8 = .ok (.lload_n 3, 1) := bd33 (btAt dk15dsearch_cX0_search_0_a 6 rfl)
theorem dX0_search_9 : decode cX0_search 9 = .ok (.invokevirtual 60, 3) := bd182 (a := 0) (b := 60) (btAt dk15dsearch_cX0_search_0_a 7 rfl)
theorem dX0_search_12 : decode cX0_search 12 = .ok (.aload_n 0, 1) := bd42 (btAt dk15dsearch_cX0_search_0_a 8 rfl)
theorem dX0_search_13 : decode cX0_search 13 = .ok (.ldc2_w 64, 3) := bd20 (a := 0) (b := 64) (btAt dk15dsearch_cX0_search_0_a 9 rfl)
theorem dX0_search_16 : decode cX0_search 16 = .ok (.putfield 66, 3) := bd181 (a := 0) (b := 66) (btAt dk15dsearch_cX0_search_0_a 10 rfl)
theorem dX0_search_19 : decode cX0_search 19 = .ok (.iload 5, 2) := bd21 (a := 5) (btAt dk15dsearch_cX0_search_0_a 11 rfl)
theorem dX0_search_21 : decode cX0_search 21 = .ok (.iconst 1, 1) := bd4 (btAt dk15dsearch_cX0_search_0_a 12 rfl)
theorem dX0_search_22 : decode cX0_search 22 = .ok (.isub, 1) := bd100 (btAt dk15dsearch_cX0_search_0_a 13 rfl)
theorem dX0_search_23 : decode cX0_search 23 = .ok (.istore 6, 2) := bd54 (a := 6) (btAt dk15dsearch_cX0_search_0_a 14 rfl)
theorem dX0_search_25 : decode cX0_search 25 = .ok (.iconst 0, 1) := bd3 (btAt dk15dsearch_cX0_search_0_a 15 rfl)
theorem dX0_search_26 : decode cX0_search 26 = .ok (.istore 7, 2) := bd54 (a := 7) (btAt dk15dsearch_cX0_search_0_a 16 rfl)
theorem dX0_search_28 : decode cX0_search 28 = .ok (.iload 7, 2) := bd21 (a := 7) (btAt dk15dsearch_cX0_search_0_a 17 rfl)
theorem dX0_search_30 : decode cX0_search 30 = .ok (.iconst 1, 1) := bd4 (btAt dk15dsearch_cX0_search_0_a 18 rfl)
theorem dX0_search_31 : decode cX0_search 31 = .ok (.iconst 3, 1) := bd6 (btAt dk15dsearch_cX0_search_0_a 19 rfl)
theorem dX0_search_32 : decode cX0_search 32 = .ok (.iload 6, 2) := bd21 (a := 6) (btAt dk15dsearch_cX0_search_0_a 20 rfl)
theorem dX0_search_34 : decode cX0_search 34 = .ok (.imul, 1) := bd104 (btAt dk15dsearch_cX0_search_0_a 21 rfl)
theorem dX0_search_35 : decode cX0_search 35 = .ok (.ishl, 1) := bd120 (btAt dk15dsearch_cX0_search_0_a 22 rfl)
theorem dX0_search_36 : decode cX0_search 36 = .ok (.if_icmp .ge 102, 3) := bd162 (a := 0) (b := 102) (btAt dk15dsearch_cX0_search_0_a 23 rfl)
theorem dX0_search_39 : decode cX0_search 39 = .ok (.iconst 0, 1) := bd3 (btAt dk15dsearch_cX0_search_0_a 24 rfl)
theorem dX0_search_40 : decode cX0_search 40 = .ok (.istore 8, 2) := bd54 (a := 8) (btAt dk15dsearch_cX0_search_0_a 25 rfl)
theorem dX0_search_42 : decode cX0_search 42 = .ok (.iload 8, 2) := bd21 (a := 8) (btAt dk15dsearch_cX0_search_0_a 26 rfl)
theorem dX0_search_44 : decode cX0_search 44 = .ok (.iload 6, 2) := bd21 (a := 6) (btAt dk15dsearch_cX0_search_0_a 27 rfl)
theorem dX0_search_46 : decode cX0_search 46 = .ok (.if_icmp .ge 73, 3) := bd162 (a := 0) (b := 73) (btAt dk15dsearch_cX0_search_0_a 28 rfl)
theorem dX0_search_49 : decode cX0_search 49 = .ok (.iconst 3, 1) := bd6 (btAt dk15dsearch_cX0_search_0_a 29 rfl)
theorem dX0_search_119 : decode cX0_search 119 = .ok (.aload_n 0, 1) := bd42 (btAt dk15dsearch_cX0_search_0_a 30 rfl)
theorem dX0_search_120 : decode cX0_search 120 = .ok (.aload_n 0, 1) := bd42 (btAt dk15dsearch_cX0_search_0_a 31 rfl)
theorem dX0_search_121 : decode cX0_search 121 = .ok (.getfield 17, 3) := bd180 (a := 0) (b := 17) (btAt dk15dsearch_cX0_search_0_a 32 rfl)
theorem dX0_search_124 : decode cX0_search 124 = .ok (.iload 6, 2) := bd21 (a := 6) (btAt dk15dsearch_cX0_search_0_a 33 rfl)
theorem dX0_search_126 : decode cX0_search 126 = .ok (.aaload, 1) := bd50 (btAt dk15dsearch_cX0_search_0_a 34 rfl)
theorem dX0_search_127 : decode cX0_search 127 = .ok (.iload 7, 2) := bd21 (a := 7) (btAt dk15dsearch_cX0_search_0_a 35 rfl)
theorem dX0_search_129 : decode cX0_search 129 = .ok (.invokevirtual 69, 3) := bd182 (a := 0) (b := 69) (btAt dk15dsearch_cX0_search_0_a 36 rfl)
theorem dX0_search_132 : decode cX0_search 132 = .ok (.iinc 7 1, 3) := bd132 (a := 7) (b := 1) (btAt dk15dsearch_cX0_search_0_a 37 rfl)
theorem dX0_search_135 : decode cX0_search 135 = .ok (.goto (-107), 3) := bd167 (a := 255) (b := 149) (btAt dk15dsearch_cX0_search_0_a 38 rfl)
theorem dX0_search_138 : decode cX0_search 138 = .ok (.return_, 1) := bd177 (btAt dk15dsearch_cX0_search_0_a 39 rfl)
noncomputable def dk15dsearch_cX0_search_40 : List (Nat × List Nat) := [(50, [21, 6]), (52, [4]), (53, [100]), (54, [21, 8]), (56, [100]), (57, [104]), (58, [54, 9]), (60, [21, 7]), (62, [4]), (63, [21, 9]), (65, [120]), (66, [4]), (67, [100]), (68, [126]), (69, [154, 0, 7]), (72, [4]), (73, [167, 0, 4]), (77, [54, 10]), (79, [21, 10]), (81, [153, 0, 32]), (84, [42]), (85, [43]), (86, [42]), (87, [180, 0, 17]), (90, [21, 8]), (92, [50]), (93, [21, 7]), (95, [21, 9]), (97, [122]), (98, [16, 7]), (100, [126]), (101, [42]), (102, [180, 0, 17]), (105, [21, 8]), (107, [4]), (108, [96]), (109, [50]), (110, [182, 0, 40]), (113, [132, 8, 1]), (116, [167, 255, 182])]
set_option maxRecDepth 100000 in
theorem dk15dsearch_cX0_search_40_a : btA cX0_search dk15dsearch_cX0_search_40 = true := by decide +kernel
theorem dX0_search_50 : decode cX0_search 50 = .ok (.iload 6, 2) := bd21 (a := 6) (btAt dk15dsearch_cX0_search_40_a 0 rfl)
theorem dX0_search_52 : decode cX0_search 52 = .ok (.iconst 1, 1) := bd4 (btAt dk15dsearch_cX0_search_40_a 1 rfl)
theorem dX0_search_53 : decode cX0_search 53 = .ok (.isub, 1) := bd100 (btAt dk15dsearch_cX0_search_40_a 2 rfl)
theorem dX0_search_54 : decode cX0_search 54 = .ok (.iload 8, 2) := bd21 (a := 8) (btAt dk15dsearch_cX0_search_40_a 3 rfl)
theorem dX0_search_56 : decode cX0_search 56 = .ok (.isub, 1) := bd100 (btAt dk15dsearch_cX0_search_40_a 4 rfl)
theorem dX0_search_57 : decode cX0_search 57 = .ok (.imul, 1) := bd104 (btAt dk15dsearch_cX0_search_40_a 5 rfl)
theorem dX0_search_58 : decode cX0_search 58 = .ok (.istore 9, 2) := bd54 (a := 9) (btAt dk15dsearch_cX0_search_40_a 6 rfl)
theorem dX0_search_60 : decode cX0_search 60 = .ok (.iload 7, 2) := bd21 (a := 7) (btAt dk15dsearch_cX0_search_40_a 7 rfl)
theorem dX0_search_62 : decode cX0_search 62 = .ok (.iconst 1, 1) := bd4 (btAt dk15dsearch_cX0_search_40_a 8 rfl)
theorem dX0_search_63 : decode cX0_search 63 = .ok (.iload 9, 2) := bd21 (a := 9) (btAt dk15dsearch_cX0_search_40_a 9 rfl)
theorem dX0_search_65 : decode cX0_search 65 = .ok (.ishl, 1) := bd120 (btAt dk15dsearch_cX0_search_40_a 10 rfl)
theorem dX0_search_66 : decode cX0_search 66 = .ok (.iconst 1, 1) := bd4 (btAt dk15dsearch_cX0_search_40_a 11 rfl)
theorem dX0_search_67 : decode cX0_search 67 = .ok (.isub, 1) := bd100 (btAt dk15dsearch_cX0_search_40_a 12 rfl)
theorem dX0_search_68 : decode cX0_search 68 = .ok (.iand, 1) := bd126 (btAt dk15dsearch_cX0_search_40_a 13 rfl)
theorem dX0_search_69 : decode cX0_search 69 = .ok (.ifCond .ne 7, 3) := bd154 (a := 0) (b := 7) (btAt dk15dsearch_cX0_search_40_a 14 rfl)
theorem dX0_search_72 : decode cX0_search 72 = .ok (.iconst 1, 1) := bd4 (btAt dk15dsearch_cX0_search_40_a 15 rfl)
theorem dX0_search_73 : decode cX0_search 73 = .ok (.goto 4, 3) := bd167 (a := 0) (b := 4) (btAt dk15dsearch_cX0_search_40_a 16 rfl)
theorem dX0_search_77 : decode cX0_search 77 = .ok (.istore 10, 2) := bd54 (a := 10) (btAt dk15dsearch_cX0_search_40_a 17 rfl)
theorem dX0_search_79 : decode cX0_search 79 = .ok (.iload 10, 2) := bd21 (a := 10) (btAt dk15dsearch_cX0_search_40_a 18 rfl)
theorem dX0_search_81 : decode cX0_search 81 = .ok (.ifCond .eq 32, 3) := bd153 (a := 0) (b := 32) (btAt dk15dsearch_cX0_search_40_a 19 rfl)
theorem dX0_search_84 : decode cX0_search 84 = .ok (.aload_n 0, 1) := bd42 (btAt dk15dsearch_cX0_search_40_a 20 rfl)
theorem dX0_search_85 : decode cX0_search 85 = .ok (.aload_n 1, 1) := bd43 (btAt dk15dsearch_cX0_search_40_a 21 rfl)
theorem dX0_search_86 : decode cX0_search 86 = .ok (.aload_n 0, 1) := bd42 (btAt dk15dsearch_cX0_search_40_a 22 rfl)
theorem dX0_search_87 : decode cX0_search 87 = .ok (.getfield 17, 3) := bd180 (a := 0) (b := 17) (btAt dk15dsearch_cX0_search_40_a 23 rfl)
theorem dX0_search_90 : decode cX0_search 90 = .ok (.iload 8, 2) := bd21 (a := 8) (btAt dk15dsearch_cX0_search_40_a 24 rfl)
theorem dX0_search_92 : decode cX0_search 92 = .ok (.aaload, 1) := bd50 (btAt dk15dsearch_cX0_search_40_a 25 rfl)
theorem dX0_search_93 : decode cX0_search 93 = .ok (.iload 7, 2) := bd21 (a := 7) (btAt dk15dsearch_cX0_search_40_a 26 rfl)
theorem dX0_search_95 : decode cX0_search 95 = .ok (.iload 9, 2) := bd21 (a := 9) (btAt dk15dsearch_cX0_search_40_a 27 rfl)
theorem dX0_search_97 : decode cX0_search 97 = .ok (.ishr, 1) := bd122 (btAt dk15dsearch_cX0_search_40_a 28 rfl)
theorem dX0_search_98 : decode cX0_search 98 = .ok (.bipush 7, 2) := bd16 (a := 7) (btAt dk15dsearch_cX0_search_40_a 29 rfl)
theorem dX0_search_100 : decode cX0_search 100 = .ok (.iand, 1) := bd126 (btAt dk15dsearch_cX0_search_40_a 30 rfl)
theorem dX0_search_101 : decode cX0_search 101 = .ok (.aload_n 0, 1) := bd42 (btAt dk15dsearch_cX0_search_40_a 31 rfl)
theorem dX0_search_102 : decode cX0_search 102 = .ok (.getfield 17, 3) := bd180 (a := 0) (b := 17) (btAt dk15dsearch_cX0_search_40_a 32 rfl)
theorem dX0_search_105 : decode cX0_search 105 = .ok (.iload 8, 2) := bd21 (a := 8) (btAt dk15dsearch_cX0_search_40_a 33 rfl)
theorem dX0_search_107 : decode cX0_search 107 = .ok (.iconst 1, 1) := bd4 (btAt dk15dsearch_cX0_search_40_a 34 rfl)
theorem dX0_search_108 : decode cX0_search 108 = .ok (.iadd, 1) := bd96 (btAt dk15dsearch_cX0_search_40_a 35 rfl)
theorem dX0_search_109 : decode cX0_search 109 = .ok (.aaload, 1) := bd50 (btAt dk15dsearch_cX0_search_40_a 36 rfl)
theorem dX0_search_110 : decode cX0_search 110 = .ok (.invokevirtual 40, 3) := bd182 (a := 0) (b := 40) (btAt dk15dsearch_cX0_search_40_a 37 rfl)
theorem dX0_search_113 : decode cX0_search 113 = .ok (.iinc 8 1, 3) := bd132 (a := 8) (b := 1) (btAt dk15dsearch_cX0_search_40_a 38 rfl)
theorem dX0_search_116 : decode cX0_search 116 = .ok (.goto (-74), 3) := bd167 (a := 255) (b := 182) (btAt dk15dsearch_cX0_search_40_a 39 rfl)
noncomputable def dk15dsearch_cX0_search_80 : List (Nat × List Nat) := [(76, [3])]
set_option maxRecDepth 100000 in
theorem dk15dsearch_cX0_search_80_a : btA cX0_search dk15dsearch_cX0_search_80 = true := by decide +kernel
theorem dX0_search_76 : decode cX0_search 76 = .ok (.iconst 0, 1) := bd3 (btAt dk15dsearch_cX0_search_80_a 0 rfl)
noncomputable def dk15dsearch_cX0_walked_0 : List (Nat × List Nat) := [(0, [42]), (1, [43]), (2, [28]), (3, [182, 0, 27]), (6, [3]), (7, [54, 5]), (9, [21, 5]), (11, [43]), (12, [180, 0, 31]), (15, [162, 0, 41]), (18, [42]), (56, [42]), (57, [180, 0, 17]), (60, [43]), (61, [180, 0, 31]), (64, [4]), (65, [126]), (66, [50]), (67, [58, 5]), (69, [9]), (70, [55, 6]), (72, [3]), (73, [54, 8]), (75, [21, 8]), (77, [16, 36]), (79, [162, 0, 28]), (82, [33]), (83, [21, 8]), (85, [184, 0, 44]), (88, [153, 0, 13]), (91, [22, 6]), (93, [25, 5]), (95, [21, 8]), (97, [47]), (98, [97]), (99, [55, 6]), (101, [132, 8, 1]), (104, [167, 255, 227]), (107, [22, 6]), (109, [173])]
set_option maxRecDepth 100000 in
theorem dk15dsearch_cX0_walked_0_a : btA cX0_walked dk15dsearch_cX0_walked_0 = true := by decide +kernel
theorem dX0_walked_0 : decode cX0_walked 0 = .ok (.aload_n 0, 1) := bd42 (btAt dk15dsearch_cX0_walked_0_a 0 rfl)
theorem dX0_walked_1 : decode cX0_walked 1 = .ok (.aload_n 1, 1) := bd43 (btAt dk15dsearch_cX0_walked_0_a 1 rfl)
theorem dX0_walked_2 : decode cX0_walked 2 = .ok (.iload_n 2, 1) := bd28 (btAt dk15dsearch_cX0_walked_0_a 2 rfl)
theorem dX0_walked_3 : decode cX0_walked 3 = .ok (.invokevirtual 27, 3) := bd182 (a := 0) (b := 27) (btAt dk15dsearch_cX0_walked_0_a 3 rfl)
theorem dX0_walked_6 : decode cX0_walked 6 = .ok (.iconst 0, 1) := bd3 (btAt dk15dsearch_cX0_walked_0_a 4 rfl)
theorem dX0_walked_7 : decode cX0_walked 7 = .ok (.istore 5, 2) := bd54 (a := 5) (btAt dk15dsearch_cX0_walked_0_a 5 rfl)
theorem dX0_walked_9 : decode cX0_walked 9 = .ok (.iload 5, 2) := bd21 (a := 5) (btAt dk15dsearch_cX0_walked_0_a 6 rfl)
theorem dX0_walked_11 : decode cX0_walked 11 = .ok (.aload_n 1, 1) := bd43 (btAt dk15dsearch_cX0_walked_0_a 7 rfl)
theorem dX0_walked_12 : decode cX0_walked 12 = .ok (.getfield 31, 3) := bd180 (a := 0) (b := 31) (btAt dk15dsearch_cX0_walked_0_a 8 rfl)
theorem dX0_walked_15 : decode cX0_walked 15 = .ok (.if_icmp .ge 41, 3) := bd162 (a := 0) (b := 41) (btAt dk15dsearch_cX0_walked_0_a 9 rfl)
theorem dX0_walked_18 : decode cX0_walked 18 = .ok (.aload_n 0, 1) := bd42 (btAt dk15dsearch_cX0_walked_0_a 10 rfl)
theorem dX0_walked_56 : decode cX0_walked 56 = .ok (.aload_n 0, 1) := bd42 (btAt dk15dsearch_cX0_walked_0_a 11 rfl)
theorem dX0_walked_57 : decode cX0_walked 57 = .ok (.getfield 17, 3) := bd180 (a := 0) (b := 17) (btAt dk15dsearch_cX0_walked_0_a 12 rfl)
theorem dX0_walked_60 : decode cX0_walked 60 = .ok (.aload_n 1, 1) := bd43 (btAt dk15dsearch_cX0_walked_0_a 13 rfl)
theorem dX0_walked_61 : decode cX0_walked 61 = .ok (.getfield 31, 3) := bd180 (a := 0) (b := 31) (btAt dk15dsearch_cX0_walked_0_a 14 rfl)
theorem dX0_walked_64 : decode cX0_walked 64 = .ok (.iconst 1, 1) := bd4 (btAt dk15dsearch_cX0_walked_0_a 15 rfl)
theorem dX0_walked_65 : decode cX0_walked 65 = .ok (.iand, 1) := bd126 (btAt dk15dsearch_cX0_walked_0_a 16 rfl)
theorem dX0_walked_66 : decode cX0_walked 66 = .ok (.aaload, 1) := bd50 (btAt dk15dsearch_cX0_walked_0_a 17 rfl)
theorem dX0_walked_67 : decode cX0_walked 67 = .ok (.astore 5, 2) := bd58 (a := 5) (btAt dk15dsearch_cX0_walked_0_a 18 rfl)
theorem dX0_walked_69 : decode cX0_walked 69 = .ok (.lconst 0, 1) := bd9 (btAt dk15dsearch_cX0_walked_0_a 19 rfl)
theorem dX0_walked_70 : decode cX0_walked 70 = .ok (.lstore 6, 2) := bd55 (a := 6) (btAt dk15dsearch_cX0_walked_0_a 20 rfl)
theorem dX0_walked_72 : decode cX0_walked 72 = .ok (.iconst 0, 1) := bd3 (btAt dk15dsearch_cX0_walked_0_a 21 rfl)
theorem dX0_walked_73 : decode cX0_walked 73 = .ok (.istore 8, 2) := bd54 (a := 8) (btAt dk15dsearch_cX0_walked_0_a 22 rfl)
theorem dX0_walked_75 : decode cX0_walked 75 = .ok (.iload 8, 2) := bd21 (a := 8) (btAt dk15dsearch_cX0_walked_0_a 23 rfl)
theorem dX0_walked_77 : decode cX0_walked 77 = .ok (.bipush 36, 2) := bd16 (a := 36) (btAt dk15dsearch_cX0_walked_0_a 24 rfl)
theorem dX0_walked_79 : decode cX0_walked 79 = .ok (.if_icmp .ge 28, 3) := bd162 (a := 0) (b := 28) (btAt dk15dsearch_cX0_walked_0_a 25 rfl)
theorem dX0_walked_82 : decode cX0_walked 82 = .ok (.lload_n 3, 1) := bd33 (btAt dk15dsearch_cX0_walked_0_a 26 rfl)
theorem dX0_walked_83 : decode cX0_walked 83 = .ok (.iload 8, 2) := bd21 (a := 8) (btAt dk15dsearch_cX0_walked_0_a 27 rfl)
theorem dX0_walked_85 : decode cX0_walked 85 = .ok (.invokestatic 44, 3) := bd184 (a := 0) (b := 44) (btAt dk15dsearch_cX0_walked_0_a 28 rfl)
theorem dX0_walked_88 : decode cX0_walked 88 = .ok (.ifCond .eq 13, 3) := bd153 (a := 0) (b := 13) (btAt dk15dsearch_cX0_walked_0_a 29 rfl)
theorem dX0_walked_91 : decode cX0_walked 91 = .ok (.lload 6, 2) := bd22 (a := 6) (btAt dk15dsearch_cX0_walked_0_a 30 rfl)
theorem dX0_walked_93 : decode cX0_walked 93 = .ok (.aload 5, 2) := bd25 (a := 5) (btAt dk15dsearch_cX0_walked_0_a 31 rfl)
theorem dX0_walked_95 : decode cX0_walked 95 = .ok (.iload 8, 2) := bd21 (a := 8) (btAt dk15dsearch_cX0_walked_0_a 32 rfl)
theorem dX0_walked_97 : decode cX0_walked 97 = .ok (.laload, 1) := bd47 (btAt dk15dsearch_cX0_walked_0_a 33 rfl)
theorem dX0_walked_98 : decode cX0_walked 98 = .ok (.ladd, 1) := bd97 (btAt dk15dsearch_cX0_walked_0_a 34 rfl)
theorem dX0_walked_99 : decode cX0_walked 99 = .ok (.lstore 6, 2) := bd55 (a := 6) (btAt dk15dsearch_cX0_walked_0_a 35 rfl)
theorem dX0_walked_101 : decode cX0_walked 101 = .ok (.iinc 8 1, 3) := bd132 (a := 8) (b := 1) (btAt dk15dsearch_cX0_walked_0_a 36 rfl)
theorem dX0_walked_104 : decode cX0_walked 104 = .ok (.goto (-29), 3) := bd167 (a := 255) (b := 227) (btAt dk15dsearch_cX0_walked_0_a 37 rfl)
theorem dX0_walked_107 : decode cX0_walked 107 = .ok (.lload 6, 2) := bd22 (a := 6) (btAt dk15dsearch_cX0_walked_0_a 38 rfl)
theorem dX0_walked_109 : decode cX0_walked 109 = .ok (.lreturn, 1) := bd173 (btAt dk15dsearch_cX0_walked_0_a 39 rfl)
noncomputable def dk15dsearch_cX0_walked_40 : List (Nat × List Nat) := [(19, [43]), (20, [42]), (21, [180, 0, 17]), (24, [21, 5]), (26, [4]), (27, [126]), (28, [50]), (29, [43]), (30, [180, 0, 37]), (33, [21, 5]), (35, [46]), (36, [42]), (37, [180, 0, 17]), (40, [21, 5]), (42, [4]), (43, [96]), (44, [4]), (45, [126]), (46, [50]), (47, [182, 0, 40]), (50, [132, 5, 1]), (53, [167, 255, 212])]
set_option maxRecDepth 100000 in
theorem dk15dsearch_cX0_walked_40_a : btA cX0_walked dk15dsearch_cX0_walked_40 = true := by decide +kernel
theorem dX0_walked_19 : decode cX0_walked 19 = .ok (.aload_n 1, 1) := bd43 (btAt dk15dsearch_cX0_walked_40_a 0 rfl)
theorem dX0_walked_20 : decode cX0_walked 20 = .ok (.aload_n 0, 1) := bd42 (btAt dk15dsearch_cX0_walked_40_a 1 rfl)
theorem dX0_walked_21 : decode cX0_walked 21 = .ok (.getfield 17, 3) := bd180 (a := 0) (b := 17) (btAt dk15dsearch_cX0_walked_40_a 2 rfl)
theorem dX0_walked_24 : decode cX0_walked 24 = .ok (.iload 5, 2) := bd21 (a := 5) (btAt dk15dsearch_cX0_walked_40_a 3 rfl)
theorem dX0_walked_26 : decode cX0_walked 26 = .ok (.iconst 1, 1) := bd4 (btAt dk15dsearch_cX0_walked_40_a 4 rfl)
theorem dX0_walked_27 : decode cX0_walked 27 = .ok (.iand, 1) := bd126 (btAt dk15dsearch_cX0_walked_40_a 5 rfl)
theorem dX0_walked_28 : decode cX0_walked 28 = .ok (.aaload, 1) := bd50 (btAt dk15dsearch_cX0_walked_40_a 6 rfl)
theorem dX0_walked_29 : decode cX0_walked 29 = .ok (.aload_n 1, 1) := bd43 (btAt dk15dsearch_cX0_walked_40_a 7 rfl)
theorem dX0_walked_30 : decode cX0_walked 30 = .ok (.getfield 37, 3) := bd180 (a := 0) (b := 37) (btAt dk15dsearch_cX0_walked_40_a 8 rfl)
theorem dX0_walked_33 : decode cX0_walked 33 = .ok (.iload 5, 2) := bd21 (a := 5) (btAt dk15dsearch_cX0_walked_40_a 9 rfl)
theorem dX0_walked_35 : decode cX0_walked 35 = .ok (.iaload, 1) := bd46 (btAt dk15dsearch_cX0_walked_40_a 10 rfl)
theorem dX0_walked_36 : decode cX0_walked 36 = .ok (.aload_n 0, 1) := bd42 (btAt dk15dsearch_cX0_walked_40_a 11 rfl)
theorem dX0_walked_37 : decode cX0_walked 37 = .ok (.getfield 17, 3) := bd180 (a := 0) (b := 17) (btAt dk15dsearch_cX0_walked_40_a 12 rfl)
theorem dX0_walked_40 : decode cX0_walked 40 = .ok (.iload 5, 2) := bd21 (a := 5) (btAt dk15dsearch_cX0_walked_40_a 13 rfl)
theorem dX0_walked_42 : decode cX0_walked 42 = .ok (.iconst 1, 1) := bd4 (btAt dk15dsearch_cX0_walked_40_a 14 rfl)
theorem dX0_walked_43 : decode cX0_walked 43 = .ok (.iadd, 1) := bd96 (btAt dk15dsearch_cX0_walked_40_a 15 rfl)
theorem dX0_walked_44 : decode cX0_walked 44 = .ok (.iconst 1, 1) := bd4 (btAt dk15dsearch_cX0_walked_40_a 16 rfl)
theorem dX0_walked_45 : decode cX0_walked 45 = .ok (.iand, 1) := bd126 (btAt dk15dsearch_cX0_walked_40_a 17 rfl)
theorem dX0_walked_46 : decode cX0_walked 46 = .ok (.aaload, 1) := bd50 (btAt dk15dsearch_cX0_walked_40_a 18 rfl)
theorem dX0_walked_47 : decode cX0_walked 47 = .ok (.invokevirtual 40, 3) := bd182 (a := 0) (b := 40) (btAt dk15dsearch_cX0_walked_40_a 19 rfl)
theorem dX0_walked_50 : decode cX0_walked 50 = .ok (.iinc 5 1, 3) := bd132 (a := 5) (b := 1) (btAt dk15dsearch_cX0_walked_40_a 20 rfl)
theorem dX0_walked_53 : decode cX0_walked 53 = .ok (.goto (-44), 3) := bd167 (a := 255) (b := 212) (btAt dk15dsearch_cX0_walked_40_a 21 rfl)
theorem kc_xSearch1_0 : (.constantLong RX0 64 (-1) : Cond) ∈ wsX0_search := kc_of 875 rfl rfl rfl
theorem kc_xSearch1_1 : ∀ w ∈ wsX00, w ∈ wsX0_search := fun w h => List.mem_cons_of_mem _ (gin_wsX00 w h)
theorem kc_xSearch1_2 : (.fieldLink RX0 66 "MistHeaps$Chances" "foundTimes" "J" : Cond) ∈ wsX0_search := kc_of 284 rfl rfl rfl
theorem kc_xSearch1_3 : (.fieldLink RX0 17 "MistHeaps$Chances" "times" "[[J" : Cond) ∈ wsX0_search := kc_of 288 rfl rfl rfl
set_option maxHeartbeats 4000000 in
set_option maxRecDepth 100000 in
theorem c_xSearch1 (l : Launch) (dC : Nat → ClassId) (dI : Nat → Nat → Nat) (gd : Nat → Nat)  (sc : Nat) (ch : Nat) (aTp : Nat) (aHl : Nat) (aHs : Nat) (aWk : Nat) (aBk : Nat) (aFc : Nat) (bW : Nat) (bA : Nat) (bE : Nat) (bC : Nat) (dr : Nat) (tO : Nat) (hO : Nat) (ts : Nat) (nh : Nat) (n : Nat) (wz : Nat) (bz : Nat) (cl : Nat) (i : Nat) (j : Nat) (mi : Int32) (sn : Int32) (sg : Int32) (cdd : Int32) (szz : Int32) (att : Int32) (nmb : Int32) (fr : Int32) (ft : Int64) (cFc : ClassId) (cbW : ClassId) (cbA : ClassId) (cbE : ClassId) (cbC : ClassId) (cD : ClassId) (cTO : ClassId) (cHO : ClassId) (cT : ClassId) (cH : ClassId) (fFc : Nat → Int32) (fbW : Nat → Int32) (fbA : Nat → Int32) (fbE : Nat → Int32) (fbC : Nat → Int32) (fD : Nat → Int32) (g0 : Nat → Int32) (g1 : Nat → Int32) (g2 : Nat → Int32) (g3 : Nat → Int32) (g4 : Nat → Int32) (g5 : Nat → Int32) (g6 : Nat → Int32) (g7 : Nat → Int32) (ft0 : Nat → Int64) (ft1 : Nat → Int64) (ft2 : Nat → Int64) (rt : Nat → Nat) (rh : Nat → Nat) (tpv : Value) (cz : List pCla) (ee : Nat) (ma : Nat) (sz : Nat) (zcl : cl ≤ 10) (zE : ∀ k0, k0 < 10 → ∃ e0 : Nat, e0 ≤ 100 ∧ fbE k0 = nI e0) (zC : ∀ k0, k0 < 100 → okC (fbC k0)) (hj36 : j < 36) (hma : ma < 2 ^ 62) (hee : ee < 2 ^ 36) (zHC : HC cl sg fbW fbA fbE fbC cz ∧ WfC cz) : Met l yX0_search wsX0_search ({ frames := 5, cells := 0, slots := 0, locals := 117 } : Room) (va_Pc [.ref ch, .ref sc, .int (nI j), .long (lN ma), .int 1] (fun U => U.heap.size = sz ∧ va_P (dC, dI) vwCl [(zo2lirrr ch ft fr dr tO hO), (zaI dr cD 36 fD), (zaR tO cTO 3 (fun i => if i < 3 then some (rt i) else none)), (zaL (rt 0) cT 36 ft0), (zaL (rt 1) cT 36 ft1), (zaL (rt 2) cT 36 ft2), (zaR hO cHO 8 (fun i => if i < 8 then some (rh i) else none)), (zaI (rh 0) cH 36 g0), (zaI (rh 1) cH 36 g1), (zaI (rh 2) cH 36 g2), (zaI (rh 3) cH 36 g3), (zaI (rh 4) cH 36 g4), (zaI (rh 5) cH 36 g5), (zaI (rh 6) cH 36 g6), (zaI (rh 7) cH 36 g7), (zo10ririliiriririr sc aTp (nI ts) aHl (nI nh) (lN ee) mi sn aHs (nI n) aWk (nI wz) aBk (nI bz) aFc), (zaI aFc cFc 6 fFc)] U.heap ∧ va_K (dC, dI) vwCl [(cD, .int), (cTO, .array .long), (cT, .long), (cT, .long), (cT, .long), (cHO, .array .int), (cH, .int), (cH, .int), (cH, .int), (cH, .int), (cH, .int), (cH, .int), (cH, .int), (cH, .int), (cFc, .int)] U ∧ va_D (fun _ => True) [(zo2lirrr ch ft fr dr tO hO), (zaI dr cD 36 fD), (zaR tO cTO 3 (fun i => if i < 3 then some (rt i) else none)), (zaL (rt 0) cT 36 ft0), (zaL (rt 1) cT 36 ft1), (zaL (rt 2) cT 36 ft2), (zaR hO cHO 8 (fun i => if i < 8 then some (rh i) else none)), (zaI (rh 0) cH 36 g0), (zaI (rh 1) cH 36 g1), (zaI (rh 2) cH 36 g2), (zaI (rh 3) cH 36 g3), (zaI (rh 4) cH 36 g4), (zaI (rh 5) cH 36 g5), (zaI (rh 6) cH 36 g6), (zaI (rh 7) cH 36 g7), (zo10ririliiriririr sc aTp (nI ts) aHl (nI nh) (lN ee) mi sn aHs (nI n) aWk (nI wz) aBk (nI bz) aFc), (zaI aFc cFc 6 fFc)] ∧ Gl gd (va_A [(zo2lirrr ch ft fr dr tO hO), (zaI dr cD 36 fD), (zaR tO cTO 3 (fun i => if i < 3 then some (rt i) else none)), (zaL (rt 0) cT 36 ft0), (zaL (rt 1) cT 36 ft1), (zaL (rt 2) cT 36 ft2), (zaR hO cHO 8 (fun i => if i < 8 then some (rh i) else none)), (zaI (rh 0) cH 36 g0), (zaI (rh 1) cH 36 g1), (zaI (rh 2) cH 36 g2), (zaI (rh 3) cH 36 g3), (zaI (rh 4) cH 36 g4), (zaI (rh 5) cH 36 g5), (zaI (rh 6) cH 36 g6), (zaI (rh 7) cH 36 g7), (zo10ririliiriririr sc aTp (nI ts) aHl (nI nh) (lN ee) mi sn aHs (nI n) aWk (nI wz) aBk (nI bz) aFc), (zaI aFc cFc 6 fFc)] sz) U ∧ Fz dC dI [(zo7iirrrriviii aHl sg (nI cl) bW bA bE bC cdd tpv szz att nmb), (zaI bW cbW 10 fbW), (zaI bA cbA 10 fbA), (zaI bE cbE 10 fbE), (zaI bC cbC 100 fbC)] [(cbW, .int), (cbA, .int), (cbE, .int), (cbC, .int)] (va_A [(zo2lirrr ch ft fr dr tO hO), (zaI dr cD 36 fD), (zaR tO cTO 3 (fun i => if i < 3 then some (rt i) else none)), (zaL (rt 0) cT 36 ft0), (zaL (rt 1) cT 36 ft1), (zaL (rt 2) cT 36 ft2), (zaR hO cHO 8 (fun i => if i < 8 then some (rh i) else none)), (zaI (rh 0) cH 36 g0), (zaI (rh 1) cH 36 g1), (zaI (rh 2) cH 36 g2), (zaI (rh 3) cH 36 g3), (zaI (rh 4) cH 36 g4), (zaI (rh 5) cH 36 g5), (zaI (rh 6) cH 36 g6), (zaI (rh 7) cH 36 g7), (zo10ririliiriririr sc aTp (nI ts) aHl (nI nh) (lN ee) mi sn aHs (nI n) aWk (nI wz) aBk (nI bz) aFc), (zaI aFc cFc 6 fFc)] sz) U)) (va_Qv (fun (u : (Int64) × (Int32) × (Nat → Int32) × (Nat → Int64) × (Nat → Int64) × (Nat → Int64) × (Nat → Int32) × (Nat → Int32) × (Nat → Int32) × (Nat → Int32) × (Nat → Int32) × (Nat → Int32) × (Nat → Int32) × (Nat → Int32) × (Nat → Int32)) => match u with | (ft9, fr9, fD9, ft09, ft19, ft29, g09, g19, g29, g39, g49, g59, g69, g79, fFc9) => fmJ (srU cz mi sn ee j 1 ma) 8 ft9 fr9) (fun (u : (Int64) × (Int32) × (Nat → Int32) × (Nat → Int64) × (Nat → Int64) × (Nat → Int64) × (Nat → Int32) × (Nat → Int32) × (Nat → Int32) × (Nat → Int32) × (Nat → Int32) × (Nat → Int32) × (Nat → Int32) × (Nat → Int32) × (Nat → Int32)) (t : State) => match u with | (ft9, fr9, fD9, ft09, ft19, ft29, g09, g19, g29, g39, g49, g59, g69, g79, fFc9) => va_P (dC, dI) vwCl [(zo2lirrr ch ft9 fr9 dr tO hO), (zaI dr cD 36 fD9), (zaR tO cTO 3 (fun i => if i < 3 then some (rt i) else none)), (zaL (rt 0) cT 36 ft09), (zaL (rt 1) cT 36 ft19), (zaL (rt 2) cT 36 ft29), (zaR hO cHO 8 (fun i => if i < 8 then some (rh i) else none)), (zaI (rh 0) cH 36 g09), (zaI (rh 1) cH 36 g19), (zaI (rh 2) cH 36 g29), (zaI (rh 3) cH 36 g39), (zaI (rh 4) cH 36 g49), (zaI (rh 5) cH 36 g59), (zaI (rh 6) cH 36 g69), (zaI (rh 7) cH 36 g79), (zo10ririliiriririr sc aTp (nI ts) aHl (nI nh) (lN ee) mi sn aHs (nI n) aWk (nI wz) aBk (nI bz) aFc), (zaI aFc cFc 6 fFc9)] t.heap ∧ va_K (dC, dI) vwCl [(cD, .int), (cTO, .array .long), (cT, .long), (cT, .long), (cT, .long), (cHO, .array .int), (cH, .int), (cH, .int), (cH, .int), (cH, .int), (cH, .int), (cH, .int), (cH, .int), (cH, .int), (cFc, .int)] t ∧ va_D (va_A [(zo2lirrr ch ft fr dr tO hO), (zaI dr cD 36 fD), (zaR tO cTO 3 (fun i => if i < 3 then some (rt i) else none)), (zaL (rt 0) cT 36 ft0), (zaL (rt 1) cT 36 ft1), (zaL (rt 2) cT 36 ft2), (zaR hO cHO 8 (fun i => if i < 8 then some (rh i) else none)), (zaI (rh 0) cH 36 g0), (zaI (rh 1) cH 36 g1), (zaI (rh 2) cH 36 g2), (zaI (rh 3) cH 36 g3), (zaI (rh 4) cH 36 g4), (zaI (rh 5) cH 36 g5), (zaI (rh 6) cH 36 g6), (zaI (rh 7) cH 36 g7), (zo10ririliiriririr sc aTp (nI ts) aHl (nI nh) (lN ee) mi sn aHs (nI n) aWk (nI wz) aBk (nI bz) aFc), (zaI aFc cFc 6 fFc)] sz) [(zo2lirrr ch ft9 fr9 dr tO hO), (zaI dr cD 36 fD9), (zaR tO cTO 3 (fun i => if i < 3 then some (rt i) else none)), (zaL (rt 0) cT 36 ft09), (zaL (rt 1) cT 36 ft19), (zaL (rt 2) cT 36 ft29), (zaR hO cHO 8 (fun i => if i < 8 then some (rh i) else none)), (zaI (rh 0) cH 36 g09), (zaI (rh 1) cH 36 g19), (zaI (rh 2) cH 36 g29), (zaI (rh 3) cH 36 g39), (zaI (rh 4) cH 36 g49), (zaI (rh 5) cH 36 g59), (zaI (rh 6) cH 36 g69), (zaI (rh 7) cH 36 g79), (zo10ririliiriririr sc aTp (nI ts) aHl (nI nh) (lN ee) mi sn aHs (nI n) aWk (nI wz) aBk (nI bz) aFc), (zaI aFc cFc 6 fFc9)]) (va_A [(zo2lirrr ch ft fr dr tO hO), (zaI dr cD 36 fD), (zaR tO cTO 3 (fun i => if i < 3 then some (rt i) else none)), (zaL (rt 0) cT 36 ft0), (zaL (rt 1) cT 36 ft1), (zaL (rt 2) cT 36 ft2), (zaR hO cHO 8 (fun i => if i < 8 then some (rh i) else none)), (zaI (rh 0) cH 36 g0), (zaI (rh 1) cH 36 g1), (zaI (rh 2) cH 36 g2), (zaI (rh 3) cH 36 g3), (zaI (rh 4) cH 36 g4), (zaI (rh 5) cH 36 g5), (zaI (rh 6) cH 36 g6), (zaI (rh 7) cH 36 g7), (zo10ririliiriririr sc aTp (nI ts) aHl (nI nh) (lN ee) mi sn aHs (nI n) aWk (nI wz) aBk (nI bz) aFc), (zaI aFc cFc 6 fFc)] sz)) 0 0 (va_A [(zo2lirrr ch ft fr dr tO hO), (zaI dr cD 36 fD), (zaR tO cTO 3 (fun i => if i < 3 then some (rt i) else none)), (zaL (rt 0) cT 36 ft0), (zaL (rt 1) cT 36 ft1), (zaL (rt 2) cT 36 ft2), (zaR hO cHO 8 (fun i => if i < 8 then some (rh i) else none)), (zaI (rh 0) cH 36 g0), (zaI (rh 1) cH 36 g1), (zaI (rh 2) cH 36 g2), (zaI (rh 3) cH 36 g3), (zaI (rh 4) cH 36 g4), (zaI (rh 5) cH 36 g5), (zaI (rh 6) cH 36 g6), (zaI (rh 7) cH 36 g7), (zo10ririliiriririr sc aTp (nI ts) aHl (nI nh) (lN ee) mi sn aHs (nI n) aWk (nI wz) aBk (nI bz) aFc), (zaI aFc cFc 6 fFc)] sz) := by
  refine met_ofQ (cc := cX0_search) (maxL := 11) (ret := none) (by decide) rfl ?_
  intro p e s m args below meth c s₁ Q B hml hv hQ
  obtain ⟨rfl, hsz, hP, hK, hD0, hG, hZ⟩ := hv
  have hx := B.exec
  have hb := B.bytes
  have hr := B.returns
  have hts := atoms_spec (ws := wsX0_search) B.pre
  have hown : s.vm.findClass RX0 = some m.cls := findClass_of_methodNamed B.named
  have hlocks := B.notSynchronized
  subst hsz
  have hD := hD0.self (sz := s.heap.size)
  generalize hAe : va_A [(zo2lirrr ch ft fr dr tO hO), (zaI dr cD 36 fD), (zaR tO cTO 3 (fun i => if i < 3 then some (rt i) else none)), (zaL (rt 0) cT 36 ft0), (zaL (rt 1) cT 36 ft1), (zaL (rt 2) cT 36 ft2), (zaR hO cHO 8 (fun i => if i < 8 then some (rh i) else none)), (zaI (rh 0) cH 36 g0), (zaI (rh 1) cH 36 g1), (zaI (rh 2) cH 36 g2), (zaI (rh 3) cH 36 g3), (zaI (rh 4) cH 36 g4), (zaI (rh 5) cH 36 g5), (zaI (rh 6) cH 36 g6), (zaI (rh 7) cH 36 g7), (zo10ririliiriririr sc aTp (nI ts) aHl (nI nh) (lN ee) mi sn aHs (nI n) aWk (nI wz) aBk (nI bz) aFc), (zaI aFc cFc 6 fFc)] s.heap.size = A at hD hQ hG hZ ⊢
  have hA : ∀ q : Nat, s.heap.size ≤ q → A q := fun q h => by rw [← hAe]; exact Or.inr h
  have hS : va_S A s.heap s.heap [] := va_S.rf
  have hl := lv_entry [.ref ch, .ref sc, .int (nI j), .long (lN ma), .int 1] (n := 11) (Nat.le_of_ble_eq_true rfl)
  rw [lg_entry_eq]
  generalize (lg_sl [.ref ch, .ref sc, .int (nI j), .long (lN ma), .int 1] ++ List.replicate (11 - (lg_sl [.ref ch, .ref sc, .int (nI j), .long (lN ma), .int 1]).length) Slot.unset).toArray = ls at hl ⊢
  generalize hag : ([.ref ch, .ref sc, .int (nI j), .long (lN ma), .int 1] : List Value).toArray = args at hts hQ ⊢
  have hl : lv_has ls 11 [(0, .ref ch), (1, .ref sc), (2, .int (nI j)), (3, .long (lN ma)), (5, .int 1)] := hl
  obtain ⟨H, hH⟩ : ∃ H : Heap, H = s.heap := ⟨_, rfl⟩
  rw [← hH] at hP
  rw [← hH]
  have hS : va_S A s.heap H [] := by rw [hH]; exact hS
  obtain ⟨locs, hlo⟩ : ∃ L : List Loc, L = [] := ⟨_, rfl⟩
  rw [← hlo] at hS
  rw [← hlo]
  clear hH hlo
  refine lv_aload_n hx hb dX0_search_0 rfl (lv_at hl 0 rfl) ?_
  refine lv_aload_n hx hb dX0_search_1 rfl (lv_at hl 1 rfl) ?_
  refine lv_iload_n hx hb dX0_search_2 rfl (lv_at hl 2 rfl) ?_
  have hPc := hP.sub (ws' := [(zo2lirrr ch ft fr dr tO hO), (zaI dr cD 36 fD), (zaR tO cTO 3 (fun i => if i < 3 then some (rt i) else none)), (zaL (rt 0) cT 36 ft0), (zo10ririliiriririr sc aTp (nI ts) aHl (nI nh) (lN ee) mi sn aHs (nI n) aWk (nI wz) aBk (nI bz) aFc), (zaI aFc cFc 6 fFc)]) [0, 1, 2, 3, 15, 16] rfl
  have hDc := hD.sub (ws' := [(zo2lirrr ch ft fr dr tO hO), (zaI dr cD 36 fD), (zaR tO cTO 3 (fun i => if i < 3 then some (rt i) else none)), (zaL (rt 0) cT 36 ft0), (zo10ririliiriririr sc aTp (nI ts) aHl (nI nh) (lN ee) mi sn aHs (nI n) aWk (nI wz) aBk (nI bz) aFc), (zaI aFc cFc 6 fFc)]) [0, 1, 2, 3, 15, 16] (by decide) rfl
  have hKc := hK.sub (tys' := [(cD, .int), (cTO, .array .long), (cT, .long), (cFc, .int)]) [0, 1, 2, 14] rfl
  have hFc := va_free (wc := [(zo2lirrr ch ft fr dr tO hO), (zaI dr cD 36 fD), (zaR tO cTO 3 (fun i => if i < 3 then some (rt i) else none)), (zaL (rt 0) cT 36 ft0), (zo10ririliiriririr sc aTp (nI ts) aHl (nI nh) (lN ee) mi sn aHs (nI n) aWk (nI wz) aBk (nI bz) aFc), (zaI aFc cFc 6 fFc)]) hD hS hA [0, 1, 2, 3, 15, 16] rfl
  refine va_callv (va_runV (As := [.ref sc, .int (nI j)]) (rest := []) ⟨hx, hb, hml, hown, hts⟩ (c_xBegin l dC dI gd  sc ch aTp aHl aHs aWk aBk aFc bW bA bE bC dr tO hO ts nh n wz bz cl i j mi sn sg cdd szz att nmb fr (lN ee) ft cFc cbW cbA cbE cbC cD cTO cT fFc fbW fbA fbE fbC fD ft0 rt tpv cz H.size (zcl) (zE) (zC) (hj36) (zHC)) (cwV 2 hts gX0_search_X0_begin rfl rfl rfl hd_yX0_begin ⟨Nat.le_of_ble_eq_true rfl, Nat.le_of_ble_eq_true rfl⟩) ⟨fun a U g mk q => by obtain ⟨q0, q1, qP, qK, qD, qhG, qhZ⟩ := q; exact ⟨q0, mvz g mk a q1, mvP g mk a qP, mvK g mk a qK, qD, qhG.mv g mk a, qhZ.mv g mk a⟩, va_recv hK hP (ci := 2) (q := (RX0, TX0, 5)) (q0 := 0) rfl rfl, fun U hU hW => ⟨rfl, by rw [hU], by rw [hU]; exact hPc, va_K.moved hW.alike hKc, hDc.weaken (fun _ _ _ _ => trivial), hG.call hS hU hW (fun q h => hFc q h), (hZ.sub [0, 1, 2, 3, 4] [0, 1, 2, 3] rfl rfl).call hS hU hW (fun q h => hFc q h)⟩⟩ rfl rfl hl.1 rfl (lv_room (Nat.le_of_ble_eq_true rfl)) dX0_search_3 ⟨Nat.le_of_ble_eq_true rfl, Nat.le_of_ble_eq_true rfl⟩) hS (fun q _ h => hFc q h) hFc (fun u tC H1 locs htC hvm hw_2 hB hz1 hk1 hS => ?_)
  obtain ⟨fD9_3, ft09_4, fFc9_5⟩ := u
  try dsimp only at hw_2 hB
  obtain ⟨hP1, hK1, hD1⟩ := hB
  rw [htC] at hP1
  have hK1 := va_K.moved hvm.symm hK1
  obtain ⟨hP, hD⟩ := va_join (wr := [(zaL (rt 1) cT 36 ft1), (zaL (rt 2) cT 36 ft2), (zaR hO cHO 8 (fun i => if i < 8 then some (rh i) else none)), (zaI (rh 0) cH 36 g0), (zaI (rh 1) cH 36 g1), (zaI (rh 2) cH 36 g2), (zaI (rh 3) cH 36 g3), (zaI (rh 4) cH 36 g4), (zaI (rh 5) cH 36 g5), (zaI (rh 6) cH 36 g6), (zaI (rh 7) cH 36 g7)]) (w1 := [(zo2lirrr ch ft fr dr tO hO), (zaI dr cD 36 fD9_3), (zaR tO cTO 3 (fun i => if i < 3 then some (rt i) else none)), (zaL (rt 0) cT 36 ft09_4), (zo10ririliiriririr sc aTp (nI ts) aHl (nI nh) (lN ee) mi sn aHs (nI n) aWk (nI wz) aBk (nI bz) aFc), (zaI aFc cFc 6 fFc9_5)]) hP hD [0, 1, 2, 3, 15, 16] [4, 5, 6, 7, 8, 9, 10, 11, 12, 13, 14] rfl rfl (by decide) (by decide) hk1 hFc hP1 hD1
  have hK := (hK.sub (tys' := [(cT, .long), (cT, .long), (cHO, .array .int), (cH, .int), (cH, .int), (cH, .int), (cH, .int), (cH, .int), (cH, .int), (cH, .int), (cH, .int)]) [3, 4, 5, 6, 7, 8, 9, 10, 11, 12, 13] rfl).app hK1
  generalize H1 = H at hP hS ⊢
  have hP : va_P (dC, dI) vwCl [(zaL (rt 1) cT 36 ft1), (zaL (rt 2) cT 36 ft2), (zaR hO cHO 8 (fun i => if i < 8 then some (rh i) else none)), (zaI (rh 0) cH 36 g0), (zaI (rh 1) cH 36 g1), (zaI (rh 2) cH 36 g2), (zaI (rh 3) cH 36 g3), (zaI (rh 4) cH 36 g4), (zaI (rh 5) cH 36 g5), (zaI (rh 6) cH 36 g6), (zaI (rh 7) cH 36 g7), (zo2lirrr ch ft fr dr tO hO), (zaI dr cD 36 fD9_3), (zaR tO cTO 3 (fun i => if i < 3 then some (rt i) else none)), (zaL (rt 0) cT 36 ft09_4), (zo10ririliiriririr sc aTp (nI ts) aHl (nI nh) (lN ee) mi sn aHs (nI n) aWk (nI wz) aBk (nI bz) aFc), (zaI aFc cFc 6 fFc9_5)] H := hP
  have hD : va_D A [(zaL (rt 1) cT 36 ft1), (zaL (rt 2) cT 36 ft2), (zaR hO cHO 8 (fun i => if i < 8 then some (rh i) else none)), (zaI (rh 0) cH 36 g0), (zaI (rh 1) cH 36 g1), (zaI (rh 2) cH 36 g2), (zaI (rh 3) cH 36 g3), (zaI (rh 4) cH 36 g4), (zaI (rh 5) cH 36 g5), (zaI (rh 6) cH 36 g6), (zaI (rh 7) cH 36 g7), (zo2lirrr ch ft fr dr tO hO), (zaI dr cD 36 fD9_3), (zaR tO cTO 3 (fun i => if i < 3 then some (rt i) else none)), (zaL (rt 0) cT 36 ft09_4), (zo10ririliiriririr sc aTp (nI ts) aHl (nI nh) (lN ee) mi sn aHs (nI n) aWk (nI wz) aBk (nI bz) aFc), (zaI aFc cFc 6 fFc9_5)] := hD
  have hK : va_K (dC, dI) vwCl [(cT, .long), (cT, .long), (cHO, .array .int), (cH, .int), (cH, .int), (cH, .int), (cH, .int), (cH, .int), (cH, .int), (cH, .int), (cH, .int), (cD, .int), (cTO, .array .long), (cT, .long), (cFc, .int)] s := hK
  obtain ⟨hd0, hb0⟩ := hw_2
  have hw3 : WfC cz ∧ w3 cz ≤ 1000 := ⟨zHC.2, by have := w3_len cz; have := zHC.1.1; omega⟩
  have hd5 : ∀ c9, c9 < 36 → drN cz mi sn c9 ≤ 5 := fun c9 _ => (dr_ok hw3.1 hw3.2 c9).2
  have hdr : ∀ k0, k0 < 36 → fD9_3 k0 = nI (drN cz mi sn k0) ∧ drN cz mi sn k0 ≤ 5 := fun k0 h0 => by rw [hd0 k0 h0]; exact dr_ok hw3.1 hw3.2 k0
  have hT0 : lnA ft09_4 (ttN cz mi sn ee j 0 0) := hb0
  refine lv_aload_n hx hb dX0_search_6 rfl (lv_at hl 0 rfl) ?_
  refine lv_aload_n hx hb dX0_search_7 rfl (lv_at hl 1 rfl) ?_
  refine lv_lload_n hx hb dX0_search_8 rfl (lv_at hl 3 rfl) ?_
  have hPc := hP.sub (ws' := [(zo2lirrr ch ft fr dr tO hO), (zaI dr cD 36 fD9_3), (zaR hO cHO 8 (fun i => if i < 8 then some (rh i) else none)), (zaI (rh 0) cH 36 g0), (zaI (rh 1) cH 36 g1), (zaI (rh 2) cH 36 g2), (zaI (rh 3) cH 36 g3), (zaI (rh 4) cH 36 g4), (zaI (rh 5) cH 36 g5), (zaI (rh 6) cH 36 g6), (zaI (rh 7) cH 36 g7), (zo10ririliiriririr sc aTp (nI ts) aHl (nI nh) (lN ee) mi sn aHs (nI n) aWk (nI wz) aBk (nI bz) aFc)]) [11, 12, 2, 3, 4, 5, 6, 7, 8, 9, 10, 15] rfl
  have hDc := hD.sub (ws' := [(zo2lirrr ch ft fr dr tO hO), (zaI dr cD 36 fD9_3), (zaR hO cHO 8 (fun i => if i < 8 then some (rh i) else none)), (zaI (rh 0) cH 36 g0), (zaI (rh 1) cH 36 g1), (zaI (rh 2) cH 36 g2), (zaI (rh 3) cH 36 g3), (zaI (rh 4) cH 36 g4), (zaI (rh 5) cH 36 g5), (zaI (rh 6) cH 36 g6), (zaI (rh 7) cH 36 g7), (zo10ririliiriririr sc aTp (nI ts) aHl (nI nh) (lN ee) mi sn aHs (nI n) aWk (nI wz) aBk (nI bz) aFc)]) [11, 12, 2, 3, 4, 5, 6, 7, 8, 9, 10, 15] (by decide) rfl
  have hKc := hK.sub (tys' := [(cD, .int), (cHO, .array .int), (cH, .int), (cH, .int), (cH, .int), (cH, .int), (cH, .int), (cH, .int), (cH, .int), (cH, .int)]) [11, 2, 3, 4, 5, 6, 7, 8, 9, 10] rfl
  have hFc := va_free (wc := [(zo2lirrr ch ft fr dr tO hO), (zaI dr cD 36 fD9_3), (zaR hO cHO 8 (fun i => if i < 8 then some (rh i) else none)), (zaI (rh 0) cH 36 g0), (zaI (rh 1) cH 36 g1), (zaI (rh 2) cH 36 g2), (zaI (rh 3) cH 36 g3), (zaI (rh 4) cH 36 g4), (zaI (rh 5) cH 36 g5), (zaI (rh 6) cH 36 g6), (zaI (rh 7) cH 36 g7), (zo10ririliiriririr sc aTp (nI ts) aHl (nI nh) (lN ee) mi sn aHs (nI n) aWk (nI wz) aBk (nI bz) aFc)]) hD hS hA [11, 12, 2, 3, 4, 5, 6, 7, 8, 9, 10, 15] rfl
  refine va_callv (va_runV (As := [.ref sc, .long (lN ma)]) (rest := []) ⟨hx, hb, hml, hown, hts⟩ (c_xTellHits l dC dI gd sc ch aTp aHl aHs aWk aBk aFc dr tO hO ts nh n wz bz i mi sn fr ft cD cHO cH fD9_3 g0 g1 g2 g3 g4 g5 g6 g7 rh ee ma (drN cz mi sn) H.size (hma) (hdr) (hee)) (cwV 2 hts gX0_search_X0_tellHits rfl rfl rfl hd_yX0_tellHits ⟨Nat.le_of_ble_eq_true rfl, Nat.le_of_ble_eq_true rfl⟩) ⟨fun a U g mk q => by obtain ⟨q0, q1, qP, qK, qD, qhG⟩ := q; exact ⟨q0, mvz g mk a q1, mvP g mk a qP, mvK g mk a qK, qD, qhG.mv g mk a⟩, va_recv hK hP (ci := 2) (q := (RX0, TX0, 5)) (q0 := 11) rfl rfl, fun U hU hW => ⟨rfl, by rw [hU], by rw [hU]; exact hPc, va_K.moved hW.alike hKc, hDc.weaken (fun _ _ _ _ => trivial), hG.call hS hU hW (fun q h => hFc q h)⟩⟩ rfl rfl hl.1 rfl (lv_room (Nat.le_of_ble_eq_true rfl)) dX0_search_9 ⟨Nat.le_of_ble_eq_true rfl, Nat.le_of_ble_eq_true rfl⟩) hS (fun q _ h => hFc q h) hFc (fun u tC H1 locs htC hvm hw_7 hB hz1 hk1 hS => ?_)
  obtain ⟨g09_8, g19_9, g29_10, g39_11, g49_12, g59_13, g69_14, g79_15⟩ := u
  try dsimp only at hw_7 hB
  obtain ⟨hP1, hK1, hD1⟩ := hB
  rw [htC] at hP1
  have hK1 := va_K.moved hvm.symm hK1
  obtain ⟨hP, hD⟩ := va_join (wr := [(zaL (rt 1) cT 36 ft1), (zaL (rt 2) cT 36 ft2), (zaR tO cTO 3 (fun i => if i < 3 then some (rt i) else none)), (zaL (rt 0) cT 36 ft09_4), (zaI aFc cFc 6 fFc9_5)]) (w1 := [(zo2lirrr ch ft fr dr tO hO), (zaI dr cD 36 fD9_3), (zaR hO cHO 8 (fun i => if i < 8 then some (rh i) else none)), (zaI (rh 0) cH 36 g09_8), (zaI (rh 1) cH 36 g19_9), (zaI (rh 2) cH 36 g29_10), (zaI (rh 3) cH 36 g39_11), (zaI (rh 4) cH 36 g49_12), (zaI (rh 5) cH 36 g59_13), (zaI (rh 6) cH 36 g69_14), (zaI (rh 7) cH 36 g79_15), (zo10ririliiriririr sc aTp (nI ts) aHl (nI nh) (lN ee) mi sn aHs (nI n) aWk (nI wz) aBk (nI bz) aFc)]) hP hD [11, 12, 2, 3, 4, 5, 6, 7, 8, 9, 10, 15] [0, 1, 13, 14, 16] rfl rfl (by decide) (by decide) hk1 hFc hP1 hD1
  have hK := (hK.sub (tys' := [(cT, .long), (cT, .long), (cTO, .array .long), (cT, .long), (cFc, .int)]) [0, 1, 12, 13, 14] rfl).app hK1
  generalize H1 = H at hP hS ⊢
  have hP : va_P (dC, dI) vwCl [(zaL (rt 1) cT 36 ft1), (zaL (rt 2) cT 36 ft2), (zaR tO cTO 3 (fun i => if i < 3 then some (rt i) else none)), (zaL (rt 0) cT 36 ft09_4), (zaI aFc cFc 6 fFc9_5), (zo2lirrr ch ft fr dr tO hO), (zaI dr cD 36 fD9_3), (zaR hO cHO 8 (fun i => if i < 8 then some (rh i) else none)), (zaI (rh 0) cH 36 g09_8), (zaI (rh 1) cH 36 g19_9), (zaI (rh 2) cH 36 g29_10), (zaI (rh 3) cH 36 g39_11), (zaI (rh 4) cH 36 g49_12), (zaI (rh 5) cH 36 g59_13), (zaI (rh 6) cH 36 g69_14), (zaI (rh 7) cH 36 g79_15), (zo10ririliiriririr sc aTp (nI ts) aHl (nI nh) (lN ee) mi sn aHs (nI n) aWk (nI wz) aBk (nI bz) aFc)] H := hP
  have hD : va_D A [(zaL (rt 1) cT 36 ft1), (zaL (rt 2) cT 36 ft2), (zaR tO cTO 3 (fun i => if i < 3 then some (rt i) else none)), (zaL (rt 0) cT 36 ft09_4), (zaI aFc cFc 6 fFc9_5), (zo2lirrr ch ft fr dr tO hO), (zaI dr cD 36 fD9_3), (zaR hO cHO 8 (fun i => if i < 8 then some (rh i) else none)), (zaI (rh 0) cH 36 g09_8), (zaI (rh 1) cH 36 g19_9), (zaI (rh 2) cH 36 g29_10), (zaI (rh 3) cH 36 g39_11), (zaI (rh 4) cH 36 g49_12), (zaI (rh 5) cH 36 g59_13), (zaI (rh 6) cH 36 g69_14), (zaI (rh 7) cH 36 g79_15), (zo10ririliiriririr sc aTp (nI ts) aHl (nI nh) (lN ee) mi sn aHs (nI n) aWk (nI wz) aBk (nI bz) aFc)] := hD
  have hK : va_K (dC, dI) vwCl [(cT, .long), (cT, .long), (cTO, .array .long), (cT, .long), (cFc, .int), (cD, .int), (cHO, .array .int), (cH, .int), (cH, .int), (cH, .int), (cH, .int), (cH, .int), (cH, .int), (cH, .int), (cH, .int)] s := hK
  obtain ⟨hh0, hh1, hh2, hh3, hh4, hh5, hh6, hh7⟩ := hw_7
  refine lv_aload_n hx hb dX0_search_12 rfl (lv_at hl 0 rfl) ?_
  refine lv_ldc2 (v := (-1)) hx hb hown (hts (.constantLong RX0 64 (-1)) kc_xSearch1_0) dX0_search_13 ?_
  refine va_put (D := (dC, dI)) (ci := 2) (v := .long (-1)) (ty := .long) (C := RX0) (T := TX0) (N := 5) hx hb hts kc_xSearch1_1 tyX0 tyX0_ok nmX0 hown hK hP hD hS 5 rfl rfl 0 (by decide) (hts (.fieldLink RX0 66 "MistHeaps$Chances" "foundTimes" "J") kc_xSearch1_2) (fun _ h9 => h9) rfl (by decide +kernel) rfl rfl (Nat.le_of_ble_eq_true rfl) dX0_search_16 (fun H locs hP hD hS => ?_)
  have hP : va_P (dC, dI) vwCl [(zaL (rt 1) cT 36 ft1), (zaL (rt 2) cT 36 ft2), (zaR tO cTO 3 (fun i => if i < 3 then some (rt i) else none)), (zaL (rt 0) cT 36 ft09_4), (zaI aFc cFc 6 fFc9_5), (zo2lirrr ch (-1) fr dr tO hO), (zaI dr cD 36 fD9_3), (zaR hO cHO 8 (fun i => if i < 8 then some (rh i) else none)), (zaI (rh 0) cH 36 g09_8), (zaI (rh 1) cH 36 g19_9), (zaI (rh 2) cH 36 g29_10), (zaI (rh 3) cH 36 g39_11), (zaI (rh 4) cH 36 g49_12), (zaI (rh 5) cH 36 g59_13), (zaI (rh 6) cH 36 g69_14), (zaI (rh 7) cH 36 g79_15), (zo10ririliiriririr sc aTp (nI ts) aHl (nI nh) (lN ee) mi sn aHs (nI n) aWk (nI wz) aBk (nI bz) aFc)] H := hP
  have hD : va_D A [(zaL (rt 1) cT 36 ft1), (zaL (rt 2) cT 36 ft2), (zaR tO cTO 3 (fun i => if i < 3 then some (rt i) else none)), (zaL (rt 0) cT 36 ft09_4), (zaI aFc cFc 6 fFc9_5), (zo2lirrr ch (-1) fr dr tO hO), (zaI dr cD 36 fD9_3), (zaR hO cHO 8 (fun i => if i < 8 then some (rh i) else none)), (zaI (rh 0) cH 36 g09_8), (zaI (rh 1) cH 36 g19_9), (zaI (rh 2) cH 36 g29_10), (zaI (rh 3) cH 36 g39_11), (zaI (rh 4) cH 36 g49_12), (zaI (rh 5) cH 36 g59_13), (zaI (rh 6) cH 36 g69_14), (zaI (rh 7) cH 36 g79_15), (zo10ririliiriririr sc aTp (nI ts) aHl (nI nh) (lN ee) mi sn aHs (nI n) aWk (nI wz) aBk (nI bz) aFc)] := hD
  refine lv_iload hx hb dX0_search_19 (lv_at hl 4 rfl) ?_
  refine lv_iconst (v := 1) hx hb dX0_search_21 (by decide) ?_
  refine lv_isub hx hb dX0_search_22 ?_
  refine qi_as (y := 0) (by decide) ?_
  refine lv_istore (lv' := [(6, .int 0), (0, .ref ch), (1, .ref sc), (2, .int (nI j)), (3, .long (lN ma)), (5, .int 1)]) hx hb dX0_search_23 hl (by decide) rfl (fun ls hl => ?_)
  refine lv_iconst (v := 0) hx hb dX0_search_25 (by decide) ?_
  refine lv_istore (lv' := [(7, .int 0), (6, .int 0), (0, .ref ch), (1, .ref sc), (2, .int (nI j)), (3, .long (lN ma)), (5, .int 1)]) hx hb dX0_search_26 hl (by decide) rfl (fun ls hl => ?_)
  refine lv_iload hx hb dX0_search_28 (lv_at hl 0 rfl) ?_
  refine lv_iconst (v := 1) hx hb dX0_search_30 (by decide) ?_
  refine lv_iconst (v := 3) hx hb dX0_search_31 (by decide) ?_
  refine lv_iload hx hb dX0_search_32 (lv_at hl 1 rfl) ?_
  refine lv_imul hx hb dX0_search_34 ?_
  refine qi_as (y := 0) (by decide) ?_
  refine lv_ishl hx hb dX0_search_35 ?_
  refine qi_as (y := 1) (by decide) ?_
  refine lv_icmp_ge (tgt := 138) hx hb dX0_search_36 (by decide) (fun c_16 => absurd c_16 (by decide)) (fun _ => ?_)
  refine lv_iconst (v := 0) hx hb dX0_search_39 (by decide) ?_
  refine lv_istore (lv' := [(8, .int 0), (7, .int 0), (6, .int 0), (0, .ref ch), (1, .ref sc), (2, .int (nI j)), (3, .long (lN ma)), (5, .int 1)]) hx hb dX0_search_40 hl (by decide) rfl (fun ls hl => ?_)
  refine lv_iload hx hb dX0_search_42 (lv_at hl 0 rfl) ?_
  refine lv_iload hx hb dX0_search_44 (lv_at hl 2 rfl) ?_
  refine lv_icmp_ge (tgt := 119) hx hb dX0_search_46 (by decide) (fun _ => ?_) (fun c_17 => absurd c_17 (by decide))
  refine lv_aload_n hx hb dX0_search_119 rfl (lv_at hl 3 rfl) ?_
  refine lv_aload_n hx hb dX0_search_120 rfl (lv_at hl 3 rfl) ?_
  refine va_get (D := (dC, dI)) (ci := 2) (v := .ref tO) (C := RX0) (T := TX0) (N := 5) hx hb hts kc_xSearch1_1 hown hK hP 5 rfl rfl 3 (by decide) (hts (.fieldLink RX0 17 "MistHeaps$Chances" "times" "[[J") kc_xSearch1_3) (fun _ h9 => h9) rfl dX0_search_121 ?_
  refine lv_iload hx hb dX0_search_124 (lv_at hl 2 rfl) ?_
  refine va_alda hx hb hK hP 2 2 rfl rfl (vp_in_nI (n := 0) (N := 3) (by omega) (by omega)) dX0_search_126 ?_
  refine qq_as (v := .ref (rt 0)) (rfl) ?_
  refine lv_iload hx hb dX0_search_127 (lv_at hl 1 rfl) ?_
  have hPc := hP.sub (ws' := [(zo2lirrr ch (-1) fr dr tO hO), (zaL (rt 0) cT 36 ft09_4), (zaR hO cHO 8 (fun i => if i < 8 then some (rh i) else none)), (zaI (rh 0) cH 36 g09_8), (zaI (rh 1) cH 36 g19_9), (zaI (rh 2) cH 36 g29_10), (zaI (rh 3) cH 36 g39_11), (zaI (rh 4) cH 36 g49_12), (zaI (rh 5) cH 36 g59_13), (zaI (rh 6) cH 36 g69_14), (zaI (rh 7) cH 36 g79_15)]) [5, 3, 7, 8, 9, 10, 11, 12, 13, 14, 15] rfl
  have hDc := hD.sub (ws' := [(zo2lirrr ch (-1) fr dr tO hO), (zaL (rt 0) cT 36 ft09_4), (zaR hO cHO 8 (fun i => if i < 8 then some (rh i) else none)), (zaI (rh 0) cH 36 g09_8), (zaI (rh 1) cH 36 g19_9), (zaI (rh 2) cH 36 g29_10), (zaI (rh 3) cH 36 g39_11), (zaI (rh 4) cH 36 g49_12), (zaI (rh 5) cH 36 g59_13), (zaI (rh 6) cH 36 g69_14), (zaI (rh 7) cH 36 g79_15)]) [5, 3, 7, 8, 9, 10, 11, 12, 13, 14, 15] (by decide) rfl
  have hKc := hK.sub (tys' := [(cT, .long), (cHO, .array .int), (cH, .int), (cH, .int), (cH, .int), (cH, .int), (cH, .int), (cH, .int), (cH, .int), (cH, .int)]) [3, 6, 7, 8, 9, 10, 11, 12, 13, 14] rfl
  have hFc := va_free (wc := [(zo2lirrr ch (-1) fr dr tO hO), (zaL (rt 0) cT 36 ft09_4), (zaR hO cHO 8 (fun i => if i < 8 then some (rh i) else none)), (zaI (rh 0) cH 36 g09_8), (zaI (rh 1) cH 36 g19_9), (zaI (rh 2) cH 36 g29_10), (zaI (rh 3) cH 36 g39_11), (zaI (rh 4) cH 36 g49_12), (zaI (rh 5) cH 36 g59_13), (zaI (rh 6) cH 36 g69_14), (zaI (rh 7) cH 36 g79_15)]) hD hS hA [5, 3, 7, 8, 9, 10, 11, 12, 13, 14, 15] rfl
  refine va_callv (va_runV (As := [.ref (rt 0), .int 0]) (rest := []) ⟨hx, hb, hml, hown, hts⟩ (c_xTryLast l dC dI ch dr tO hO i 0 fr (-1) cHO cH g09_8 g19_9 g29_10 g39_11 g49_12 g59_13 g69_14 g79_15 rh (rt 0) cT ft09_4 (ttN cz mi sn ee j 0 0) (srU cz mi sn ee j 1 ma) (htN (edB ee) (drN cz mi sn) ma) H.size (by omega) (hT0) (hh0) (hh1) (hh2) (hh3) (hh4) (hh5) (hh6) (hh7) (fun w9 k0 h0 => ht_b (hd5 k0 h0)) (fun w9 h9 => sr_U (n := 0) h9) (sr_b hj36 hd5 (by omega)) (fj_0)) (cwV 2 hts gX0_search_X0_tryLast rfl rfl rfl hd_yX0_tryLast ⟨Nat.le_of_ble_eq_true rfl, Nat.le_of_ble_eq_true rfl⟩) ⟨fun a U g mk q => by obtain ⟨q0, q1, qP, qK, qD⟩ := q; exact ⟨q0, mvz g mk a q1, mvP g mk a qP, mvK g mk a qK, qD⟩, va_recv hK hP (ci := 2) (q := (RX0, TX0, 5)) (q0 := 5) rfl rfl, fun U hU hW => ⟨rfl, by rw [hU], by rw [hU]; exact hPc, va_K.moved hW.alike hKc, hDc.weaken (fun _ _ _ _ => trivial)⟩⟩ rfl rfl hl.1 rfl (lv_room (Nat.le_of_ble_eq_true rfl)) dX0_search_129 ⟨Nat.le_of_ble_eq_true rfl, Nat.le_of_ble_eq_true rfl⟩) hS (fun q _ h => hFc q h) hFc (fun u tC H1 locs htC hvm hw_19 hB hz1 hk1 hS => ?_)
  obtain ⟨ft9_20, fr9_21⟩ := u
  try dsimp only at hw_19 hB
  obtain ⟨hP1, hK1, hD1⟩ := hB
  rw [htC] at hP1
  have hK1 := va_K.moved hvm.symm hK1
  obtain ⟨hP, hD⟩ := va_join (wr := [(zaL (rt 1) cT 36 ft1), (zaL (rt 2) cT 36 ft2), (zaR tO cTO 3 (fun i => if i < 3 then some (rt i) else none)), (zaI aFc cFc 6 fFc9_5), (zaI dr cD 36 fD9_3), (zo10ririliiriririr sc aTp (nI ts) aHl (nI nh) (lN ee) mi sn aHs (nI n) aWk (nI wz) aBk (nI bz) aFc)]) (w1 := [(zo2lirrr ch ft9_20 fr9_21 dr tO hO), (zaL (rt 0) cT 36 ft09_4), (zaR hO cHO 8 (fun i => if i < 8 then some (rh i) else none)), (zaI (rh 0) cH 36 g09_8), (zaI (rh 1) cH 36 g19_9), (zaI (rh 2) cH 36 g29_10), (zaI (rh 3) cH 36 g39_11), (zaI (rh 4) cH 36 g49_12), (zaI (rh 5) cH 36 g59_13), (zaI (rh 6) cH 36 g69_14), (zaI (rh 7) cH 36 g79_15)]) hP hD [5, 3, 7, 8, 9, 10, 11, 12, 13, 14, 15] [0, 1, 2, 4, 6, 16] rfl rfl (by decide) (by decide) hk1 hFc hP1 hD1
  have hK := (hK.sub (tys' := [(cT, .long), (cT, .long), (cTO, .array .long), (cFc, .int), (cD, .int)]) [0, 1, 2, 4, 5] rfl).app hK1
  generalize H1 = H at hP hS ⊢
  have hP : va_P (dC, dI) vwCl [(zaL (rt 1) cT 36 ft1), (zaL (rt 2) cT 36 ft2), (zaR tO cTO 3 (fun i => if i < 3 then some (rt i) else none)), (zaI aFc cFc 6 fFc9_5), (zaI dr cD 36 fD9_3), (zo10ririliiriririr sc aTp (nI ts) aHl (nI nh) (lN ee) mi sn aHs (nI n) aWk (nI wz) aBk (nI bz) aFc), (zo2lirrr ch ft9_20 fr9_21 dr tO hO), (zaL (rt 0) cT 36 ft09_4), (zaR hO cHO 8 (fun i => if i < 8 then some (rh i) else none)), (zaI (rh 0) cH 36 g09_8), (zaI (rh 1) cH 36 g19_9), (zaI (rh 2) cH 36 g29_10), (zaI (rh 3) cH 36 g39_11), (zaI (rh 4) cH 36 g49_12), (zaI (rh 5) cH 36 g59_13), (zaI (rh 6) cH 36 g69_14), (zaI (rh 7) cH 36 g79_15)] H := hP
  have hD : va_D A [(zaL (rt 1) cT 36 ft1), (zaL (rt 2) cT 36 ft2), (zaR tO cTO 3 (fun i => if i < 3 then some (rt i) else none)), (zaI aFc cFc 6 fFc9_5), (zaI dr cD 36 fD9_3), (zo10ririliiriririr sc aTp (nI ts) aHl (nI nh) (lN ee) mi sn aHs (nI n) aWk (nI wz) aBk (nI bz) aFc), (zo2lirrr ch ft9_20 fr9_21 dr tO hO), (zaL (rt 0) cT 36 ft09_4), (zaR hO cHO 8 (fun i => if i < 8 then some (rh i) else none)), (zaI (rh 0) cH 36 g09_8), (zaI (rh 1) cH 36 g19_9), (zaI (rh 2) cH 36 g29_10), (zaI (rh 3) cH 36 g39_11), (zaI (rh 4) cH 36 g49_12), (zaI (rh 5) cH 36 g59_13), (zaI (rh 6) cH 36 g69_14), (zaI (rh 7) cH 36 g79_15)] := hD
  have hK : va_K (dC, dI) vwCl [(cT, .long), (cT, .long), (cTO, .array .long), (cFc, .int), (cD, .int), (cT, .long), (cHO, .array .int), (cH, .int), (cH, .int), (cH, .int), (cH, .int), (cH, .int), (cH, .int), (cH, .int), (cH, .int)] s := hK
  have hJ8 := hw_19
  refine lv_iinc (v := 1) (lv' := [(7, .int 1), (8, .int 0), (6, .int 0), (0, .ref ch), (1, .ref sc), (2, .int (nI j)), (3, .long (lN ma)), (5, .int 1)]) hx hb dX0_search_132 hl (k := 1) rfl (by decide) (by decide) rfl (fun ls hl => ?_)
  refine lv_goto (tgt := 28) hx hb dX0_search_135 (by decide) ?_
  refine lv_iload hx hb dX0_search_28 (lv_at hl 0 rfl) ?_
  refine lv_iconst (v := 1) hx hb dX0_search_30 (by decide) ?_
  refine lv_iconst (v := 3) hx hb dX0_search_31 (by decide) ?_
  refine lv_iload hx hb dX0_search_32 (lv_at hl 2 rfl) ?_
  refine lv_imul hx hb dX0_search_34 ?_
  refine qi_as (y := 0) (by decide) ?_
  refine lv_ishl hx hb dX0_search_35 ?_
  refine qi_as (y := 1) (by decide) ?_
  refine lv_icmp_ge (tgt := 138) hx hb dX0_search_36 (by decide) (fun _ => ?_) (fun c_22 => absurd c_22 (by decide))
  rw [hQ]
  have hP9 := hP.sub (ws' := [(zo2lirrr ch ft9_20 fr9_21 dr tO hO), (zaI dr cD 36 fD9_3), (zaR tO cTO 3 (fun i => if i < 3 then some (rt i) else none)), (zaL (rt 0) cT 36 ft09_4), (zaL (rt 1) cT 36 ft1), (zaL (rt 2) cT 36 ft2), (zaR hO cHO 8 (fun i => if i < 8 then some (rh i) else none)), (zaI (rh 0) cH 36 g09_8), (zaI (rh 1) cH 36 g19_9), (zaI (rh 2) cH 36 g29_10), (zaI (rh 3) cH 36 g39_11), (zaI (rh 4) cH 36 g49_12), (zaI (rh 5) cH 36 g59_13), (zaI (rh 6) cH 36 g69_14), (zaI (rh 7) cH 36 g79_15), (zo10ririliiriririr sc aTp (nI ts) aHl (nI nh) (lN ee) mi sn aHs (nI n) aWk (nI wz) aBk (nI bz) aFc), (zaI aFc cFc 6 fFc9_5)]) [6, 4, 2, 7, 0, 1, 8, 9, 10, 11, 12, 13, 14, 15, 16, 5, 3] rfl
  have hD9 := hD.sub (ws' := [(zo2lirrr ch ft9_20 fr9_21 dr tO hO), (zaI dr cD 36 fD9_3), (zaR tO cTO 3 (fun i => if i < 3 then some (rt i) else none)), (zaL (rt 0) cT 36 ft09_4), (zaL (rt 1) cT 36 ft1), (zaL (rt 2) cT 36 ft2), (zaR hO cHO 8 (fun i => if i < 8 then some (rh i) else none)), (zaI (rh 0) cH 36 g09_8), (zaI (rh 1) cH 36 g19_9), (zaI (rh 2) cH 36 g29_10), (zaI (rh 3) cH 36 g39_11), (zaI (rh 4) cH 36 g49_12), (zaI (rh 5) cH 36 g59_13), (zaI (rh 6) cH 36 g69_14), (zaI (rh 7) cH 36 g79_15), (zo10ririliiriririr sc aTp (nI ts) aHl (nI nh) (lN ee) mi sn aHs (nI n) aWk (nI wz) aBk (nI bz) aFc), (zaI aFc cFc 6 fFc9_5)]) [6, 4, 2, 7, 0, 1, 8, 9, 10, 11, 12, 13, 14, 15, 16, 5, 3] (by decide) rfl
  have hK9 := hK.sub (tys' := [(cD, .int), (cTO, .array .long), (cT, .long), (cT, .long), (cT, .long), (cHO, .array .int), (cH, .int), (cH, .int), (cH, .int), (cH, .int), (cH, .int), (cH, .int), (cH, .int), (cH, .int), (cFc, .int)]) [4, 2, 5, 0, 1, 6, 7, 8, 9, 10, 11, 12, 13, 14, 3] rfl
  exact W.vret hx hb hr (fun tQ htQ hWQ => ⟨⟨(ft9_20, fr9_21, fD9_3, ft09_4, ft1, ft2, g09_8, g19_9, g29_10, g39_11, g49_12, g59_13, g69_14, g79_15, fFc9_5), rfl, hJ8, by rw [htQ]; exact hP9, va_K.moved hWQ.alike hK9, hD9⟩, hS.F htQ⟩) hS.2.2 dX0_search_138

theorem kc_xSearch2_0 : (.constantLong RX0 64 (-1) : Cond) ∈ wsX0_search := kc_of 875 rfl rfl rfl
theorem kc_xSearch2_1 : ∀ w ∈ wsX00, w ∈ wsX0_search := fun w h => List.mem_cons_of_mem _ (gin_wsX00 w h)
theorem kc_xSearch2_2 : (.fieldLink RX0 66 "MistHeaps$Chances" "foundTimes" "J" : Cond) ∈ wsX0_search := kc_of 284 rfl rfl rfl
theorem kc_xSearch2_3 : (.fieldLink RX0 17 "MistHeaps$Chances" "times" "[[J" : Cond) ∈ wsX0_search := kc_of 288 rfl rfl rfl
set_option maxHeartbeats 4000000 in
set_option maxRecDepth 100000 in
theorem c_xSearch2 (l : Launch) (dC : Nat → ClassId) (dI : Nat → Nat → Nat) (gd : Nat → Nat)  (sc : Nat) (ch : Nat) (aTp : Nat) (aHl : Nat) (aHs : Nat) (aWk : Nat) (aBk : Nat) (aFc : Nat) (bW : Nat) (bA : Nat) (bE : Nat) (bC : Nat) (dr : Nat) (tO : Nat) (hO : Nat) (ts : Nat) (nh : Nat) (n : Nat) (wz : Nat) (bz : Nat) (cl : Nat) (i : Nat) (j : Nat) (mi : Int32) (sn : Int32) (sg : Int32) (cdd : Int32) (szz : Int32) (att : Int32) (nmb : Int32) (fr : Int32) (ft : Int64) (cFc : ClassId) (cbW : ClassId) (cbA : ClassId) (cbE : ClassId) (cbC : ClassId) (cD : ClassId) (cTO : ClassId) (cHO : ClassId) (cT : ClassId) (cH : ClassId) (fFc : Nat → Int32) (fbW : Nat → Int32) (fbA : Nat → Int32) (fbE : Nat → Int32) (fbC : Nat → Int32) (fD : Nat → Int32) (g0 : Nat → Int32) (g1 : Nat → Int32) (g2 : Nat → Int32) (g3 : Nat → Int32) (g4 : Nat → Int32) (g5 : Nat → Int32) (g6 : Nat → Int32) (g7 : Nat → Int32) (ft0 : Nat → Int64) (ft1 : Nat → Int64) (ft2 : Nat → Int64) (rt : Nat → Nat) (rh : Nat → Nat) (tpv : Value) (cz : List pCla) (ee : Nat) (ma : Nat) (sz : Nat) (zcl : cl ≤ 10) (zE : ∀ k0, k0 < 10 → ∃ e0 : Nat, e0 ≤ 100 ∧ fbE k0 = nI e0) (zC : ∀ k0, k0 < 100 → okC (fbC k0)) (hj36 : j < 36) (hma : ma < 2 ^ 62) (hee : ee < 2 ^ 36) (zHC : HC cl sg fbW fbA fbE fbC cz ∧ WfC cz) : Met l yX0_search wsX0_search ({ frames := 5, cells := 0, slots := 0, locals := 117 } : Room) (va_Pc [.ref ch, .ref sc, .int (nI j), .long (lN ma), .int 2] (fun U => U.heap.size = sz ∧ va_P (dC, dI) vwCl [(zo2lirrr ch ft fr dr tO hO), (zaI dr cD 36 fD), (zaR tO cTO 3 (fun i => if i < 3 then some (rt i) else none)), (zaL (rt 0) cT 36 ft0), (zaL (rt 1) cT 36 ft1), (zaL (rt 2) cT 36 ft2), (zaR hO cHO 8 (fun i => if i < 8 then some (rh i) else none)), (zaI (rh 0) cH 36 g0), (zaI (rh 1) cH 36 g1), (zaI (rh 2) cH 36 g2), (zaI (rh 3) cH 36 g3), (zaI (rh 4) cH 36 g4), (zaI (rh 5) cH 36 g5), (zaI (rh 6) cH 36 g6), (zaI (rh 7) cH 36 g7), (zo10ririliiriririr sc aTp (nI ts) aHl (nI nh) (lN ee) mi sn aHs (nI n) aWk (nI wz) aBk (nI bz) aFc), (zaI aFc cFc 6 fFc)] U.heap ∧ va_K (dC, dI) vwCl [(cD, .int), (cTO, .array .long), (cT, .long), (cT, .long), (cT, .long), (cHO, .array .int), (cH, .int), (cH, .int), (cH, .int), (cH, .int), (cH, .int), (cH, .int), (cH, .int), (cH, .int), (cFc, .int)] U ∧ va_D (fun _ => True) [(zo2lirrr ch ft fr dr tO hO), (zaI dr cD 36 fD), (zaR tO cTO 3 (fun i => if i < 3 then some (rt i) else none)), (zaL (rt 0) cT 36 ft0), (zaL (rt 1) cT 36 ft1), (zaL (rt 2) cT 36 ft2), (zaR hO cHO 8 (fun i => if i < 8 then some (rh i) else none)), (zaI (rh 0) cH 36 g0), (zaI (rh 1) cH 36 g1), (zaI (rh 2) cH 36 g2), (zaI (rh 3) cH 36 g3), (zaI (rh 4) cH 36 g4), (zaI (rh 5) cH 36 g5), (zaI (rh 6) cH 36 g6), (zaI (rh 7) cH 36 g7), (zo10ririliiriririr sc aTp (nI ts) aHl (nI nh) (lN ee) mi sn aHs (nI n) aWk (nI wz) aBk (nI bz) aFc), (zaI aFc cFc 6 fFc)] ∧ Gl gd (va_A [(zo2lirrr ch ft fr dr tO hO), (zaI dr cD 36 fD), (zaR tO cTO 3 (fun i => if i < 3 then some (rt i) else none)), (zaL (rt 0) cT 36 ft0), (zaL (rt 1) cT 36 ft1), (zaL (rt 2) cT 36 ft2), (zaR hO cHO 8 (fun i => if i < 8 then some (rh i) else none)), (zaI (rh 0) cH 36 g0), (zaI (rh 1) cH 36 g1), (zaI (rh 2) cH 36 g2), (zaI (rh 3) cH 36 g3), (zaI (rh 4) cH 36 g4), (zaI (rh 5) cH 36 g5), (zaI (rh 6) cH 36 g6), (zaI (rh 7) cH 36 g7), (zo10ririliiriririr sc aTp (nI ts) aHl (nI nh) (lN ee) mi sn aHs (nI n) aWk (nI wz) aBk (nI bz) aFc), (zaI aFc cFc 6 fFc)] sz) U ∧ Fz dC dI [(zo7iirrrriviii aHl sg (nI cl) bW bA bE bC cdd tpv szz att nmb), (zaI bW cbW 10 fbW), (zaI bA cbA 10 fbA), (zaI bE cbE 10 fbE), (zaI bC cbC 100 fbC)] [(cbW, .int), (cbA, .int), (cbE, .int), (cbC, .int)] (va_A [(zo2lirrr ch ft fr dr tO hO), (zaI dr cD 36 fD), (zaR tO cTO 3 (fun i => if i < 3 then some (rt i) else none)), (zaL (rt 0) cT 36 ft0), (zaL (rt 1) cT 36 ft1), (zaL (rt 2) cT 36 ft2), (zaR hO cHO 8 (fun i => if i < 8 then some (rh i) else none)), (zaI (rh 0) cH 36 g0), (zaI (rh 1) cH 36 g1), (zaI (rh 2) cH 36 g2), (zaI (rh 3) cH 36 g3), (zaI (rh 4) cH 36 g4), (zaI (rh 5) cH 36 g5), (zaI (rh 6) cH 36 g6), (zaI (rh 7) cH 36 g7), (zo10ririliiriririr sc aTp (nI ts) aHl (nI nh) (lN ee) mi sn aHs (nI n) aWk (nI wz) aBk (nI bz) aFc), (zaI aFc cFc 6 fFc)] sz) U)) (va_Qv (fun (u : (Int64) × (Int32) × (Nat → Int32) × (Nat → Int64) × (Nat → Int64) × (Nat → Int64) × (Nat → Int32) × (Nat → Int32) × (Nat → Int32) × (Nat → Int32) × (Nat → Int32) × (Nat → Int32) × (Nat → Int32) × (Nat → Int32) × (Nat → Int32)) => match u with | (ft9, fr9, fD9, ft09, ft19, ft29, g09, g19, g29, g39, g49, g59, g69, g79, fFc9) => fmJ (srU cz mi sn ee j 2 ma) 64 ft9 fr9) (fun (u : (Int64) × (Int32) × (Nat → Int32) × (Nat → Int64) × (Nat → Int64) × (Nat → Int64) × (Nat → Int32) × (Nat → Int32) × (Nat → Int32) × (Nat → Int32) × (Nat → Int32) × (Nat → Int32) × (Nat → Int32) × (Nat → Int32) × (Nat → Int32)) (t : State) => match u with | (ft9, fr9, fD9, ft09, ft19, ft29, g09, g19, g29, g39, g49, g59, g69, g79, fFc9) => va_P (dC, dI) vwCl [(zo2lirrr ch ft9 fr9 dr tO hO), (zaI dr cD 36 fD9), (zaR tO cTO 3 (fun i => if i < 3 then some (rt i) else none)), (zaL (rt 0) cT 36 ft09), (zaL (rt 1) cT 36 ft19), (zaL (rt 2) cT 36 ft29), (zaR hO cHO 8 (fun i => if i < 8 then some (rh i) else none)), (zaI (rh 0) cH 36 g09), (zaI (rh 1) cH 36 g19), (zaI (rh 2) cH 36 g29), (zaI (rh 3) cH 36 g39), (zaI (rh 4) cH 36 g49), (zaI (rh 5) cH 36 g59), (zaI (rh 6) cH 36 g69), (zaI (rh 7) cH 36 g79), (zo10ririliiriririr sc aTp (nI ts) aHl (nI nh) (lN ee) mi sn aHs (nI n) aWk (nI wz) aBk (nI bz) aFc), (zaI aFc cFc 6 fFc9)] t.heap ∧ va_K (dC, dI) vwCl [(cD, .int), (cTO, .array .long), (cT, .long), (cT, .long), (cT, .long), (cHO, .array .int), (cH, .int), (cH, .int), (cH, .int), (cH, .int), (cH, .int), (cH, .int), (cH, .int), (cH, .int), (cFc, .int)] t ∧ va_D (va_A [(zo2lirrr ch ft fr dr tO hO), (zaI dr cD 36 fD), (zaR tO cTO 3 (fun i => if i < 3 then some (rt i) else none)), (zaL (rt 0) cT 36 ft0), (zaL (rt 1) cT 36 ft1), (zaL (rt 2) cT 36 ft2), (zaR hO cHO 8 (fun i => if i < 8 then some (rh i) else none)), (zaI (rh 0) cH 36 g0), (zaI (rh 1) cH 36 g1), (zaI (rh 2) cH 36 g2), (zaI (rh 3) cH 36 g3), (zaI (rh 4) cH 36 g4), (zaI (rh 5) cH 36 g5), (zaI (rh 6) cH 36 g6), (zaI (rh 7) cH 36 g7), (zo10ririliiriririr sc aTp (nI ts) aHl (nI nh) (lN ee) mi sn aHs (nI n) aWk (nI wz) aBk (nI bz) aFc), (zaI aFc cFc 6 fFc)] sz) [(zo2lirrr ch ft9 fr9 dr tO hO), (zaI dr cD 36 fD9), (zaR tO cTO 3 (fun i => if i < 3 then some (rt i) else none)), (zaL (rt 0) cT 36 ft09), (zaL (rt 1) cT 36 ft19), (zaL (rt 2) cT 36 ft29), (zaR hO cHO 8 (fun i => if i < 8 then some (rh i) else none)), (zaI (rh 0) cH 36 g09), (zaI (rh 1) cH 36 g19), (zaI (rh 2) cH 36 g29), (zaI (rh 3) cH 36 g39), (zaI (rh 4) cH 36 g49), (zaI (rh 5) cH 36 g59), (zaI (rh 6) cH 36 g69), (zaI (rh 7) cH 36 g79), (zo10ririliiriririr sc aTp (nI ts) aHl (nI nh) (lN ee) mi sn aHs (nI n) aWk (nI wz) aBk (nI bz) aFc), (zaI aFc cFc 6 fFc9)]) (va_A [(zo2lirrr ch ft fr dr tO hO), (zaI dr cD 36 fD), (zaR tO cTO 3 (fun i => if i < 3 then some (rt i) else none)), (zaL (rt 0) cT 36 ft0), (zaL (rt 1) cT 36 ft1), (zaL (rt 2) cT 36 ft2), (zaR hO cHO 8 (fun i => if i < 8 then some (rh i) else none)), (zaI (rh 0) cH 36 g0), (zaI (rh 1) cH 36 g1), (zaI (rh 2) cH 36 g2), (zaI (rh 3) cH 36 g3), (zaI (rh 4) cH 36 g4), (zaI (rh 5) cH 36 g5), (zaI (rh 6) cH 36 g6), (zaI (rh 7) cH 36 g7), (zo10ririliiriririr sc aTp (nI ts) aHl (nI nh) (lN ee) mi sn aHs (nI n) aWk (nI wz) aBk (nI bz) aFc), (zaI aFc cFc 6 fFc)] sz)) 0 0 (va_A [(zo2lirrr ch ft fr dr tO hO), (zaI dr cD 36 fD), (zaR tO cTO 3 (fun i => if i < 3 then some (rt i) else none)), (zaL (rt 0) cT 36 ft0), (zaL (rt 1) cT 36 ft1), (zaL (rt 2) cT 36 ft2), (zaR hO cHO 8 (fun i => if i < 8 then some (rh i) else none)), (zaI (rh 0) cH 36 g0), (zaI (rh 1) cH 36 g1), (zaI (rh 2) cH 36 g2), (zaI (rh 3) cH 36 g3), (zaI (rh 4) cH 36 g4), (zaI (rh 5) cH 36 g5), (zaI (rh 6) cH 36 g6), (zaI (rh 7) cH 36 g7), (zo10ririliiriririr sc aTp (nI ts) aHl (nI nh) (lN ee) mi sn aHs (nI n) aWk (nI wz) aBk (nI bz) aFc), (zaI aFc cFc 6 fFc)] sz) := by
  refine met_ofQ (cc := cX0_search) (maxL := 11) (ret := none) (by decide) rfl ?_
  intro p e s m args below meth c s₁ Q B hml hv hQ
  obtain ⟨rfl, hsz, hP, hK, hD0, hG, hZ⟩ := hv
  have hx := B.exec
  have hb := B.bytes
  have hr := B.returns
  have hts := atoms_spec (ws := wsX0_search) B.pre
  have hown : s.vm.findClass RX0 = some m.cls := findClass_of_methodNamed B.named
  have hlocks := B.notSynchronized
  subst hsz
  have hD := hD0.self (sz := s.heap.size)
  generalize hAe : va_A [(zo2lirrr ch ft fr dr tO hO), (zaI dr cD 36 fD), (zaR tO cTO 3 (fun i => if i < 3 then some (rt i) else none)), (zaL (rt 0) cT 36 ft0), (zaL (rt 1) cT 36 ft1), (zaL (rt 2) cT 36 ft2), (zaR hO cHO 8 (fun i => if i < 8 then some (rh i) else none)), (zaI (rh 0) cH 36 g0), (zaI (rh 1) cH 36 g1), (zaI (rh 2) cH 36 g2), (zaI (rh 3) cH 36 g3), (zaI (rh 4) cH 36 g4), (zaI (rh 5) cH 36 g5), (zaI (rh 6) cH 36 g6), (zaI (rh 7) cH 36 g7), (zo10ririliiriririr sc aTp (nI ts) aHl (nI nh) (lN ee) mi sn aHs (nI n) aWk (nI wz) aBk (nI bz) aFc), (zaI aFc cFc 6 fFc)] s.heap.size = A at hD hQ hG hZ ⊢
  have hA : ∀ q : Nat, s.heap.size ≤ q → A q := fun q h => by rw [← hAe]; exact Or.inr h
  have hS : va_S A s.heap s.heap [] := va_S.rf
  have hl := lv_entry [.ref ch, .ref sc, .int (nI j), .long (lN ma), .int 2] (n := 11) (Nat.le_of_ble_eq_true rfl)
  rw [lg_entry_eq]
  generalize (lg_sl [.ref ch, .ref sc, .int (nI j), .long (lN ma), .int 2] ++ List.replicate (11 - (lg_sl [.ref ch, .ref sc, .int (nI j), .long (lN ma), .int 2]).length) Slot.unset).toArray = ls at hl ⊢
  generalize hag : ([.ref ch, .ref sc, .int (nI j), .long (lN ma), .int 2] : List Value).toArray = args at hts hQ ⊢
  have hl : lv_has ls 11 [(0, .ref ch), (1, .ref sc), (2, .int (nI j)), (3, .long (lN ma)), (5, .int 2)] := hl
  obtain ⟨H, hH⟩ : ∃ H : Heap, H = s.heap := ⟨_, rfl⟩
  rw [← hH] at hP
  rw [← hH]
  have hS : va_S A s.heap H [] := by rw [hH]; exact hS
  obtain ⟨locs, hlo⟩ : ∃ L : List Loc, L = [] := ⟨_, rfl⟩
  rw [← hlo] at hS
  rw [← hlo]
  clear hH hlo
  refine lv_aload_n hx hb dX0_search_0 rfl (lv_at hl 0 rfl) ?_
  refine lv_aload_n hx hb dX0_search_1 rfl (lv_at hl 1 rfl) ?_
  refine lv_iload_n hx hb dX0_search_2 rfl (lv_at hl 2 rfl) ?_
  have hPc := hP.sub (ws' := [(zo2lirrr ch ft fr dr tO hO), (zaI dr cD 36 fD), (zaR tO cTO 3 (fun i => if i < 3 then some (rt i) else none)), (zaL (rt 0) cT 36 ft0), (zo10ririliiriririr sc aTp (nI ts) aHl (nI nh) (lN ee) mi sn aHs (nI n) aWk (nI wz) aBk (nI bz) aFc), (zaI aFc cFc 6 fFc)]) [0, 1, 2, 3, 15, 16] rfl
  have hDc := hD.sub (ws' := [(zo2lirrr ch ft fr dr tO hO), (zaI dr cD 36 fD), (zaR tO cTO 3 (fun i => if i < 3 then some (rt i) else none)), (zaL (rt 0) cT 36 ft0), (zo10ririliiriririr sc aTp (nI ts) aHl (nI nh) (lN ee) mi sn aHs (nI n) aWk (nI wz) aBk (nI bz) aFc), (zaI aFc cFc 6 fFc)]) [0, 1, 2, 3, 15, 16] (by decide) rfl
  have hKc := hK.sub (tys' := [(cD, .int), (cTO, .array .long), (cT, .long), (cFc, .int)]) [0, 1, 2, 14] rfl
  have hFc := va_free (wc := [(zo2lirrr ch ft fr dr tO hO), (zaI dr cD 36 fD), (zaR tO cTO 3 (fun i => if i < 3 then some (rt i) else none)), (zaL (rt 0) cT 36 ft0), (zo10ririliiriririr sc aTp (nI ts) aHl (nI nh) (lN ee) mi sn aHs (nI n) aWk (nI wz) aBk (nI bz) aFc), (zaI aFc cFc 6 fFc)]) hD hS hA [0, 1, 2, 3, 15, 16] rfl
  refine va_callv (va_runV (As := [.ref sc, .int (nI j)]) (rest := []) ⟨hx, hb, hml, hown, hts⟩ (c_xBegin l dC dI gd  sc ch aTp aHl aHs aWk aBk aFc bW bA bE bC dr tO hO ts nh n wz bz cl i j mi sn sg cdd szz att nmb fr (lN ee) ft cFc cbW cbA cbE cbC cD cTO cT fFc fbW fbA fbE fbC fD ft0 rt tpv cz H.size (zcl) (zE) (zC) (hj36) (zHC)) (cwV 2 hts gX0_search_X0_begin rfl rfl rfl hd_yX0_begin ⟨Nat.le_of_ble_eq_true rfl, Nat.le_of_ble_eq_true rfl⟩) ⟨fun a U g mk q => by obtain ⟨q0, q1, qP, qK, qD, qhG, qhZ⟩ := q; exact ⟨q0, mvz g mk a q1, mvP g mk a qP, mvK g mk a qK, qD, qhG.mv g mk a, qhZ.mv g mk a⟩, va_recv hK hP (ci := 2) (q := (RX0, TX0, 5)) (q0 := 0) rfl rfl, fun U hU hW => ⟨rfl, by rw [hU], by rw [hU]; exact hPc, va_K.moved hW.alike hKc, hDc.weaken (fun _ _ _ _ => trivial), hG.call hS hU hW (fun q h => hFc q h), (hZ.sub [0, 1, 2, 3, 4] [0, 1, 2, 3] rfl rfl).call hS hU hW (fun q h => hFc q h)⟩⟩ rfl rfl hl.1 rfl (lv_room (Nat.le_of_ble_eq_true rfl)) dX0_search_3 ⟨Nat.le_of_ble_eq_true rfl, Nat.le_of_ble_eq_true rfl⟩) hS (fun q _ h => hFc q h) hFc (fun u tC H1 locs htC hvm hw_2 hB hz1 hk1 hS => ?_)
  obtain ⟨fD9_3, ft09_4, fFc9_5⟩ := u
  try dsimp only at hw_2 hB
  obtain ⟨hP1, hK1, hD1⟩ := hB
  rw [htC] at hP1
  have hK1 := va_K.moved hvm.symm hK1
  obtain ⟨hP, hD⟩ := va_join (wr := [(zaL (rt 1) cT 36 ft1), (zaL (rt 2) cT 36 ft2), (zaR hO cHO 8 (fun i => if i < 8 then some (rh i) else none)), (zaI (rh 0) cH 36 g0), (zaI (rh 1) cH 36 g1), (zaI (rh 2) cH 36 g2), (zaI (rh 3) cH 36 g3), (zaI (rh 4) cH 36 g4), (zaI (rh 5) cH 36 g5), (zaI (rh 6) cH 36 g6), (zaI (rh 7) cH 36 g7)]) (w1 := [(zo2lirrr ch ft fr dr tO hO), (zaI dr cD 36 fD9_3), (zaR tO cTO 3 (fun i => if i < 3 then some (rt i) else none)), (zaL (rt 0) cT 36 ft09_4), (zo10ririliiriririr sc aTp (nI ts) aHl (nI nh) (lN ee) mi sn aHs (nI n) aWk (nI wz) aBk (nI bz) aFc), (zaI aFc cFc 6 fFc9_5)]) hP hD [0, 1, 2, 3, 15, 16] [4, 5, 6, 7, 8, 9, 10, 11, 12, 13, 14] rfl rfl (by decide) (by decide) hk1 hFc hP1 hD1
  have hK := (hK.sub (tys' := [(cT, .long), (cT, .long), (cHO, .array .int), (cH, .int), (cH, .int), (cH, .int), (cH, .int), (cH, .int), (cH, .int), (cH, .int), (cH, .int)]) [3, 4, 5, 6, 7, 8, 9, 10, 11, 12, 13] rfl).app hK1
  generalize H1 = H at hP hS ⊢
  have hP : va_P (dC, dI) vwCl [(zaL (rt 1) cT 36 ft1), (zaL (rt 2) cT 36 ft2), (zaR hO cHO 8 (fun i => if i < 8 then some (rh i) else none)), (zaI (rh 0) cH 36 g0), (zaI (rh 1) cH 36 g1), (zaI (rh 2) cH 36 g2), (zaI (rh 3) cH 36 g3), (zaI (rh 4) cH 36 g4), (zaI (rh 5) cH 36 g5), (zaI (rh 6) cH 36 g6), (zaI (rh 7) cH 36 g7), (zo2lirrr ch ft fr dr tO hO), (zaI dr cD 36 fD9_3), (zaR tO cTO 3 (fun i => if i < 3 then some (rt i) else none)), (zaL (rt 0) cT 36 ft09_4), (zo10ririliiriririr sc aTp (nI ts) aHl (nI nh) (lN ee) mi sn aHs (nI n) aWk (nI wz) aBk (nI bz) aFc), (zaI aFc cFc 6 fFc9_5)] H := hP
  have hD : va_D A [(zaL (rt 1) cT 36 ft1), (zaL (rt 2) cT 36 ft2), (zaR hO cHO 8 (fun i => if i < 8 then some (rh i) else none)), (zaI (rh 0) cH 36 g0), (zaI (rh 1) cH 36 g1), (zaI (rh 2) cH 36 g2), (zaI (rh 3) cH 36 g3), (zaI (rh 4) cH 36 g4), (zaI (rh 5) cH 36 g5), (zaI (rh 6) cH 36 g6), (zaI (rh 7) cH 36 g7), (zo2lirrr ch ft fr dr tO hO), (zaI dr cD 36 fD9_3), (zaR tO cTO 3 (fun i => if i < 3 then some (rt i) else none)), (zaL (rt 0) cT 36 ft09_4), (zo10ririliiriririr sc aTp (nI ts) aHl (nI nh) (lN ee) mi sn aHs (nI n) aWk (nI wz) aBk (nI bz) aFc), (zaI aFc cFc 6 fFc9_5)] := hD
  have hK : va_K (dC, dI) vwCl [(cT, .long), (cT, .long), (cHO, .array .int), (cH, .int), (cH, .int), (cH, .int), (cH, .int), (cH, .int), (cH, .int), (cH, .int), (cH, .int), (cD, .int), (cTO, .array .long), (cT, .long), (cFc, .int)] s := hK
  obtain ⟨hd0, hb0⟩ := hw_2
  have hw3 : WfC cz ∧ w3 cz ≤ 1000 := ⟨zHC.2, by have := w3_len cz; have := zHC.1.1; omega⟩
  have hd5 : ∀ c9, c9 < 36 → drN cz mi sn c9 ≤ 5 := fun c9 _ => (dr_ok hw3.1 hw3.2 c9).2
  have hdr : ∀ k0, k0 < 36 → fD9_3 k0 = nI (drN cz mi sn k0) ∧ drN cz mi sn k0 ≤ 5 := fun k0 h0 => by rw [hd0 k0 h0]; exact dr_ok hw3.1 hw3.2 k0
  have hT0 : lnA ft09_4 (ttN cz mi sn ee j 0 0) := hb0
  refine lv_aload_n hx hb dX0_search_6 rfl (lv_at hl 0 rfl) ?_
  refine lv_aload_n hx hb dX0_search_7 rfl (lv_at hl 1 rfl) ?_
  refine lv_lload_n hx hb dX0_search_8 rfl (lv_at hl 3 rfl) ?_
  have hPc := hP.sub (ws' := [(zo2lirrr ch ft fr dr tO hO), (zaI dr cD 36 fD9_3), (zaR hO cHO 8 (fun i => if i < 8 then some (rh i) else none)), (zaI (rh 0) cH 36 g0), (zaI (rh 1) cH 36 g1), (zaI (rh 2) cH 36 g2), (zaI (rh 3) cH 36 g3), (zaI (rh 4) cH 36 g4), (zaI (rh 5) cH 36 g5), (zaI (rh 6) cH 36 g6), (zaI (rh 7) cH 36 g7), (zo10ririliiriririr sc aTp (nI ts) aHl (nI nh) (lN ee) mi sn aHs (nI n) aWk (nI wz) aBk (nI bz) aFc)]) [11, 12, 2, 3, 4, 5, 6, 7, 8, 9, 10, 15] rfl
  have hDc := hD.sub (ws' := [(zo2lirrr ch ft fr dr tO hO), (zaI dr cD 36 fD9_3), (zaR hO cHO 8 (fun i => if i < 8 then some (rh i) else none)), (zaI (rh 0) cH 36 g0), (zaI (rh 1) cH 36 g1), (zaI (rh 2) cH 36 g2), (zaI (rh 3) cH 36 g3), (zaI (rh 4) cH 36 g4), (zaI (rh 5) cH 36 g5), (zaI (rh 6) cH 36 g6), (zaI (rh 7) cH 36 g7), (zo10ririliiriririr sc aTp (nI ts) aHl (nI nh) (lN ee) mi sn aHs (nI n) aWk (nI wz) aBk (nI bz) aFc)]) [11, 12, 2, 3, 4, 5, 6, 7, 8, 9, 10, 15] (by decide) rfl
  have hKc := hK.sub (tys' := [(cD, .int), (cHO, .array .int), (cH, .int), (cH, .int), (cH, .int), (cH, .int), (cH, .int), (cH, .int), (cH, .int), (cH, .int)]) [11, 2, 3, 4, 5, 6, 7, 8, 9, 10] rfl
  have hFc := va_free (wc := [(zo2lirrr ch ft fr dr tO hO), (zaI dr cD 36 fD9_3), (zaR hO cHO 8 (fun i => if i < 8 then some (rh i) else none)), (zaI (rh 0) cH 36 g0), (zaI (rh 1) cH 36 g1), (zaI (rh 2) cH 36 g2), (zaI (rh 3) cH 36 g3), (zaI (rh 4) cH 36 g4), (zaI (rh 5) cH 36 g5), (zaI (rh 6) cH 36 g6), (zaI (rh 7) cH 36 g7), (zo10ririliiriririr sc aTp (nI ts) aHl (nI nh) (lN ee) mi sn aHs (nI n) aWk (nI wz) aBk (nI bz) aFc)]) hD hS hA [11, 12, 2, 3, 4, 5, 6, 7, 8, 9, 10, 15] rfl
  refine va_callv (va_runV (As := [.ref sc, .long (lN ma)]) (rest := []) ⟨hx, hb, hml, hown, hts⟩ (c_xTellHits l dC dI gd sc ch aTp aHl aHs aWk aBk aFc dr tO hO ts nh n wz bz i mi sn fr ft cD cHO cH fD9_3 g0 g1 g2 g3 g4 g5 g6 g7 rh ee ma (drN cz mi sn) H.size (hma) (hdr) (hee)) (cwV 2 hts gX0_search_X0_tellHits rfl rfl rfl hd_yX0_tellHits ⟨Nat.le_of_ble_eq_true rfl, Nat.le_of_ble_eq_true rfl⟩) ⟨fun a U g mk q => by obtain ⟨q0, q1, qP, qK, qD, qhG⟩ := q; exact ⟨q0, mvz g mk a q1, mvP g mk a qP, mvK g mk a qK, qD, qhG.mv g mk a⟩, va_recv hK hP (ci := 2) (q := (RX0, TX0, 5)) (q0 := 11) rfl rfl, fun U hU hW => ⟨rfl, by rw [hU], by rw [hU]; exact hPc, va_K.moved hW.alike hKc, hDc.weaken (fun _ _ _ _ => trivial), hG.call hS hU hW (fun q h => hFc q h)⟩⟩ rfl rfl hl.1 rfl (lv_room (Nat.le_of_ble_eq_true rfl)) dX0_search_9 ⟨Nat.le_of_ble_eq_true rfl, Nat.le_of_ble_eq_true rfl⟩) hS (fun q _ h => hFc q h) hFc (fun u tC H1 locs htC hvm hw_7 hB hz1 hk1 hS => ?_)
  obtain ⟨g09_8, g19_9, g29_10, g39_11, g49_12, g59_13, g69_14, g79_15⟩ := u
  try dsimp only at hw_7 hB
  obtain ⟨hP1, hK1, hD1⟩ := hB
  rw [htC] at hP1
  have hK1 := va_K.moved hvm.symm hK1
  obtain ⟨hP, hD⟩ := va_join (wr := [(zaL (rt 1) cT 36 ft1), (zaL (rt 2) cT 36 ft2), (zaR tO cTO 3 (fun i => if i < 3 then some (rt i) else none)), (zaL (rt 0) cT 36 ft09_4), (zaI aFc cFc 6 fFc9_5)]) (w1 := [(zo2lirrr ch ft fr dr tO hO), (zaI dr cD 36 fD9_3), (zaR hO cHO 8 (fun i => if i < 8 then some (rh i) else none)), (zaI (rh 0) cH 36 g09_8), (zaI (rh 1) cH 36 g19_9), (zaI (rh 2) cH 36 g29_10), (zaI (rh 3) cH 36 g39_11), (zaI (rh 4) cH 36 g49_12), (zaI (rh 5) cH 36 g59_13), (zaI (rh 6) cH 36 g69_14), (zaI (rh 7) cH 36 g79_15), (zo10ririliiriririr sc aTp (nI ts) aHl (nI nh) (lN ee) mi sn aHs (nI n) aWk (nI wz) aBk (nI bz) aFc)]) hP hD [11, 12, 2, 3, 4, 5, 6, 7, 8, 9, 10, 15] [0, 1, 13, 14, 16] rfl rfl (by decide) (by decide) hk1 hFc hP1 hD1
  have hK := (hK.sub (tys' := [(cT, .long), (cT, .long), (cTO, .array .long), (cT, .long), (cFc, .int)]) [0, 1, 12, 13, 14] rfl).app hK1
  generalize H1 = H at hP hS ⊢
  have hP : va_P (dC, dI) vwCl [(zaL (rt 1) cT 36 ft1), (zaL (rt 2) cT 36 ft2), (zaR tO cTO 3 (fun i => if i < 3 then some (rt i) else none)), (zaL (rt 0) cT 36 ft09_4), (zaI aFc cFc 6 fFc9_5), (zo2lirrr ch ft fr dr tO hO), (zaI dr cD 36 fD9_3), (zaR hO cHO 8 (fun i => if i < 8 then some (rh i) else none)), (zaI (rh 0) cH 36 g09_8), (zaI (rh 1) cH 36 g19_9), (zaI (rh 2) cH 36 g29_10), (zaI (rh 3) cH 36 g39_11), (zaI (rh 4) cH 36 g49_12), (zaI (rh 5) cH 36 g59_13), (zaI (rh 6) cH 36 g69_14), (zaI (rh 7) cH 36 g79_15), (zo10ririliiriririr sc aTp (nI ts) aHl (nI nh) (lN ee) mi sn aHs (nI n) aWk (nI wz) aBk (nI bz) aFc)] H := hP
  have hD : va_D A [(zaL (rt 1) cT 36 ft1), (zaL (rt 2) cT 36 ft2), (zaR tO cTO 3 (fun i => if i < 3 then some (rt i) else none)), (zaL (rt 0) cT 36 ft09_4), (zaI aFc cFc 6 fFc9_5), (zo2lirrr ch ft fr dr tO hO), (zaI dr cD 36 fD9_3), (zaR hO cHO 8 (fun i => if i < 8 then some (rh i) else none)), (zaI (rh 0) cH 36 g09_8), (zaI (rh 1) cH 36 g19_9), (zaI (rh 2) cH 36 g29_10), (zaI (rh 3) cH 36 g39_11), (zaI (rh 4) cH 36 g49_12), (zaI (rh 5) cH 36 g59_13), (zaI (rh 6) cH 36 g69_14), (zaI (rh 7) cH 36 g79_15), (zo10ririliiriririr sc aTp (nI ts) aHl (nI nh) (lN ee) mi sn aHs (nI n) aWk (nI wz) aBk (nI bz) aFc)] := hD
  have hK : va_K (dC, dI) vwCl [(cT, .long), (cT, .long), (cTO, .array .long), (cT, .long), (cFc, .int), (cD, .int), (cHO, .array .int), (cH, .int), (cH, .int), (cH, .int), (cH, .int), (cH, .int), (cH, .int), (cH, .int), (cH, .int)] s := hK
  obtain ⟨hh0, hh1, hh2, hh3, hh4, hh5, hh6, hh7⟩ := hw_7
  refine lv_aload_n hx hb dX0_search_12 rfl (lv_at hl 0 rfl) ?_
  refine lv_ldc2 (v := (-1)) hx hb hown (hts (.constantLong RX0 64 (-1)) kc_xSearch2_0) dX0_search_13 ?_
  refine va_put (D := (dC, dI)) (ci := 2) (v := .long (-1)) (ty := .long) (C := RX0) (T := TX0) (N := 5) hx hb hts kc_xSearch2_1 tyX0 tyX0_ok nmX0 hown hK hP hD hS 5 rfl rfl 0 (by decide) (hts (.fieldLink RX0 66 "MistHeaps$Chances" "foundTimes" "J") kc_xSearch2_2) (fun _ h9 => h9) rfl (by decide +kernel) rfl rfl (Nat.le_of_ble_eq_true rfl) dX0_search_16 (fun H locs hP hD hS => ?_)
  have hP : va_P (dC, dI) vwCl [(zaL (rt 1) cT 36 ft1), (zaL (rt 2) cT 36 ft2), (zaR tO cTO 3 (fun i => if i < 3 then some (rt i) else none)), (zaL (rt 0) cT 36 ft09_4), (zaI aFc cFc 6 fFc9_5), (zo2lirrr ch (-1) fr dr tO hO), (zaI dr cD 36 fD9_3), (zaR hO cHO 8 (fun i => if i < 8 then some (rh i) else none)), (zaI (rh 0) cH 36 g09_8), (zaI (rh 1) cH 36 g19_9), (zaI (rh 2) cH 36 g29_10), (zaI (rh 3) cH 36 g39_11), (zaI (rh 4) cH 36 g49_12), (zaI (rh 5) cH 36 g59_13), (zaI (rh 6) cH 36 g69_14), (zaI (rh 7) cH 36 g79_15), (zo10ririliiriririr sc aTp (nI ts) aHl (nI nh) (lN ee) mi sn aHs (nI n) aWk (nI wz) aBk (nI bz) aFc)] H := hP
  have hD : va_D A [(zaL (rt 1) cT 36 ft1), (zaL (rt 2) cT 36 ft2), (zaR tO cTO 3 (fun i => if i < 3 then some (rt i) else none)), (zaL (rt 0) cT 36 ft09_4), (zaI aFc cFc 6 fFc9_5), (zo2lirrr ch (-1) fr dr tO hO), (zaI dr cD 36 fD9_3), (zaR hO cHO 8 (fun i => if i < 8 then some (rh i) else none)), (zaI (rh 0) cH 36 g09_8), (zaI (rh 1) cH 36 g19_9), (zaI (rh 2) cH 36 g29_10), (zaI (rh 3) cH 36 g39_11), (zaI (rh 4) cH 36 g49_12), (zaI (rh 5) cH 36 g59_13), (zaI (rh 6) cH 36 g69_14), (zaI (rh 7) cH 36 g79_15), (zo10ririliiriririr sc aTp (nI ts) aHl (nI nh) (lN ee) mi sn aHs (nI n) aWk (nI wz) aBk (nI bz) aFc)] := hD
  refine lv_iload hx hb dX0_search_19 (lv_at hl 4 rfl) ?_
  refine lv_iconst (v := 1) hx hb dX0_search_21 (by decide) ?_
  refine lv_isub hx hb dX0_search_22 ?_
  refine qi_as (y := 1) (by decide) ?_
  refine lv_istore (lv' := [(6, .int 1), (0, .ref ch), (1, .ref sc), (2, .int (nI j)), (3, .long (lN ma)), (5, .int 2)]) hx hb dX0_search_23 hl (by decide) rfl (fun ls hl => ?_)
  refine lv_iconst (v := 0) hx hb dX0_search_25 (by decide) ?_
  refine lv_istore (lv' := [(7, .int 0), (6, .int 1), (0, .ref ch), (1, .ref sc), (2, .int (nI j)), (3, .long (lN ma)), (5, .int 2)]) hx hb dX0_search_26 hl (by decide) rfl (fun ls hl => ?_)
  have L28 : ∀ (nF : Nat) (r : Nat) (ftb : Int64) (frb : Int32) (f1b : Nat → Int64), 8 - r < nF → (r ≤ 8) → (fmJ (srU cz mi sn ee j 2 ma) (r * 8) ftb frb) → ∀ (H : Heap) (locs : List Loc), va_K (dC, dI) vwCl [(cD, .int), (cTO, .array .long), (cT, .long), (cT, .long), (cT, .long), (cHO, .array .int), (cH, .int), (cH, .int), (cH, .int), (cH, .int), (cH, .int), (cH, .int), (cH, .int), (cH, .int), (cFc, .int)] s → va_P (dC, dI) vwCl [(zo2lirrr ch ftb frb dr tO hO), (zaI dr cD 36 fD9_3), (zaR tO cTO 3 (fun i => if i < 3 then some (rt i) else none)), (zaL (rt 0) cT 36 ft09_4), (zaL (rt 1) cT 36 f1b), (zaL (rt 2) cT 36 ft2), (zaR hO cHO 8 (fun i => if i < 8 then some (rh i) else none)), (zaI (rh 0) cH 36 g09_8), (zaI (rh 1) cH 36 g19_9), (zaI (rh 2) cH 36 g29_10), (zaI (rh 3) cH 36 g39_11), (zaI (rh 4) cH 36 g49_12), (zaI (rh 5) cH 36 g59_13), (zaI (rh 6) cH 36 g69_14), (zaI (rh 7) cH 36 g79_15), (zo10ririliiriririr sc aTp (nI ts) aHl (nI nh) (lN ee) mi sn aHs (nI n) aWk (nI wz) aBk (nI bz) aFc), (zaI aFc cFc 6 fFc9_5)] H → va_D A [(zo2lirrr ch ftb frb dr tO hO), (zaI dr cD 36 fD9_3), (zaR tO cTO 3 (fun i => if i < 3 then some (rt i) else none)), (zaL (rt 0) cT 36 ft09_4), (zaL (rt 1) cT 36 f1b), (zaL (rt 2) cT 36 ft2), (zaR hO cHO 8 (fun i => if i < 8 then some (rh i) else none)), (zaI (rh 0) cH 36 g09_8), (zaI (rh 1) cH 36 g19_9), (zaI (rh 2) cH 36 g29_10), (zaI (rh 3) cH 36 g39_11), (zaI (rh 4) cH 36 g49_12), (zaI (rh 5) cH 36 g59_13), (zaI (rh 6) cH 36 g69_14), (zaI (rh 7) cH 36 g79_15), (zo10ririliiriririr sc aTp (nI ts) aHl (nI nh) (lN ee) mi sn aHs (nI n) aWk (nI wz) aBk (nI bz) aFc), (zaI aFc cFc 6 fFc9_5)] → va_S A s.heap H locs → ∀ (ls : Array Slot), lv_has ls 11 [(0, .ref ch), (1, .ref sc), (2, .int (nI j)), (3, .long (lN ma)), (5, .int 2), (6, .int 1), (7, .int (nI r))] → W p l e ({ frames := 5, cells := 0, slots := 0, locals := 117 } : Room) s m args below meth c H locs 0 0 Q (F0 m 28 ls []) := by
    intro nF
    induction nF with
    | zero => intro r ftb frb f1b hm; exact absurd hm (Nat.not_lt_zero _)
    | succ nF ih28 =>
      intro r ftb frb f1b hm hrb hJ9 H locs hK hP hD hS ls hl
      refine lv_iload hx hb dX0_search_28 (lv_at hl 6 rfl) ?_
      refine lv_iconst (v := 1) hx hb dX0_search_30 (by decide) ?_
      refine lv_iconst (v := 3) hx hb dX0_search_31 (by decide) ?_
      refine lv_iload hx hb dX0_search_32 (lv_at hl 5 rfl) ?_
      refine lv_imul hx hb dX0_search_34 ?_
      refine qi_as (y := 3) (by decide) ?_
      refine lv_ishl hx hb dX0_search_35 ?_
      refine qi_as (y := 8) (by decide) ?_
      refine lv_icmp_ge (tgt := 138) hx hb dX0_search_36 (by decide) (fun c_16 => ?_) (fun c_16 => ?_)
      · skip
        have c_16 : 8 ≤ r := (nI_leI (a := 8) (b := r) (by omega) (by omega)).mp c_16
        rw [hQ]
        have hP9 := hP.sub (ws' := [(zo2lirrr ch ftb frb dr tO hO), (zaI dr cD 36 fD9_3), (zaR tO cTO 3 (fun i => if i < 3 then some (rt i) else none)), (zaL (rt 0) cT 36 ft09_4), (zaL (rt 1) cT 36 f1b), (zaL (rt 2) cT 36 ft2), (zaR hO cHO 8 (fun i => if i < 8 then some (rh i) else none)), (zaI (rh 0) cH 36 g09_8), (zaI (rh 1) cH 36 g19_9), (zaI (rh 2) cH 36 g29_10), (zaI (rh 3) cH 36 g39_11), (zaI (rh 4) cH 36 g49_12), (zaI (rh 5) cH 36 g59_13), (zaI (rh 6) cH 36 g69_14), (zaI (rh 7) cH 36 g79_15), (zo10ririliiriririr sc aTp (nI ts) aHl (nI nh) (lN ee) mi sn aHs (nI n) aWk (nI wz) aBk (nI bz) aFc), (zaI aFc cFc 6 fFc9_5)]) [0, 1, 2, 3, 4, 5, 6, 7, 8, 9, 10, 11, 12, 13, 14, 15, 16] rfl
        have hD9 := hD.sub (ws' := [(zo2lirrr ch ftb frb dr tO hO), (zaI dr cD 36 fD9_3), (zaR tO cTO 3 (fun i => if i < 3 then some (rt i) else none)), (zaL (rt 0) cT 36 ft09_4), (zaL (rt 1) cT 36 f1b), (zaL (rt 2) cT 36 ft2), (zaR hO cHO 8 (fun i => if i < 8 then some (rh i) else none)), (zaI (rh 0) cH 36 g09_8), (zaI (rh 1) cH 36 g19_9), (zaI (rh 2) cH 36 g29_10), (zaI (rh 3) cH 36 g39_11), (zaI (rh 4) cH 36 g49_12), (zaI (rh 5) cH 36 g59_13), (zaI (rh 6) cH 36 g69_14), (zaI (rh 7) cH 36 g79_15), (zo10ririliiriririr sc aTp (nI ts) aHl (nI nh) (lN ee) mi sn aHs (nI n) aWk (nI wz) aBk (nI bz) aFc), (zaI aFc cFc 6 fFc9_5)]) [0, 1, 2, 3, 4, 5, 6, 7, 8, 9, 10, 11, 12, 13, 14, 15, 16] (by decide) rfl
        have hK9 := hK.sub (tys' := [(cD, .int), (cTO, .array .long), (cT, .long), (cT, .long), (cT, .long), (cHO, .array .int), (cH, .int), (cH, .int), (cH, .int), (cH, .int), (cH, .int), (cH, .int), (cH, .int), (cH, .int), (cFc, .int)]) [0, 1, 2, 3, 4, 5, 6, 7, 8, 9, 10, 11, 12, 13, 14] rfl
        exact W.vret hx hb hr (fun tQ htQ hWQ => ⟨⟨(ftb, frb, fD9_3, ft09_4, f1b, ft2, g09_8, g19_9, g29_10, g39_11, g49_12, g59_13, g69_14, g79_15, fFc9_5), rfl, by rw [show r = 8 by omega] at hJ9; exact hJ9, by rw [htQ]; exact hP9, va_K.moved hWQ.alike hK9, hD9⟩, hS.F htQ⟩) hS.2.2 dX0_search_138
      · skip
        have c_16 : ¬ 8 ≤ r := fun q => c_16 ((nI_leI (a := 8) (b := r) (by omega) (by omega)).mpr q)
        refine lv_iconst (v := 0) hx hb dX0_search_39 (by decide) ?_
        refine lv_istore (lv' := [(8, .int 0), (0, .ref ch), (1, .ref sc), (2, .int (nI j)), (3, .long (lN ma)), (5, .int 2), (6, .int 1), (7, .int (nI r))]) hx hb dX0_search_40 hl (by decide) rfl (fun ls hl => ?_)
        refine lv_iload hx hb dX0_search_42 (lv_at hl 0 rfl) ?_
        refine lv_iload hx hb dX0_search_44 (lv_at hl 6 rfl) ?_
        refine lv_icmp_ge (tgt := 119) hx hb dX0_search_46 (by decide) (fun c_17 => absurd c_17 (by decide)) (fun _ => ?_)
        refine lv_iconst (v := 3) hx hb dX0_search_49 (by decide) ?_
        refine lv_iload hx hb dX0_search_50 (lv_at hl 6 rfl) ?_
        refine lv_iconst (v := 1) hx hb dX0_search_52 (by decide) ?_
        refine lv_isub hx hb dX0_search_53 ?_
        refine qi_as (y := 0) (by decide) ?_
        refine lv_iload hx hb dX0_search_54 (lv_at hl 0 rfl) ?_
        refine lv_isub hx hb dX0_search_56 ?_
        refine qi_as (y := 0) (by decide) ?_
        refine lv_imul hx hb dX0_search_57 ?_
        refine qi_as (y := 0) (by decide) ?_
        refine lv_istore (lv' := [(9, .int 0), (8, .int 0), (0, .ref ch), (1, .ref sc), (2, .int (nI j)), (3, .long (lN ma)), (5, .int 2), (6, .int 1), (7, .int (nI r))]) hx hb dX0_search_58 hl (by decide) rfl (fun ls hl => ?_)
        refine lv_iload hx hb dX0_search_60 (lv_at hl 8 rfl) ?_
        refine lv_iconst (v := 1) hx hb dX0_search_62 (by decide) ?_
        refine lv_iload hx hb dX0_search_63 (lv_at hl 0 rfl) ?_
        refine lv_ishl hx hb dX0_search_65 ?_
        refine qi_as (y := 1) (by decide) ?_
        refine lv_iconst (v := 1) hx hb dX0_search_66 (by decide) ?_
        refine lv_isub hx hb dX0_search_67 ?_
        refine qi_as (y := 0) (by decide) ?_
        refine lv_iand hx hb dX0_search_68 ?_
        refine qi_as (y := 0) (and0 _) ?_
        refine lv_if_ne (tgt := 76) hx hb dX0_search_69 (by decide) (fun c_18 => absurd c_18 (by decide)) (fun _ => ?_)
        refine lv_iconst (v := 1) hx hb dX0_search_72 (by decide) ?_
        refine lv_goto (tgt := 77) hx hb dX0_search_73 (by decide) ?_
        refine lv_istore (lv' := [(10, .int 1), (9, .int 0), (8, .int 0), (0, .ref ch), (1, .ref sc), (2, .int (nI j)), (3, .long (lN ma)), (5, .int 2), (6, .int 1), (7, .int (nI r))]) hx hb dX0_search_77 hl (by decide) rfl (fun ls hl => ?_)
        refine lv_iload hx hb dX0_search_79 (lv_at hl 0 rfl) ?_
        refine lv_if_eq (tgt := 113) hx hb dX0_search_81 (by decide) (fun c_19 => absurd c_19 (by decide)) (fun _ => ?_)
        refine lv_aload_n hx hb dX0_search_84 rfl (lv_at hl 3 rfl) ?_
        refine lv_aload_n hx hb dX0_search_85 rfl (lv_at hl 4 rfl) ?_
        refine lv_aload_n hx hb dX0_search_86 rfl (lv_at hl 3 rfl) ?_
        refine va_get (D := (dC, dI)) (ci := 2) (v := .ref tO) (C := RX0) (T := TX0) (N := 5) hx hb hts kc_xSearch2_1 hown hK hP 0 rfl rfl 3 (by decide) (hts (.fieldLink RX0 17 "MistHeaps$Chances" "times" "[[J") kc_xSearch2_3) (fun _ h9 => h9) rfl dX0_search_87 ?_
        refine lv_iload hx hb dX0_search_90 (lv_at hl 2 rfl) ?_
        refine va_alda hx hb hK hP 2 1 rfl rfl (vp_in_nI (n := 0) (N := 3) (by omega) (by omega)) dX0_search_92 ?_
        refine qq_as (v := .ref (rt 0)) (rfl) ?_
        refine lv_iload hx hb dX0_search_93 (lv_at hl 9 rfl) ?_
        refine lv_iload hx hb dX0_search_95 (lv_at hl 1 rfl) ?_
        refine lv_ishr hx hb dX0_search_97 ?_
        refine lv_bipush (v := 7) hx hb dX0_search_98 (by decide) ?_
        refine lv_iand hx hb dX0_search_100 ?_
        refine qi_as (y := nI (r % 8)) (sh_r0 r (by omega)) ?_
        refine lv_aload_n hx hb dX0_search_101 rfl (lv_at hl 3 rfl) ?_
        refine va_get (D := (dC, dI)) (ci := 2) (v := .ref tO) (C := RX0) (T := TX0) (N := 5) hx hb hts kc_xSearch2_1 hown hK hP 0 rfl rfl 3 (by decide) (hts (.fieldLink RX0 17 "MistHeaps$Chances" "times" "[[J") kc_xSearch2_3) (fun _ h9 => h9) rfl dX0_search_102 ?_
        refine lv_iload hx hb dX0_search_105 (lv_at hl 2 rfl) ?_
        refine lv_iconst (v := 1) hx hb dX0_search_107 (by decide) ?_
        refine lv_iadd hx hb dX0_search_108 ?_
        refine qi_as (y := 1) (by decide) ?_
        refine va_alda hx hb hK hP 2 1 rfl rfl (vp_in_nI (n := 1) (N := 3) (by omega) (by omega)) dX0_search_109 ?_
        refine qq_as (v := .ref (rt 1)) (rfl) ?_
        have hPc := hP.sub (ws' := [(zo2lirrr ch ftb frb dr tO hO), (zaI dr cD 36 fD9_3), (zo10ririliiriririr sc aTp (nI ts) aHl (nI nh) (lN ee) mi sn aHs (nI n) aWk (nI wz) aBk (nI bz) aFc), (zaL (rt 0) cT 36 ft09_4), (zaL (rt 1) cT 36 f1b)]) [0, 1, 15, 3, 4] rfl
        have hDc := hD.sub (ws' := [(zo2lirrr ch ftb frb dr tO hO), (zaI dr cD 36 fD9_3), (zo10ririliiriririr sc aTp (nI ts) aHl (nI nh) (lN ee) mi sn aHs (nI n) aWk (nI wz) aBk (nI bz) aFc), (zaL (rt 0) cT 36 ft09_4), (zaL (rt 1) cT 36 f1b)]) [0, 1, 15, 3, 4] (by decide) rfl
        have hKc := hK.sub (tys' := [(cD, .int), (cT, .long), (cT, .long)]) [0, 2, 3] rfl
        have hFc := va_free (wc := [(zo2lirrr ch ftb frb dr tO hO), (zaI dr cD 36 fD9_3), (zo10ririliiriririr sc aTp (nI ts) aHl (nI nh) (lN ee) mi sn aHs (nI n) aWk (nI wz) aBk (nI bz) aFc), (zaL (rt 0) cT 36 ft09_4), (zaL (rt 1) cT 36 f1b)]) hD hS hA [0, 1, 15, 3, 4] rfl
        refine va_callv (va_runV (As := [.ref sc, .ref (rt 0), .int (nI (r % 8)), .ref (rt 1)]) (rest := []) ⟨hx, hb, hml, hown, hts⟩ (c_xSpread l dC dI gd sc ch aTp aHl aHs aWk aBk aFc dr tO hO ts nh n wz bz (r % 8) mi sn frb ftb cD fD9_3 (rt 0) (rt 1) cT cT ft09_4 f1b ee (ttN cz mi sn ee j 0 0) (drN cz mi sn) H.size (by omega) (hT0) (tt_b hj36 hd5 (by omega)) (hdr) (hee)) (cwV 4 hts gX0_search_X0_spread rfl rfl rfl hd_yX0_spread ⟨Nat.le_of_ble_eq_true rfl, Nat.le_of_ble_eq_true rfl⟩) ⟨fun a U g mk q => by obtain ⟨q0, q1, qP, qK, qD, qhG⟩ := q; exact ⟨q0, mvz g mk a q1, mvP g mk a qP, mvK g mk a qK, qD, qhG.mv g mk a⟩, va_recv hK hP (ci := 2) (q := (RX0, TX0, 5)) (q0 := 0) rfl rfl, fun U hU hW => ⟨rfl, by rw [hU], by rw [hU]; exact hPc, va_K.moved hW.alike hKc, hDc.weaken (fun _ _ _ _ => trivial), hG.call hS hU hW (fun q h => hFc q h)⟩⟩ rfl rfl hl.1 rfl (lv_room (Nat.le_of_ble_eq_true rfl)) dX0_search_110 ⟨Nat.le_of_ble_eq_true rfl, Nat.le_of_ble_eq_true rfl⟩) hS (fun q _ h => hFc q h) hFc (fun u tC H1 locs htC hvm hw_21 hB hz1 hk1 hS => ?_)
        obtain ⟨tt9_22, rfl⟩ : ∃ z, z = u := ⟨_, rfl⟩
        try dsimp only at hw_21 hB
        obtain ⟨hP1, hK1, hD1⟩ := hB
        rw [htC] at hP1
        have hK1 := va_K.moved hvm.symm hK1
        obtain ⟨hP, hD⟩ := va_join (wr := [(zaR tO cTO 3 (fun i => if i < 3 then some (rt i) else none)), (zaL (rt 2) cT 36 ft2), (zaR hO cHO 8 (fun i => if i < 8 then some (rh i) else none)), (zaI (rh 0) cH 36 g09_8), (zaI (rh 1) cH 36 g19_9), (zaI (rh 2) cH 36 g29_10), (zaI (rh 3) cH 36 g39_11), (zaI (rh 4) cH 36 g49_12), (zaI (rh 5) cH 36 g59_13), (zaI (rh 6) cH 36 g69_14), (zaI (rh 7) cH 36 g79_15), (zaI aFc cFc 6 fFc9_5)]) (w1 := [(zo2lirrr ch ftb frb dr tO hO), (zaI dr cD 36 fD9_3), (zo10ririliiriririr sc aTp (nI ts) aHl (nI nh) (lN ee) mi sn aHs (nI n) aWk (nI wz) aBk (nI bz) aFc), (zaL (rt 0) cT 36 ft09_4), (zaL (rt 1) cT 36 tt9_22)]) hP hD [0, 1, 15, 3, 4] [2, 5, 6, 7, 8, 9, 10, 11, 12, 13, 14, 16] rfl rfl (by decide) (by decide) hk1 hFc hP1 hD1
        have hK := (hK.sub (tys' := [(cTO, .array .long), (cT, .long), (cHO, .array .int), (cH, .int), (cH, .int), (cH, .int), (cH, .int), (cH, .int), (cH, .int), (cH, .int), (cH, .int), (cFc, .int)]) [1, 4, 5, 6, 7, 8, 9, 10, 11, 12, 13, 14] rfl).app hK1
        generalize H1 = H at hP hS ⊢
        have hP : va_P (dC, dI) vwCl [(zaR tO cTO 3 (fun i => if i < 3 then some (rt i) else none)), (zaL (rt 2) cT 36 ft2), (zaR hO cHO 8 (fun i => if i < 8 then some (rh i) else none)), (zaI (rh 0) cH 36 g09_8), (zaI (rh 1) cH 36 g19_9), (zaI (rh 2) cH 36 g29_10), (zaI (rh 3) cH 36 g39_11), (zaI (rh 4) cH 36 g49_12), (zaI (rh 5) cH 36 g59_13), (zaI (rh 6) cH 36 g69_14), (zaI (rh 7) cH 36 g79_15), (zaI aFc cFc 6 fFc9_5), (zo2lirrr ch ftb frb dr tO hO), (zaI dr cD 36 fD9_3), (zo10ririliiriririr sc aTp (nI ts) aHl (nI nh) (lN ee) mi sn aHs (nI n) aWk (nI wz) aBk (nI bz) aFc), (zaL (rt 0) cT 36 ft09_4), (zaL (rt 1) cT 36 tt9_22)] H := hP
        have hD : va_D A [(zaR tO cTO 3 (fun i => if i < 3 then some (rt i) else none)), (zaL (rt 2) cT 36 ft2), (zaR hO cHO 8 (fun i => if i < 8 then some (rh i) else none)), (zaI (rh 0) cH 36 g09_8), (zaI (rh 1) cH 36 g19_9), (zaI (rh 2) cH 36 g29_10), (zaI (rh 3) cH 36 g39_11), (zaI (rh 4) cH 36 g49_12), (zaI (rh 5) cH 36 g59_13), (zaI (rh 6) cH 36 g69_14), (zaI (rh 7) cH 36 g79_15), (zaI aFc cFc 6 fFc9_5), (zo2lirrr ch ftb frb dr tO hO), (zaI dr cD 36 fD9_3), (zo10ririliiriririr sc aTp (nI ts) aHl (nI nh) (lN ee) mi sn aHs (nI n) aWk (nI wz) aBk (nI bz) aFc), (zaL (rt 0) cT 36 ft09_4), (zaL (rt 1) cT 36 tt9_22)] := hD
        have hK : va_K (dC, dI) vwCl [(cTO, .array .long), (cT, .long), (cHO, .array .int), (cH, .int), (cH, .int), (cH, .int), (cH, .int), (cH, .int), (cH, .int), (cH, .int), (cH, .int), (cFc, .int), (cD, .int), (cT, .long), (cT, .long)] s := hK
        have hT1 : lnA tt9_22 (ttN cz mi sn ee j 1 r) := by have e9 := tt_up (C := cz) (mi := mi) (sn := sn) (ee := ee) (j := j) (n := 0) (r := 0) (w := r % 8) (by omega); rw [show 0 * 8 + r % 8 = r by omega] at e9; rw [e9]; exact hw_21
        refine lv_iinc (v := 1) (lv' := [(8, .int 1), (10, .int 1), (9, .int 0), (0, .ref ch), (1, .ref sc), (2, .int (nI j)), (3, .long (lN ma)), (5, .int 2), (6, .int 1), (7, .int (nI r))]) hx hb dX0_search_113 hl (k := 2) rfl (by decide) (by decide) rfl (fun ls hl => ?_)
        refine lv_goto (tgt := 42) hx hb dX0_search_116 (by decide) ?_
        refine lv_iload hx hb dX0_search_42 (lv_at hl 0 rfl) ?_
        refine lv_iload hx hb dX0_search_44 (lv_at hl 8 rfl) ?_
        refine lv_icmp_ge (tgt := 119) hx hb dX0_search_46 (by decide) (fun _ => ?_) (fun c_23 => absurd c_23 (by decide))
        refine lv_aload_n hx hb dX0_search_119 rfl (lv_at hl 3 rfl) ?_
        refine lv_aload_n hx hb dX0_search_120 rfl (lv_at hl 3 rfl) ?_
        refine va_get (D := (dC, dI)) (ci := 2) (v := .ref tO) (C := RX0) (T := TX0) (N := 5) hx hb hts kc_xSearch2_1 hown hK hP 12 rfl rfl 3 (by decide) (hts (.fieldLink RX0 17 "MistHeaps$Chances" "times" "[[J") kc_xSearch2_3) (fun _ h9 => h9) rfl dX0_search_121 ?_
        refine lv_iload hx hb dX0_search_124 (lv_at hl 8 rfl) ?_
        refine va_alda hx hb hK hP 0 0 rfl rfl (vp_in_nI (n := 1) (N := 3) (by omega) (by omega)) dX0_search_126 ?_
        refine qq_as (v := .ref (rt 1)) (rfl) ?_
        refine lv_iload hx hb dX0_search_127 (lv_at hl 9 rfl) ?_
        have hPc := hP.sub (ws' := [(zo2lirrr ch ftb frb dr tO hO), (zaL (rt 1) cT 36 tt9_22), (zaR hO cHO 8 (fun i => if i < 8 then some (rh i) else none)), (zaI (rh 0) cH 36 g09_8), (zaI (rh 1) cH 36 g19_9), (zaI (rh 2) cH 36 g29_10), (zaI (rh 3) cH 36 g39_11), (zaI (rh 4) cH 36 g49_12), (zaI (rh 5) cH 36 g59_13), (zaI (rh 6) cH 36 g69_14), (zaI (rh 7) cH 36 g79_15)]) [12, 16, 2, 3, 4, 5, 6, 7, 8, 9, 10] rfl
        have hDc := hD.sub (ws' := [(zo2lirrr ch ftb frb dr tO hO), (zaL (rt 1) cT 36 tt9_22), (zaR hO cHO 8 (fun i => if i < 8 then some (rh i) else none)), (zaI (rh 0) cH 36 g09_8), (zaI (rh 1) cH 36 g19_9), (zaI (rh 2) cH 36 g29_10), (zaI (rh 3) cH 36 g39_11), (zaI (rh 4) cH 36 g49_12), (zaI (rh 5) cH 36 g59_13), (zaI (rh 6) cH 36 g69_14), (zaI (rh 7) cH 36 g79_15)]) [12, 16, 2, 3, 4, 5, 6, 7, 8, 9, 10] (by decide) rfl
        have hKc := hK.sub (tys' := [(cT, .long), (cHO, .array .int), (cH, .int), (cH, .int), (cH, .int), (cH, .int), (cH, .int), (cH, .int), (cH, .int), (cH, .int)]) [14, 2, 3, 4, 5, 6, 7, 8, 9, 10] rfl
        have hFc := va_free (wc := [(zo2lirrr ch ftb frb dr tO hO), (zaL (rt 1) cT 36 tt9_22), (zaR hO cHO 8 (fun i => if i < 8 then some (rh i) else none)), (zaI (rh 0) cH 36 g09_8), (zaI (rh 1) cH 36 g19_9), (zaI (rh 2) cH 36 g29_10), (zaI (rh 3) cH 36 g39_11), (zaI (rh 4) cH 36 g49_12), (zaI (rh 5) cH 36 g59_13), (zaI (rh 6) cH 36 g69_14), (zaI (rh 7) cH 36 g79_15)]) hD hS hA [12, 16, 2, 3, 4, 5, 6, 7, 8, 9, 10] rfl
        refine va_callv (va_runV (As := [.ref (rt 1), .int (nI r)]) (rest := []) ⟨hx, hb, hml, hown, hts⟩ (c_xTryLast l dC dI ch dr tO hO i r frb ftb cHO cH g09_8 g19_9 g29_10 g39_11 g49_12 g59_13 g69_14 g79_15 rh (rt 1) cT tt9_22 (ttN cz mi sn ee j 1 r) (srU cz mi sn ee j 2 ma) (htN (edB ee) (drN cz mi sn) ma) H.size (by omega) (hT1) (hh0) (hh1) (hh2) (hh3) (hh4) (hh5) (hh6) (hh7) (fun w9 k0 h0 => ht_b (hd5 k0 h0)) (fun w9 h9 => sr_U (n := 1) h9) (sr_b hj36 hd5 (by omega)) (hJ9)) (cwV 2 hts gX0_search_X0_tryLast rfl rfl rfl hd_yX0_tryLast ⟨Nat.le_of_ble_eq_true rfl, Nat.le_of_ble_eq_true rfl⟩) ⟨fun a U g mk q => by obtain ⟨q0, q1, qP, qK, qD⟩ := q; exact ⟨q0, mvz g mk a q1, mvP g mk a qP, mvK g mk a qK, qD⟩, va_recv hK hP (ci := 2) (q := (RX0, TX0, 5)) (q0 := 12) rfl rfl, fun U hU hW => ⟨rfl, by rw [hU], by rw [hU]; exact hPc, va_K.moved hW.alike hKc, hDc.weaken (fun _ _ _ _ => trivial)⟩⟩ rfl rfl hl.1 rfl (lv_room (Nat.le_of_ble_eq_true rfl)) dX0_search_129 ⟨Nat.le_of_ble_eq_true rfl, Nat.le_of_ble_eq_true rfl⟩) hS (fun q _ h => hFc q h) hFc (fun u tC H1 locs htC hvm hw_25 hB hz1 hk1 hS => ?_)
        obtain ⟨ft9_26, fr9_27⟩ := u
        try dsimp only at hw_25 hB
        obtain ⟨hP1, hK1, hD1⟩ := hB
        rw [htC] at hP1
        have hK1 := va_K.moved hvm.symm hK1
        obtain ⟨hP, hD⟩ := va_join (wr := [(zaR tO cTO 3 (fun i => if i < 3 then some (rt i) else none)), (zaL (rt 2) cT 36 ft2), (zaI aFc cFc 6 fFc9_5), (zaI dr cD 36 fD9_3), (zo10ririliiriririr sc aTp (nI ts) aHl (nI nh) (lN ee) mi sn aHs (nI n) aWk (nI wz) aBk (nI bz) aFc), (zaL (rt 0) cT 36 ft09_4)]) (w1 := [(zo2lirrr ch ft9_26 fr9_27 dr tO hO), (zaL (rt 1) cT 36 tt9_22), (zaR hO cHO 8 (fun i => if i < 8 then some (rh i) else none)), (zaI (rh 0) cH 36 g09_8), (zaI (rh 1) cH 36 g19_9), (zaI (rh 2) cH 36 g29_10), (zaI (rh 3) cH 36 g39_11), (zaI (rh 4) cH 36 g49_12), (zaI (rh 5) cH 36 g59_13), (zaI (rh 6) cH 36 g69_14), (zaI (rh 7) cH 36 g79_15)]) hP hD [12, 16, 2, 3, 4, 5, 6, 7, 8, 9, 10] [0, 1, 11, 13, 14, 15] rfl rfl (by decide) (by decide) hk1 hFc hP1 hD1
        have hK := (hK.sub (tys' := [(cTO, .array .long), (cT, .long), (cFc, .int), (cD, .int), (cT, .long)]) [0, 1, 11, 12, 13] rfl).app hK1
        generalize H1 = H at hP hS ⊢
        have hP : va_P (dC, dI) vwCl [(zaR tO cTO 3 (fun i => if i < 3 then some (rt i) else none)), (zaL (rt 2) cT 36 ft2), (zaI aFc cFc 6 fFc9_5), (zaI dr cD 36 fD9_3), (zo10ririliiriririr sc aTp (nI ts) aHl (nI nh) (lN ee) mi sn aHs (nI n) aWk (nI wz) aBk (nI bz) aFc), (zaL (rt 0) cT 36 ft09_4), (zo2lirrr ch ft9_26 fr9_27 dr tO hO), (zaL (rt 1) cT 36 tt9_22), (zaR hO cHO 8 (fun i => if i < 8 then some (rh i) else none)), (zaI (rh 0) cH 36 g09_8), (zaI (rh 1) cH 36 g19_9), (zaI (rh 2) cH 36 g29_10), (zaI (rh 3) cH 36 g39_11), (zaI (rh 4) cH 36 g49_12), (zaI (rh 5) cH 36 g59_13), (zaI (rh 6) cH 36 g69_14), (zaI (rh 7) cH 36 g79_15)] H := hP
        have hD : va_D A [(zaR tO cTO 3 (fun i => if i < 3 then some (rt i) else none)), (zaL (rt 2) cT 36 ft2), (zaI aFc cFc 6 fFc9_5), (zaI dr cD 36 fD9_3), (zo10ririliiriririr sc aTp (nI ts) aHl (nI nh) (lN ee) mi sn aHs (nI n) aWk (nI wz) aBk (nI bz) aFc), (zaL (rt 0) cT 36 ft09_4), (zo2lirrr ch ft9_26 fr9_27 dr tO hO), (zaL (rt 1) cT 36 tt9_22), (zaR hO cHO 8 (fun i => if i < 8 then some (rh i) else none)), (zaI (rh 0) cH 36 g09_8), (zaI (rh 1) cH 36 g19_9), (zaI (rh 2) cH 36 g29_10), (zaI (rh 3) cH 36 g39_11), (zaI (rh 4) cH 36 g49_12), (zaI (rh 5) cH 36 g59_13), (zaI (rh 6) cH 36 g69_14), (zaI (rh 7) cH 36 g79_15)] := hD
        have hK : va_K (dC, dI) vwCl [(cTO, .array .long), (cT, .long), (cFc, .int), (cD, .int), (cT, .long), (cT, .long), (cHO, .array .int), (cH, .int), (cH, .int), (cH, .int), (cH, .int), (cH, .int), (cH, .int), (cH, .int), (cH, .int)] s := hK
        have hJ8 := hw_25
        refine lv_iinc (v := nI (r + 1)) (lv' := [(7, .int (nI (r + 1))), (8, .int 1), (10, .int 1), (9, .int 0), (0, .ref ch), (1, .ref sc), (2, .int (nI j)), (3, .long (lN ma)), (5, .int 2), (6, .int 1)]) hx hb dX0_search_132 hl (k := 9) rfl (nI_add r 1) (by decide) rfl (fun ls hl => ?_)
        refine lv_goto (tgt := 28) hx hb dX0_search_135 (by decide) ?_
        exact ih28 (r + 1) (ft9_26) (fr9_27) (tt9_22) (by omega) (by omega) (by rw [show (r + 1) * 8 = r * 8 + 8 by omega]; exact hJ8) _ _ (hK.sub [3, 0, 4, 5, 1, 6, 7, 8, 9, 10, 11, 12, 13, 14, 2] rfl) (hP.sub [6, 3, 0, 5, 7, 1, 8, 9, 10, 11, 12, 13, 14, 15, 16, 4, 2] rfl) (hD.sub [6, 3, 0, 5, 7, 1, 8, 9, 10, 11, 12, 13, 14, 15, 16, 4, 2] (by decide) rfl) hS ls (lv_sub hl [4, 5, 6, 7, 8, 9, 0] rfl)
  exact L28 _ (0) ((-1)) (fr) (ft1) (Nat.lt_succ_self _) (by omega) (fj_0) _ _ (hK.sub [5, 2, 3, 0, 1, 6, 7, 8, 9, 10, 11, 12, 13, 14, 4] rfl) (hP.sub [5, 6, 2, 3, 0, 1, 7, 8, 9, 10, 11, 12, 13, 14, 15, 16, 4] rfl) (hD.sub [5, 6, 2, 3, 0, 1, 7, 8, 9, 10, 11, 12, 13, 14, 15, 16, 4] (by decide) rfl) hS ls (lv_sub hl [2, 3, 4, 5, 6, 1, 0] rfl)

theorem kc_xSearch3_0 : (.constantLong RX0 64 (-1) : Cond) ∈ wsX0_search := kc_of 875 rfl rfl rfl
theorem kc_xSearch3_1 : ∀ w ∈ wsX00, w ∈ wsX0_search := fun w h => List.mem_cons_of_mem _ (gin_wsX00 w h)
theorem kc_xSearch3_2 : (.fieldLink RX0 66 "MistHeaps$Chances" "foundTimes" "J" : Cond) ∈ wsX0_search := kc_of 284 rfl rfl rfl
theorem kc_xSearch3_3 : (.fieldLink RX0 17 "MistHeaps$Chances" "times" "[[J" : Cond) ∈ wsX0_search := kc_of 288 rfl rfl rfl
set_option maxHeartbeats 4000000 in
set_option maxRecDepth 100000 in
theorem c_xSearch3 (l : Launch) (dC : Nat → ClassId) (dI : Nat → Nat → Nat) (gd : Nat → Nat)  (sc : Nat) (ch : Nat) (aTp : Nat) (aHl : Nat) (aHs : Nat) (aWk : Nat) (aBk : Nat) (aFc : Nat) (bW : Nat) (bA : Nat) (bE : Nat) (bC : Nat) (dr : Nat) (tO : Nat) (hO : Nat) (ts : Nat) (nh : Nat) (n : Nat) (wz : Nat) (bz : Nat) (cl : Nat) (i : Nat) (j : Nat) (mi : Int32) (sn : Int32) (sg : Int32) (cdd : Int32) (szz : Int32) (att : Int32) (nmb : Int32) (fr : Int32) (ft : Int64) (cFc : ClassId) (cbW : ClassId) (cbA : ClassId) (cbE : ClassId) (cbC : ClassId) (cD : ClassId) (cTO : ClassId) (cHO : ClassId) (cT : ClassId) (cH : ClassId) (fFc : Nat → Int32) (fbW : Nat → Int32) (fbA : Nat → Int32) (fbE : Nat → Int32) (fbC : Nat → Int32) (fD : Nat → Int32) (g0 : Nat → Int32) (g1 : Nat → Int32) (g2 : Nat → Int32) (g3 : Nat → Int32) (g4 : Nat → Int32) (g5 : Nat → Int32) (g6 : Nat → Int32) (g7 : Nat → Int32) (ft0 : Nat → Int64) (ft1 : Nat → Int64) (ft2 : Nat → Int64) (rt : Nat → Nat) (rh : Nat → Nat) (tpv : Value) (cz : List pCla) (ee : Nat) (ma : Nat) (sz : Nat) (zcl : cl ≤ 10) (zE : ∀ k0, k0 < 10 → ∃ e0 : Nat, e0 ≤ 100 ∧ fbE k0 = nI e0) (zC : ∀ k0, k0 < 100 → okC (fbC k0)) (hj36 : j < 36) (hma : ma < 2 ^ 62) (hee : ee < 2 ^ 36) (zHC : HC cl sg fbW fbA fbE fbC cz ∧ WfC cz) : Met l yX0_search wsX0_search ({ frames := 5, cells := 0, slots := 0, locals := 117 } : Room) (va_Pc [.ref ch, .ref sc, .int (nI j), .long (lN ma), .int 3] (fun U => U.heap.size = sz ∧ va_P (dC, dI) vwCl [(zo2lirrr ch ft fr dr tO hO), (zaI dr cD 36 fD), (zaR tO cTO 3 (fun i => if i < 3 then some (rt i) else none)), (zaL (rt 0) cT 36 ft0), (zaL (rt 1) cT 36 ft1), (zaL (rt 2) cT 36 ft2), (zaR hO cHO 8 (fun i => if i < 8 then some (rh i) else none)), (zaI (rh 0) cH 36 g0), (zaI (rh 1) cH 36 g1), (zaI (rh 2) cH 36 g2), (zaI (rh 3) cH 36 g3), (zaI (rh 4) cH 36 g4), (zaI (rh 5) cH 36 g5), (zaI (rh 6) cH 36 g6), (zaI (rh 7) cH 36 g7), (zo10ririliiriririr sc aTp (nI ts) aHl (nI nh) (lN ee) mi sn aHs (nI n) aWk (nI wz) aBk (nI bz) aFc), (zaI aFc cFc 6 fFc)] U.heap ∧ va_K (dC, dI) vwCl [(cD, .int), (cTO, .array .long), (cT, .long), (cT, .long), (cT, .long), (cHO, .array .int), (cH, .int), (cH, .int), (cH, .int), (cH, .int), (cH, .int), (cH, .int), (cH, .int), (cH, .int), (cFc, .int)] U ∧ va_D (fun _ => True) [(zo2lirrr ch ft fr dr tO hO), (zaI dr cD 36 fD), (zaR tO cTO 3 (fun i => if i < 3 then some (rt i) else none)), (zaL (rt 0) cT 36 ft0), (zaL (rt 1) cT 36 ft1), (zaL (rt 2) cT 36 ft2), (zaR hO cHO 8 (fun i => if i < 8 then some (rh i) else none)), (zaI (rh 0) cH 36 g0), (zaI (rh 1) cH 36 g1), (zaI (rh 2) cH 36 g2), (zaI (rh 3) cH 36 g3), (zaI (rh 4) cH 36 g4), (zaI (rh 5) cH 36 g5), (zaI (rh 6) cH 36 g6), (zaI (rh 7) cH 36 g7), (zo10ririliiriririr sc aTp (nI ts) aHl (nI nh) (lN ee) mi sn aHs (nI n) aWk (nI wz) aBk (nI bz) aFc), (zaI aFc cFc 6 fFc)] ∧ Gl gd (va_A [(zo2lirrr ch ft fr dr tO hO), (zaI dr cD 36 fD), (zaR tO cTO 3 (fun i => if i < 3 then some (rt i) else none)), (zaL (rt 0) cT 36 ft0), (zaL (rt 1) cT 36 ft1), (zaL (rt 2) cT 36 ft2), (zaR hO cHO 8 (fun i => if i < 8 then some (rh i) else none)), (zaI (rh 0) cH 36 g0), (zaI (rh 1) cH 36 g1), (zaI (rh 2) cH 36 g2), (zaI (rh 3) cH 36 g3), (zaI (rh 4) cH 36 g4), (zaI (rh 5) cH 36 g5), (zaI (rh 6) cH 36 g6), (zaI (rh 7) cH 36 g7), (zo10ririliiriririr sc aTp (nI ts) aHl (nI nh) (lN ee) mi sn aHs (nI n) aWk (nI wz) aBk (nI bz) aFc), (zaI aFc cFc 6 fFc)] sz) U ∧ Fz dC dI [(zo7iirrrriviii aHl sg (nI cl) bW bA bE bC cdd tpv szz att nmb), (zaI bW cbW 10 fbW), (zaI bA cbA 10 fbA), (zaI bE cbE 10 fbE), (zaI bC cbC 100 fbC)] [(cbW, .int), (cbA, .int), (cbE, .int), (cbC, .int)] (va_A [(zo2lirrr ch ft fr dr tO hO), (zaI dr cD 36 fD), (zaR tO cTO 3 (fun i => if i < 3 then some (rt i) else none)), (zaL (rt 0) cT 36 ft0), (zaL (rt 1) cT 36 ft1), (zaL (rt 2) cT 36 ft2), (zaR hO cHO 8 (fun i => if i < 8 then some (rh i) else none)), (zaI (rh 0) cH 36 g0), (zaI (rh 1) cH 36 g1), (zaI (rh 2) cH 36 g2), (zaI (rh 3) cH 36 g3), (zaI (rh 4) cH 36 g4), (zaI (rh 5) cH 36 g5), (zaI (rh 6) cH 36 g6), (zaI (rh 7) cH 36 g7), (zo10ririliiriririr sc aTp (nI ts) aHl (nI nh) (lN ee) mi sn aHs (nI n) aWk (nI wz) aBk (nI bz) aFc), (zaI aFc cFc 6 fFc)] sz) U)) (va_Qv (fun (u : (Int64) × (Int32) × (Nat → Int32) × (Nat → Int64) × (Nat → Int64) × (Nat → Int64) × (Nat → Int32) × (Nat → Int32) × (Nat → Int32) × (Nat → Int32) × (Nat → Int32) × (Nat → Int32) × (Nat → Int32) × (Nat → Int32) × (Nat → Int32)) => match u with | (ft9, fr9, fD9, ft09, ft19, ft29, g09, g19, g29, g39, g49, g59, g69, g79, fFc9) => fmJ (srU cz mi sn ee j 3 ma) 512 ft9 fr9) (fun (u : (Int64) × (Int32) × (Nat → Int32) × (Nat → Int64) × (Nat → Int64) × (Nat → Int64) × (Nat → Int32) × (Nat → Int32) × (Nat → Int32) × (Nat → Int32) × (Nat → Int32) × (Nat → Int32) × (Nat → Int32) × (Nat → Int32) × (Nat → Int32)) (t : State) => match u with | (ft9, fr9, fD9, ft09, ft19, ft29, g09, g19, g29, g39, g49, g59, g69, g79, fFc9) => va_P (dC, dI) vwCl [(zo2lirrr ch ft9 fr9 dr tO hO), (zaI dr cD 36 fD9), (zaR tO cTO 3 (fun i => if i < 3 then some (rt i) else none)), (zaL (rt 0) cT 36 ft09), (zaL (rt 1) cT 36 ft19), (zaL (rt 2) cT 36 ft29), (zaR hO cHO 8 (fun i => if i < 8 then some (rh i) else none)), (zaI (rh 0) cH 36 g09), (zaI (rh 1) cH 36 g19), (zaI (rh 2) cH 36 g29), (zaI (rh 3) cH 36 g39), (zaI (rh 4) cH 36 g49), (zaI (rh 5) cH 36 g59), (zaI (rh 6) cH 36 g69), (zaI (rh 7) cH 36 g79), (zo10ririliiriririr sc aTp (nI ts) aHl (nI nh) (lN ee) mi sn aHs (nI n) aWk (nI wz) aBk (nI bz) aFc), (zaI aFc cFc 6 fFc9)] t.heap ∧ va_K (dC, dI) vwCl [(cD, .int), (cTO, .array .long), (cT, .long), (cT, .long), (cT, .long), (cHO, .array .int), (cH, .int), (cH, .int), (cH, .int), (cH, .int), (cH, .int), (cH, .int), (cH, .int), (cH, .int), (cFc, .int)] t ∧ va_D (va_A [(zo2lirrr ch ft fr dr tO hO), (zaI dr cD 36 fD), (zaR tO cTO 3 (fun i => if i < 3 then some (rt i) else none)), (zaL (rt 0) cT 36 ft0), (zaL (rt 1) cT 36 ft1), (zaL (rt 2) cT 36 ft2), (zaR hO cHO 8 (fun i => if i < 8 then some (rh i) else none)), (zaI (rh 0) cH 36 g0), (zaI (rh 1) cH 36 g1), (zaI (rh 2) cH 36 g2), (zaI (rh 3) cH 36 g3), (zaI (rh 4) cH 36 g4), (zaI (rh 5) cH 36 g5), (zaI (rh 6) cH 36 g6), (zaI (rh 7) cH 36 g7), (zo10ririliiriririr sc aTp (nI ts) aHl (nI nh) (lN ee) mi sn aHs (nI n) aWk (nI wz) aBk (nI bz) aFc), (zaI aFc cFc 6 fFc)] sz) [(zo2lirrr ch ft9 fr9 dr tO hO), (zaI dr cD 36 fD9), (zaR tO cTO 3 (fun i => if i < 3 then some (rt i) else none)), (zaL (rt 0) cT 36 ft09), (zaL (rt 1) cT 36 ft19), (zaL (rt 2) cT 36 ft29), (zaR hO cHO 8 (fun i => if i < 8 then some (rh i) else none)), (zaI (rh 0) cH 36 g09), (zaI (rh 1) cH 36 g19), (zaI (rh 2) cH 36 g29), (zaI (rh 3) cH 36 g39), (zaI (rh 4) cH 36 g49), (zaI (rh 5) cH 36 g59), (zaI (rh 6) cH 36 g69), (zaI (rh 7) cH 36 g79), (zo10ririliiriririr sc aTp (nI ts) aHl (nI nh) (lN ee) mi sn aHs (nI n) aWk (nI wz) aBk (nI bz) aFc), (zaI aFc cFc 6 fFc9)]) (va_A [(zo2lirrr ch ft fr dr tO hO), (zaI dr cD 36 fD), (zaR tO cTO 3 (fun i => if i < 3 then some (rt i) else none)), (zaL (rt 0) cT 36 ft0), (zaL (rt 1) cT 36 ft1), (zaL (rt 2) cT 36 ft2), (zaR hO cHO 8 (fun i => if i < 8 then some (rh i) else none)), (zaI (rh 0) cH 36 g0), (zaI (rh 1) cH 36 g1), (zaI (rh 2) cH 36 g2), (zaI (rh 3) cH 36 g3), (zaI (rh 4) cH 36 g4), (zaI (rh 5) cH 36 g5), (zaI (rh 6) cH 36 g6), (zaI (rh 7) cH 36 g7), (zo10ririliiriririr sc aTp (nI ts) aHl (nI nh) (lN ee) mi sn aHs (nI n) aWk (nI wz) aBk (nI bz) aFc), (zaI aFc cFc 6 fFc)] sz)) 0 0 (va_A [(zo2lirrr ch ft fr dr tO hO), (zaI dr cD 36 fD), (zaR tO cTO 3 (fun i => if i < 3 then some (rt i) else none)), (zaL (rt 0) cT 36 ft0), (zaL (rt 1) cT 36 ft1), (zaL (rt 2) cT 36 ft2), (zaR hO cHO 8 (fun i => if i < 8 then some (rh i) else none)), (zaI (rh 0) cH 36 g0), (zaI (rh 1) cH 36 g1), (zaI (rh 2) cH 36 g2), (zaI (rh 3) cH 36 g3), (zaI (rh 4) cH 36 g4), (zaI (rh 5) cH 36 g5), (zaI (rh 6) cH 36 g6), (zaI (rh 7) cH 36 g7), (zo10ririliiriririr sc aTp (nI ts) aHl (nI nh) (lN ee) mi sn aHs (nI n) aWk (nI wz) aBk (nI bz) aFc), (zaI aFc cFc 6 fFc)] sz) := by
  refine met_ofQ (cc := cX0_search) (maxL := 11) (ret := none) (by decide) rfl ?_
  intro p e s m args below meth c s₁ Q B hml hv hQ
  obtain ⟨rfl, hsz, hP, hK, hD0, hG, hZ⟩ := hv
  have hx := B.exec
  have hb := B.bytes
  have hr := B.returns
  have hts := atoms_spec (ws := wsX0_search) B.pre
  have hown : s.vm.findClass RX0 = some m.cls := findClass_of_methodNamed B.named
  have hlocks := B.notSynchronized
  subst hsz
  have hD := hD0.self (sz := s.heap.size)
  generalize hAe : va_A [(zo2lirrr ch ft fr dr tO hO), (zaI dr cD 36 fD), (zaR tO cTO 3 (fun i => if i < 3 then some (rt i) else none)), (zaL (rt 0) cT 36 ft0), (zaL (rt 1) cT 36 ft1), (zaL (rt 2) cT 36 ft2), (zaR hO cHO 8 (fun i => if i < 8 then some (rh i) else none)), (zaI (rh 0) cH 36 g0), (zaI (rh 1) cH 36 g1), (zaI (rh 2) cH 36 g2), (zaI (rh 3) cH 36 g3), (zaI (rh 4) cH 36 g4), (zaI (rh 5) cH 36 g5), (zaI (rh 6) cH 36 g6), (zaI (rh 7) cH 36 g7), (zo10ririliiriririr sc aTp (nI ts) aHl (nI nh) (lN ee) mi sn aHs (nI n) aWk (nI wz) aBk (nI bz) aFc), (zaI aFc cFc 6 fFc)] s.heap.size = A at hD hQ hG hZ ⊢
  have hA : ∀ q : Nat, s.heap.size ≤ q → A q := fun q h => by rw [← hAe]; exact Or.inr h
  have hS : va_S A s.heap s.heap [] := va_S.rf
  have hl := lv_entry [.ref ch, .ref sc, .int (nI j), .long (lN ma), .int 3] (n := 11) (Nat.le_of_ble_eq_true rfl)
  rw [lg_entry_eq]
  generalize (lg_sl [.ref ch, .ref sc, .int (nI j), .long (lN ma), .int 3] ++ List.replicate (11 - (lg_sl [.ref ch, .ref sc, .int (nI j), .long (lN ma), .int 3]).length) Slot.unset).toArray = ls at hl ⊢
  generalize hag : ([.ref ch, .ref sc, .int (nI j), .long (lN ma), .int 3] : List Value).toArray = args at hts hQ ⊢
  have hl : lv_has ls 11 [(0, .ref ch), (1, .ref sc), (2, .int (nI j)), (3, .long (lN ma)), (5, .int 3)] := hl
  obtain ⟨H, hH⟩ : ∃ H : Heap, H = s.heap := ⟨_, rfl⟩
  rw [← hH] at hP
  rw [← hH]
  have hS : va_S A s.heap H [] := by rw [hH]; exact hS
  obtain ⟨locs, hlo⟩ : ∃ L : List Loc, L = [] := ⟨_, rfl⟩
  rw [← hlo] at hS
  rw [← hlo]
  clear hH hlo
  refine lv_aload_n hx hb dX0_search_0 rfl (lv_at hl 0 rfl) ?_
  refine lv_aload_n hx hb dX0_search_1 rfl (lv_at hl 1 rfl) ?_
  refine lv_iload_n hx hb dX0_search_2 rfl (lv_at hl 2 rfl) ?_
  have hPc := hP.sub (ws' := [(zo2lirrr ch ft fr dr tO hO), (zaI dr cD 36 fD), (zaR tO cTO 3 (fun i => if i < 3 then some (rt i) else none)), (zaL (rt 0) cT 36 ft0), (zo10ririliiriririr sc aTp (nI ts) aHl (nI nh) (lN ee) mi sn aHs (nI n) aWk (nI wz) aBk (nI bz) aFc), (zaI aFc cFc 6 fFc)]) [0, 1, 2, 3, 15, 16] rfl
  have hDc := hD.sub (ws' := [(zo2lirrr ch ft fr dr tO hO), (zaI dr cD 36 fD), (zaR tO cTO 3 (fun i => if i < 3 then some (rt i) else none)), (zaL (rt 0) cT 36 ft0), (zo10ririliiriririr sc aTp (nI ts) aHl (nI nh) (lN ee) mi sn aHs (nI n) aWk (nI wz) aBk (nI bz) aFc), (zaI aFc cFc 6 fFc)]) [0, 1, 2, 3, 15, 16] (by decide) rfl
  have hKc := hK.sub (tys' := [(cD, .int), (cTO, .array .long), (cT, .long), (cFc, .int)]) [0, 1, 2, 14] rfl
  have hFc := va_free (wc := [(zo2lirrr ch ft fr dr tO hO), (zaI dr cD 36 fD), (zaR tO cTO 3 (fun i => if i < 3 then some (rt i) else none)), (zaL (rt 0) cT 36 ft0), (zo10ririliiriririr sc aTp (nI ts) aHl (nI nh) (lN ee) mi sn aHs (nI n) aWk (nI wz) aBk (nI bz) aFc), (zaI aFc cFc 6 fFc)]) hD hS hA [0, 1, 2, 3, 15, 16] rfl
  refine va_callv (va_runV (As := [.ref sc, .int (nI j)]) (rest := []) ⟨hx, hb, hml, hown, hts⟩ (c_xBegin l dC dI gd  sc ch aTp aHl aHs aWk aBk aFc bW bA bE bC dr tO hO ts nh n wz bz cl i j mi sn sg cdd szz att nmb fr (lN ee) ft cFc cbW cbA cbE cbC cD cTO cT fFc fbW fbA fbE fbC fD ft0 rt tpv cz H.size (zcl) (zE) (zC) (hj36) (zHC)) (cwV 2 hts gX0_search_X0_begin rfl rfl rfl hd_yX0_begin ⟨Nat.le_of_ble_eq_true rfl, Nat.le_of_ble_eq_true rfl⟩) ⟨fun a U g mk q => by obtain ⟨q0, q1, qP, qK, qD, qhG, qhZ⟩ := q; exact ⟨q0, mvz g mk a q1, mvP g mk a qP, mvK g mk a qK, qD, qhG.mv g mk a, qhZ.mv g mk a⟩, va_recv hK hP (ci := 2) (q := (RX0, TX0, 5)) (q0 := 0) rfl rfl, fun U hU hW => ⟨rfl, by rw [hU], by rw [hU]; exact hPc, va_K.moved hW.alike hKc, hDc.weaken (fun _ _ _ _ => trivial), hG.call hS hU hW (fun q h => hFc q h), (hZ.sub [0, 1, 2, 3, 4] [0, 1, 2, 3] rfl rfl).call hS hU hW (fun q h => hFc q h)⟩⟩ rfl rfl hl.1 rfl (lv_room (Nat.le_of_ble_eq_true rfl)) dX0_search_3 ⟨Nat.le_of_ble_eq_true rfl, Nat.le_of_ble_eq_true rfl⟩) hS (fun q _ h => hFc q h) hFc (fun u tC H1 locs htC hvm hw_2 hB hz1 hk1 hS => ?_)
  obtain ⟨fD9_3, ft09_4, fFc9_5⟩ := u
  try dsimp only at hw_2 hB
  obtain ⟨hP1, hK1, hD1⟩ := hB
  rw [htC] at hP1
  have hK1 := va_K.moved hvm.symm hK1
  obtain ⟨hP, hD⟩ := va_join (wr := [(zaL (rt 1) cT 36 ft1), (zaL (rt 2) cT 36 ft2), (zaR hO cHO 8 (fun i => if i < 8 then some (rh i) else none)), (zaI (rh 0) cH 36 g0), (zaI (rh 1) cH 36 g1), (zaI (rh 2) cH 36 g2), (zaI (rh 3) cH 36 g3), (zaI (rh 4) cH 36 g4), (zaI (rh 5) cH 36 g5), (zaI (rh 6) cH 36 g6), (zaI (rh 7) cH 36 g7)]) (w1 := [(zo2lirrr ch ft fr dr tO hO), (zaI dr cD 36 fD9_3), (zaR tO cTO 3 (fun i => if i < 3 then some (rt i) else none)), (zaL (rt 0) cT 36 ft09_4), (zo10ririliiriririr sc aTp (nI ts) aHl (nI nh) (lN ee) mi sn aHs (nI n) aWk (nI wz) aBk (nI bz) aFc), (zaI aFc cFc 6 fFc9_5)]) hP hD [0, 1, 2, 3, 15, 16] [4, 5, 6, 7, 8, 9, 10, 11, 12, 13, 14] rfl rfl (by decide) (by decide) hk1 hFc hP1 hD1
  have hK := (hK.sub (tys' := [(cT, .long), (cT, .long), (cHO, .array .int), (cH, .int), (cH, .int), (cH, .int), (cH, .int), (cH, .int), (cH, .int), (cH, .int), (cH, .int)]) [3, 4, 5, 6, 7, 8, 9, 10, 11, 12, 13] rfl).app hK1
  generalize H1 = H at hP hS ⊢
  have hP : va_P (dC, dI) vwCl [(zaL (rt 1) cT 36 ft1), (zaL (rt 2) cT 36 ft2), (zaR hO cHO 8 (fun i => if i < 8 then some (rh i) else none)), (zaI (rh 0) cH 36 g0), (zaI (rh 1) cH 36 g1), (zaI (rh 2) cH 36 g2), (zaI (rh 3) cH 36 g3), (zaI (rh 4) cH 36 g4), (zaI (rh 5) cH 36 g5), (zaI (rh 6) cH 36 g6), (zaI (rh 7) cH 36 g7), (zo2lirrr ch ft fr dr tO hO), (zaI dr cD 36 fD9_3), (zaR tO cTO 3 (fun i => if i < 3 then some (rt i) else none)), (zaL (rt 0) cT 36 ft09_4), (zo10ririliiriririr sc aTp (nI ts) aHl (nI nh) (lN ee) mi sn aHs (nI n) aWk (nI wz) aBk (nI bz) aFc), (zaI aFc cFc 6 fFc9_5)] H := hP
  have hD : va_D A [(zaL (rt 1) cT 36 ft1), (zaL (rt 2) cT 36 ft2), (zaR hO cHO 8 (fun i => if i < 8 then some (rh i) else none)), (zaI (rh 0) cH 36 g0), (zaI (rh 1) cH 36 g1), (zaI (rh 2) cH 36 g2), (zaI (rh 3) cH 36 g3), (zaI (rh 4) cH 36 g4), (zaI (rh 5) cH 36 g5), (zaI (rh 6) cH 36 g6), (zaI (rh 7) cH 36 g7), (zo2lirrr ch ft fr dr tO hO), (zaI dr cD 36 fD9_3), (zaR tO cTO 3 (fun i => if i < 3 then some (rt i) else none)), (zaL (rt 0) cT 36 ft09_4), (zo10ririliiriririr sc aTp (nI ts) aHl (nI nh) (lN ee) mi sn aHs (nI n) aWk (nI wz) aBk (nI bz) aFc), (zaI aFc cFc 6 fFc9_5)] := hD
  have hK : va_K (dC, dI) vwCl [(cT, .long), (cT, .long), (cHO, .array .int), (cH, .int), (cH, .int), (cH, .int), (cH, .int), (cH, .int), (cH, .int), (cH, .int), (cH, .int), (cD, .int), (cTO, .array .long), (cT, .long), (cFc, .int)] s := hK
  obtain ⟨hd0, hb0⟩ := hw_2
  have hw3 : WfC cz ∧ w3 cz ≤ 1000 := ⟨zHC.2, by have := w3_len cz; have := zHC.1.1; omega⟩
  have hd5 : ∀ c9, c9 < 36 → drN cz mi sn c9 ≤ 5 := fun c9 _ => (dr_ok hw3.1 hw3.2 c9).2
  have hdr : ∀ k0, k0 < 36 → fD9_3 k0 = nI (drN cz mi sn k0) ∧ drN cz mi sn k0 ≤ 5 := fun k0 h0 => by rw [hd0 k0 h0]; exact dr_ok hw3.1 hw3.2 k0
  have hT0 : lnA ft09_4 (ttN cz mi sn ee j 0 0) := hb0
  refine lv_aload_n hx hb dX0_search_6 rfl (lv_at hl 0 rfl) ?_
  refine lv_aload_n hx hb dX0_search_7 rfl (lv_at hl 1 rfl) ?_
  refine lv_lload_n hx hb dX0_search_8 rfl (lv_at hl 3 rfl) ?_
  have hPc := hP.sub (ws' := [(zo2lirrr ch ft fr dr tO hO), (zaI dr cD 36 fD9_3), (zaR hO cHO 8 (fun i => if i < 8 then some (rh i) else none)), (zaI (rh 0) cH 36 g0), (zaI (rh 1) cH 36 g1), (zaI (rh 2) cH 36 g2), (zaI (rh 3) cH 36 g3), (zaI (rh 4) cH 36 g4), (zaI (rh 5) cH 36 g5), (zaI (rh 6) cH 36 g6), (zaI (rh 7) cH 36 g7), (zo10ririliiriririr sc aTp (nI ts) aHl (nI nh) (lN ee) mi sn aHs (nI n) aWk (nI wz) aBk (nI bz) aFc)]) [11, 12, 2, 3, 4, 5, 6, 7, 8, 9, 10, 15] rfl
  have hDc := hD.sub (ws' := [(zo2lirrr ch ft fr dr tO hO), (zaI dr cD 36 fD9_3), (zaR hO cHO 8 (fun i => if i < 8 then some (rh i) else none)), (zaI (rh 0) cH 36 g0), (zaI (rh 1) cH 36 g1), (zaI (rh 2) cH 36 g2), (zaI (rh 3) cH 36 g3), (zaI (rh 4) cH 36 g4), (zaI (rh 5) cH 36 g5), (zaI (rh 6) cH 36 g6), (zaI (rh 7) cH 36 g7), (zo10ririliiriririr sc aTp (nI ts) aHl (nI nh) (lN ee) mi sn aHs (nI n) aWk (nI wz) aBk (nI bz) aFc)]) [11, 12, 2, 3, 4, 5, 6, 7, 8, 9, 10, 15] (by decide) rfl
  have hKc := hK.sub (tys' := [(cD, .int), (cHO, .array .int), (cH, .int), (cH, .int), (cH, .int), (cH, .int), (cH, .int), (cH, .int), (cH, .int), (cH, .int)]) [11, 2, 3, 4, 5, 6, 7, 8, 9, 10] rfl
  have hFc := va_free (wc := [(zo2lirrr ch ft fr dr tO hO), (zaI dr cD 36 fD9_3), (zaR hO cHO 8 (fun i => if i < 8 then some (rh i) else none)), (zaI (rh 0) cH 36 g0), (zaI (rh 1) cH 36 g1), (zaI (rh 2) cH 36 g2), (zaI (rh 3) cH 36 g3), (zaI (rh 4) cH 36 g4), (zaI (rh 5) cH 36 g5), (zaI (rh 6) cH 36 g6), (zaI (rh 7) cH 36 g7), (zo10ririliiriririr sc aTp (nI ts) aHl (nI nh) (lN ee) mi sn aHs (nI n) aWk (nI wz) aBk (nI bz) aFc)]) hD hS hA [11, 12, 2, 3, 4, 5, 6, 7, 8, 9, 10, 15] rfl
  refine va_callv (va_runV (As := [.ref sc, .long (lN ma)]) (rest := []) ⟨hx, hb, hml, hown, hts⟩ (c_xTellHits l dC dI gd sc ch aTp aHl aHs aWk aBk aFc dr tO hO ts nh n wz bz i mi sn fr ft cD cHO cH fD9_3 g0 g1 g2 g3 g4 g5 g6 g7 rh ee ma (drN cz mi sn) H.size (hma) (hdr) (hee)) (cwV 2 hts gX0_search_X0_tellHits rfl rfl rfl hd_yX0_tellHits ⟨Nat.le_of_ble_eq_true rfl, Nat.le_of_ble_eq_true rfl⟩) ⟨fun a U g mk q => by obtain ⟨q0, q1, qP, qK, qD, qhG⟩ := q; exact ⟨q0, mvz g mk a q1, mvP g mk a qP, mvK g mk a qK, qD, qhG.mv g mk a⟩, va_recv hK hP (ci := 2) (q := (RX0, TX0, 5)) (q0 := 11) rfl rfl, fun U hU hW => ⟨rfl, by rw [hU], by rw [hU]; exact hPc, va_K.moved hW.alike hKc, hDc.weaken (fun _ _ _ _ => trivial), hG.call hS hU hW (fun q h => hFc q h)⟩⟩ rfl rfl hl.1 rfl (lv_room (Nat.le_of_ble_eq_true rfl)) dX0_search_9 ⟨Nat.le_of_ble_eq_true rfl, Nat.le_of_ble_eq_true rfl⟩) hS (fun q _ h => hFc q h) hFc (fun u tC H1 locs htC hvm hw_7 hB hz1 hk1 hS => ?_)
  obtain ⟨g09_8, g19_9, g29_10, g39_11, g49_12, g59_13, g69_14, g79_15⟩ := u
  try dsimp only at hw_7 hB
  obtain ⟨hP1, hK1, hD1⟩ := hB
  rw [htC] at hP1
  have hK1 := va_K.moved hvm.symm hK1
  obtain ⟨hP, hD⟩ := va_join (wr := [(zaL (rt 1) cT 36 ft1), (zaL (rt 2) cT 36 ft2), (zaR tO cTO 3 (fun i => if i < 3 then some (rt i) else none)), (zaL (rt 0) cT 36 ft09_4), (zaI aFc cFc 6 fFc9_5)]) (w1 := [(zo2lirrr ch ft fr dr tO hO), (zaI dr cD 36 fD9_3), (zaR hO cHO 8 (fun i => if i < 8 then some (rh i) else none)), (zaI (rh 0) cH 36 g09_8), (zaI (rh 1) cH 36 g19_9), (zaI (rh 2) cH 36 g29_10), (zaI (rh 3) cH 36 g39_11), (zaI (rh 4) cH 36 g49_12), (zaI (rh 5) cH 36 g59_13), (zaI (rh 6) cH 36 g69_14), (zaI (rh 7) cH 36 g79_15), (zo10ririliiriririr sc aTp (nI ts) aHl (nI nh) (lN ee) mi sn aHs (nI n) aWk (nI wz) aBk (nI bz) aFc)]) hP hD [11, 12, 2, 3, 4, 5, 6, 7, 8, 9, 10, 15] [0, 1, 13, 14, 16] rfl rfl (by decide) (by decide) hk1 hFc hP1 hD1
  have hK := (hK.sub (tys' := [(cT, .long), (cT, .long), (cTO, .array .long), (cT, .long), (cFc, .int)]) [0, 1, 12, 13, 14] rfl).app hK1
  generalize H1 = H at hP hS ⊢
  have hP : va_P (dC, dI) vwCl [(zaL (rt 1) cT 36 ft1), (zaL (rt 2) cT 36 ft2), (zaR tO cTO 3 (fun i => if i < 3 then some (rt i) else none)), (zaL (rt 0) cT 36 ft09_4), (zaI aFc cFc 6 fFc9_5), (zo2lirrr ch ft fr dr tO hO), (zaI dr cD 36 fD9_3), (zaR hO cHO 8 (fun i => if i < 8 then some (rh i) else none)), (zaI (rh 0) cH 36 g09_8), (zaI (rh 1) cH 36 g19_9), (zaI (rh 2) cH 36 g29_10), (zaI (rh 3) cH 36 g39_11), (zaI (rh 4) cH 36 g49_12), (zaI (rh 5) cH 36 g59_13), (zaI (rh 6) cH 36 g69_14), (zaI (rh 7) cH 36 g79_15), (zo10ririliiriririr sc aTp (nI ts) aHl (nI nh) (lN ee) mi sn aHs (nI n) aWk (nI wz) aBk (nI bz) aFc)] H := hP
  have hD : va_D A [(zaL (rt 1) cT 36 ft1), (zaL (rt 2) cT 36 ft2), (zaR tO cTO 3 (fun i => if i < 3 then some (rt i) else none)), (zaL (rt 0) cT 36 ft09_4), (zaI aFc cFc 6 fFc9_5), (zo2lirrr ch ft fr dr tO hO), (zaI dr cD 36 fD9_3), (zaR hO cHO 8 (fun i => if i < 8 then some (rh i) else none)), (zaI (rh 0) cH 36 g09_8), (zaI (rh 1) cH 36 g19_9), (zaI (rh 2) cH 36 g29_10), (zaI (rh 3) cH 36 g39_11), (zaI (rh 4) cH 36 g49_12), (zaI (rh 5) cH 36 g59_13), (zaI (rh 6) cH 36 g69_14), (zaI (rh 7) cH 36 g79_15), (zo10ririliiriririr sc aTp (nI ts) aHl (nI nh) (lN ee) mi sn aHs (nI n) aWk (nI wz) aBk (nI bz) aFc)] := hD
  have hK : va_K (dC, dI) vwCl [(cT, .long), (cT, .long), (cTO, .array .long), (cT, .long), (cFc, .int), (cD, .int), (cHO, .array .int), (cH, .int), (cH, .int), (cH, .int), (cH, .int), (cH, .int), (cH, .int), (cH, .int), (cH, .int)] s := hK
  obtain ⟨hh0, hh1, hh2, hh3, hh4, hh5, hh6, hh7⟩ := hw_7
  refine lv_aload_n hx hb dX0_search_12 rfl (lv_at hl 0 rfl) ?_
  refine lv_ldc2 (v := (-1)) hx hb hown (hts (.constantLong RX0 64 (-1)) kc_xSearch3_0) dX0_search_13 ?_
  refine va_put (D := (dC, dI)) (ci := 2) (v := .long (-1)) (ty := .long) (C := RX0) (T := TX0) (N := 5) hx hb hts kc_xSearch3_1 tyX0 tyX0_ok nmX0 hown hK hP hD hS 5 rfl rfl 0 (by decide) (hts (.fieldLink RX0 66 "MistHeaps$Chances" "foundTimes" "J") kc_xSearch3_2) (fun _ h9 => h9) rfl (by decide +kernel) rfl rfl (Nat.le_of_ble_eq_true rfl) dX0_search_16 (fun H locs hP hD hS => ?_)
  have hP : va_P (dC, dI) vwCl [(zaL (rt 1) cT 36 ft1), (zaL (rt 2) cT 36 ft2), (zaR tO cTO 3 (fun i => if i < 3 then some (rt i) else none)), (zaL (rt 0) cT 36 ft09_4), (zaI aFc cFc 6 fFc9_5), (zo2lirrr ch (-1) fr dr tO hO), (zaI dr cD 36 fD9_3), (zaR hO cHO 8 (fun i => if i < 8 then some (rh i) else none)), (zaI (rh 0) cH 36 g09_8), (zaI (rh 1) cH 36 g19_9), (zaI (rh 2) cH 36 g29_10), (zaI (rh 3) cH 36 g39_11), (zaI (rh 4) cH 36 g49_12), (zaI (rh 5) cH 36 g59_13), (zaI (rh 6) cH 36 g69_14), (zaI (rh 7) cH 36 g79_15), (zo10ririliiriririr sc aTp (nI ts) aHl (nI nh) (lN ee) mi sn aHs (nI n) aWk (nI wz) aBk (nI bz) aFc)] H := hP
  have hD : va_D A [(zaL (rt 1) cT 36 ft1), (zaL (rt 2) cT 36 ft2), (zaR tO cTO 3 (fun i => if i < 3 then some (rt i) else none)), (zaL (rt 0) cT 36 ft09_4), (zaI aFc cFc 6 fFc9_5), (zo2lirrr ch (-1) fr dr tO hO), (zaI dr cD 36 fD9_3), (zaR hO cHO 8 (fun i => if i < 8 then some (rh i) else none)), (zaI (rh 0) cH 36 g09_8), (zaI (rh 1) cH 36 g19_9), (zaI (rh 2) cH 36 g29_10), (zaI (rh 3) cH 36 g39_11), (zaI (rh 4) cH 36 g49_12), (zaI (rh 5) cH 36 g59_13), (zaI (rh 6) cH 36 g69_14), (zaI (rh 7) cH 36 g79_15), (zo10ririliiriririr sc aTp (nI ts) aHl (nI nh) (lN ee) mi sn aHs (nI n) aWk (nI wz) aBk (nI bz) aFc)] := hD
  refine lv_iload hx hb dX0_search_19 (lv_at hl 4 rfl) ?_
  refine lv_iconst (v := 1) hx hb dX0_search_21 (by decide) ?_
  refine lv_isub hx hb dX0_search_22 ?_
  refine qi_as (y := 2) (by decide) ?_
  refine lv_istore (lv' := [(6, .int 2), (0, .ref ch), (1, .ref sc), (2, .int (nI j)), (3, .long (lN ma)), (5, .int 3)]) hx hb dX0_search_23 hl (by decide) rfl (fun ls hl => ?_)
  refine lv_iconst (v := 0) hx hb dX0_search_25 (by decide) ?_
  refine lv_istore (lv' := [(7, .int 0), (6, .int 2), (0, .ref ch), (1, .ref sc), (2, .int (nI j)), (3, .long (lN ma)), (5, .int 3)]) hx hb dX0_search_26 hl (by decide) rfl (fun ls hl => ?_)
  have L28 : ∀ (nF : Nat) (r : Nat) (ftb : Int64) (frb : Int32) (f1b : Nat → Int64) (f2b : Nat → Int64), 64 - r < nF → (r ≤ 64) → (fmJ (srU cz mi sn ee j 3 ma) (r * 8) ftb frb) → (r % 8 = 0 ∨ lnA f1b (ttN cz mi sn ee j 1 (r / 8))) → ∀ (H : Heap) (locs : List Loc), va_K (dC, dI) vwCl [(cD, .int), (cTO, .array .long), (cT, .long), (cT, .long), (cT, .long), (cHO, .array .int), (cH, .int), (cH, .int), (cH, .int), (cH, .int), (cH, .int), (cH, .int), (cH, .int), (cH, .int), (cFc, .int)] s → va_P (dC, dI) vwCl [(zo2lirrr ch ftb frb dr tO hO), (zaI dr cD 36 fD9_3), (zaR tO cTO 3 (fun i => if i < 3 then some (rt i) else none)), (zaL (rt 0) cT 36 ft09_4), (zaL (rt 1) cT 36 f1b), (zaL (rt 2) cT 36 f2b), (zaR hO cHO 8 (fun i => if i < 8 then some (rh i) else none)), (zaI (rh 0) cH 36 g09_8), (zaI (rh 1) cH 36 g19_9), (zaI (rh 2) cH 36 g29_10), (zaI (rh 3) cH 36 g39_11), (zaI (rh 4) cH 36 g49_12), (zaI (rh 5) cH 36 g59_13), (zaI (rh 6) cH 36 g69_14), (zaI (rh 7) cH 36 g79_15), (zo10ririliiriririr sc aTp (nI ts) aHl (nI nh) (lN ee) mi sn aHs (nI n) aWk (nI wz) aBk (nI bz) aFc), (zaI aFc cFc 6 fFc9_5)] H → va_D A [(zo2lirrr ch ftb frb dr tO hO), (zaI dr cD 36 fD9_3), (zaR tO cTO 3 (fun i => if i < 3 then some (rt i) else none)), (zaL (rt 0) cT 36 ft09_4), (zaL (rt 1) cT 36 f1b), (zaL (rt 2) cT 36 f2b), (zaR hO cHO 8 (fun i => if i < 8 then some (rh i) else none)), (zaI (rh 0) cH 36 g09_8), (zaI (rh 1) cH 36 g19_9), (zaI (rh 2) cH 36 g29_10), (zaI (rh 3) cH 36 g39_11), (zaI (rh 4) cH 36 g49_12), (zaI (rh 5) cH 36 g59_13), (zaI (rh 6) cH 36 g69_14), (zaI (rh 7) cH 36 g79_15), (zo10ririliiriririr sc aTp (nI ts) aHl (nI nh) (lN ee) mi sn aHs (nI n) aWk (nI wz) aBk (nI bz) aFc), (zaI aFc cFc 6 fFc9_5)] → va_S A s.heap H locs → ∀ (ls : Array Slot), lv_has ls 11 [(0, .ref ch), (1, .ref sc), (2, .int (nI j)), (3, .long (lN ma)), (5, .int 3), (6, .int 2), (7, .int (nI r))] → W p l e ({ frames := 5, cells := 0, slots := 0, locals := 117 } : Room) s m args below meth c H locs 0 0 Q (F0 m 28 ls []) := by
    intro nF
    induction nF with
    | zero => intro r ftb frb f1b f2b hm; exact absurd hm (Nat.not_lt_zero _)
    | succ nF ih28 =>
      intro r ftb frb f1b f2b hm hrb hJ9 hM9 H locs hK hP hD hS ls hl
      refine lv_iload hx hb dX0_search_28 (lv_at hl 6 rfl) ?_
      refine lv_iconst (v := 1) hx hb dX0_search_30 (by decide) ?_
      refine lv_iconst (v := 3) hx hb dX0_search_31 (by decide) ?_
      refine lv_iload hx hb dX0_search_32 (lv_at hl 5 rfl) ?_
      refine lv_imul hx hb dX0_search_34 ?_
      refine qi_as (y := 6) (by decide) ?_
      refine lv_ishl hx hb dX0_search_35 ?_
      refine qi_as (y := 64) (by decide) ?_
      refine lv_icmp_ge (tgt := 138) hx hb dX0_search_36 (by decide) (fun c_16 => ?_) (fun c_16 => ?_)
      · skip
        have c_16 : 64 ≤ r := (nI_leI (a := 64) (b := r) (by omega) (by omega)).mp c_16
        rw [hQ]
        have hP9 := hP.sub (ws' := [(zo2lirrr ch ftb frb dr tO hO), (zaI dr cD 36 fD9_3), (zaR tO cTO 3 (fun i => if i < 3 then some (rt i) else none)), (zaL (rt 0) cT 36 ft09_4), (zaL (rt 1) cT 36 f1b), (zaL (rt 2) cT 36 f2b), (zaR hO cHO 8 (fun i => if i < 8 then some (rh i) else none)), (zaI (rh 0) cH 36 g09_8), (zaI (rh 1) cH 36 g19_9), (zaI (rh 2) cH 36 g29_10), (zaI (rh 3) cH 36 g39_11), (zaI (rh 4) cH 36 g49_12), (zaI (rh 5) cH 36 g59_13), (zaI (rh 6) cH 36 g69_14), (zaI (rh 7) cH 36 g79_15), (zo10ririliiriririr sc aTp (nI ts) aHl (nI nh) (lN ee) mi sn aHs (nI n) aWk (nI wz) aBk (nI bz) aFc), (zaI aFc cFc 6 fFc9_5)]) [0, 1, 2, 3, 4, 5, 6, 7, 8, 9, 10, 11, 12, 13, 14, 15, 16] rfl
        have hD9 := hD.sub (ws' := [(zo2lirrr ch ftb frb dr tO hO), (zaI dr cD 36 fD9_3), (zaR tO cTO 3 (fun i => if i < 3 then some (rt i) else none)), (zaL (rt 0) cT 36 ft09_4), (zaL (rt 1) cT 36 f1b), (zaL (rt 2) cT 36 f2b), (zaR hO cHO 8 (fun i => if i < 8 then some (rh i) else none)), (zaI (rh 0) cH 36 g09_8), (zaI (rh 1) cH 36 g19_9), (zaI (rh 2) cH 36 g29_10), (zaI (rh 3) cH 36 g39_11), (zaI (rh 4) cH 36 g49_12), (zaI (rh 5) cH 36 g59_13), (zaI (rh 6) cH 36 g69_14), (zaI (rh 7) cH 36 g79_15), (zo10ririliiriririr sc aTp (nI ts) aHl (nI nh) (lN ee) mi sn aHs (nI n) aWk (nI wz) aBk (nI bz) aFc), (zaI aFc cFc 6 fFc9_5)]) [0, 1, 2, 3, 4, 5, 6, 7, 8, 9, 10, 11, 12, 13, 14, 15, 16] (by decide) rfl
        have hK9 := hK.sub (tys' := [(cD, .int), (cTO, .array .long), (cT, .long), (cT, .long), (cT, .long), (cHO, .array .int), (cH, .int), (cH, .int), (cH, .int), (cH, .int), (cH, .int), (cH, .int), (cH, .int), (cH, .int), (cFc, .int)]) [0, 1, 2, 3, 4, 5, 6, 7, 8, 9, 10, 11, 12, 13, 14] rfl
        exact W.vret hx hb hr (fun tQ htQ hWQ => ⟨⟨(ftb, frb, fD9_3, ft09_4, f1b, f2b, g09_8, g19_9, g29_10, g39_11, g49_12, g59_13, g69_14, g79_15, fFc9_5), rfl, by rw [show r = 64 by omega] at hJ9; exact hJ9, by rw [htQ]; exact hP9, va_K.moved hWQ.alike hK9, hD9⟩, hS.F htQ⟩) hS.2.2 dX0_search_138
      · skip
        have c_16 : ¬ 64 ≤ r := fun q => c_16 ((nI_leI (a := 64) (b := r) (by omega) (by omega)).mpr q)
        refine lv_iconst (v := 0) hx hb dX0_search_39 (by decide) ?_
        refine lv_istore (lv' := [(8, .int 0), (0, .ref ch), (1, .ref sc), (2, .int (nI j)), (3, .long (lN ma)), (5, .int 3), (6, .int 2), (7, .int (nI r))]) hx hb dX0_search_40 hl (by decide) rfl (fun ls hl => ?_)
        refine lv_iload hx hb dX0_search_42 (lv_at hl 0 rfl) ?_
        refine lv_iload hx hb dX0_search_44 (lv_at hl 6 rfl) ?_
        refine lv_icmp_ge (tgt := 119) hx hb dX0_search_46 (by decide) (fun c_17 => absurd c_17 (by decide)) (fun _ => ?_)
        refine lv_iconst (v := 3) hx hb dX0_search_49 (by decide) ?_
        refine lv_iload hx hb dX0_search_50 (lv_at hl 6 rfl) ?_
        refine lv_iconst (v := 1) hx hb dX0_search_52 (by decide) ?_
        refine lv_isub hx hb dX0_search_53 ?_
        refine qi_as (y := 1) (by decide) ?_
        refine lv_iload hx hb dX0_search_54 (lv_at hl 0 rfl) ?_
        refine lv_isub hx hb dX0_search_56 ?_
        refine qi_as (y := 1) (by decide) ?_
        refine lv_imul hx hb dX0_search_57 ?_
        refine qi_as (y := 3) (by decide) ?_
        refine lv_istore (lv' := [(9, .int 3), (8, .int 0), (0, .ref ch), (1, .ref sc), (2, .int (nI j)), (3, .long (lN ma)), (5, .int 3), (6, .int 2), (7, .int (nI r))]) hx hb dX0_search_58 hl (by decide) rfl (fun ls hl => ?_)
        refine lv_iload hx hb dX0_search_60 (lv_at hl 8 rfl) ?_
        refine lv_iconst (v := 1) hx hb dX0_search_62 (by decide) ?_
        refine lv_iload hx hb dX0_search_63 (lv_at hl 0 rfl) ?_
        refine lv_ishl hx hb dX0_search_65 ?_
        refine qi_as (y := 8) (by decide) ?_
        refine lv_iconst (v := 1) hx hb dX0_search_66 (by decide) ?_
        refine lv_isub hx hb dX0_search_67 ?_
        refine qi_as (y := 7) (by decide) ?_
        refine lv_iand hx hb dX0_search_68 ?_
        refine qi_as (y := nI (r % 8)) (and7n r (by omega)) ?_
        refine lv_if_ne (tgt := 76) hx hb dX0_search_69 (by decide) (fun c_18 => ?_) (fun c_18 => ?_)
        · skip
          have c_18 : ¬ (r % 8) = 0 := fun q => c_18 ((nI_eq (a := (r % 8)) (b := 0) (by omega) (by omega)).mpr q)
          have hT1 := hM9.resolve_left (show ¬ r % 8 = 0 by omega)
          refine lv_iconst (v := 0) hx hb dX0_search_76 (by decide) ?_
          refine lv_istore (lv' := [(10, .int 0), (9, .int 3), (8, .int 0), (0, .ref ch), (1, .ref sc), (2, .int (nI j)), (3, .long (lN ma)), (5, .int 3), (6, .int 2), (7, .int (nI r))]) hx hb dX0_search_77 hl (by decide) rfl (fun ls hl => ?_)
          refine lv_iload hx hb dX0_search_79 (lv_at hl 0 rfl) ?_
          refine lv_if_eq (tgt := 113) hx hb dX0_search_81 (by decide) (fun _ => ?_) (fun c_19 => absurd c_19 (by decide))
          refine lv_iinc (v := 1) (lv' := [(8, .int 1), (10, .int 0), (9, .int 3), (0, .ref ch), (1, .ref sc), (2, .int (nI j)), (3, .long (lN ma)), (5, .int 3), (6, .int 2), (7, .int (nI r))]) hx hb dX0_search_113 hl (k := 2) rfl (by decide) (by decide) rfl (fun ls hl => ?_)
          refine lv_goto (tgt := 42) hx hb dX0_search_116 (by decide) ?_
          refine lv_iload hx hb dX0_search_42 (lv_at hl 0 rfl) ?_
          refine lv_iload hx hb dX0_search_44 (lv_at hl 8 rfl) ?_
          refine lv_icmp_ge (tgt := 119) hx hb dX0_search_46 (by decide) (fun c_20 => absurd c_20 (by decide)) (fun _ => ?_)
          refine lv_iconst (v := 3) hx hb dX0_search_49 (by decide) ?_
          refine lv_iload hx hb dX0_search_50 (lv_at hl 8 rfl) ?_
          refine lv_iconst (v := 1) hx hb dX0_search_52 (by decide) ?_
          refine lv_isub hx hb dX0_search_53 ?_
          refine qi_as (y := 1) (by decide) ?_
          refine lv_iload hx hb dX0_search_54 (lv_at hl 0 rfl) ?_
          refine lv_isub hx hb dX0_search_56 ?_
          refine qi_as (y := 0) (by decide) ?_
          refine lv_imul hx hb dX0_search_57 ?_
          refine qi_as (y := 0) (by decide) ?_
          refine lv_istore (lv' := [(9, .int 0), (8, .int 1), (10, .int 0), (0, .ref ch), (1, .ref sc), (2, .int (nI j)), (3, .long (lN ma)), (5, .int 3), (6, .int 2), (7, .int (nI r))]) hx hb dX0_search_58 hl (by decide) rfl (fun ls hl => ?_)
          refine lv_iload hx hb dX0_search_60 (lv_at hl 9 rfl) ?_
          refine lv_iconst (v := 1) hx hb dX0_search_62 (by decide) ?_
          refine lv_iload hx hb dX0_search_63 (lv_at hl 0 rfl) ?_
          refine lv_ishl hx hb dX0_search_65 ?_
          refine qi_as (y := 1) (by decide) ?_
          refine lv_iconst (v := 1) hx hb dX0_search_66 (by decide) ?_
          refine lv_isub hx hb dX0_search_67 ?_
          refine qi_as (y := 0) (by decide) ?_
          refine lv_iand hx hb dX0_search_68 ?_
          refine qi_as (y := 0) (and0 _) ?_
          refine lv_if_ne (tgt := 76) hx hb dX0_search_69 (by decide) (fun c_21 => absurd c_21 (by decide)) (fun _ => ?_)
          refine lv_iconst (v := 1) hx hb dX0_search_72 (by decide) ?_
          refine lv_goto (tgt := 77) hx hb dX0_search_73 (by decide) ?_
          refine lv_istore (lv' := [(10, .int 1), (9, .int 0), (8, .int 1), (0, .ref ch), (1, .ref sc), (2, .int (nI j)), (3, .long (lN ma)), (5, .int 3), (6, .int 2), (7, .int (nI r))]) hx hb dX0_search_77 hl (by decide) rfl (fun ls hl => ?_)
          refine lv_iload hx hb dX0_search_79 (lv_at hl 0 rfl) ?_
          refine lv_if_eq (tgt := 113) hx hb dX0_search_81 (by decide) (fun c_22 => absurd c_22 (by decide)) (fun _ => ?_)
          refine lv_aload_n hx hb dX0_search_84 rfl (lv_at hl 3 rfl) ?_
          refine lv_aload_n hx hb dX0_search_85 rfl (lv_at hl 4 rfl) ?_
          refine lv_aload_n hx hb dX0_search_86 rfl (lv_at hl 3 rfl) ?_
          refine va_get (D := (dC, dI)) (ci := 2) (v := .ref tO) (C := RX0) (T := TX0) (N := 5) hx hb hts kc_xSearch3_1 hown hK hP 0 rfl rfl 3 (by decide) (hts (.fieldLink RX0 17 "MistHeaps$Chances" "times" "[[J") kc_xSearch3_3) (fun _ h9 => h9) rfl dX0_search_87 ?_
          refine lv_iload hx hb dX0_search_90 (lv_at hl 2 rfl) ?_
          refine va_alda hx hb hK hP 2 1 rfl rfl (vp_in_nI (n := 1) (N := 3) (by omega) (by omega)) dX0_search_92 ?_
          refine qq_as (v := .ref (rt 1)) (rfl) ?_
          refine lv_iload hx hb dX0_search_93 (lv_at hl 9 rfl) ?_
          refine lv_iload hx hb dX0_search_95 (lv_at hl 1 rfl) ?_
          refine lv_ishr hx hb dX0_search_97 ?_
          refine lv_bipush (v := 7) hx hb dX0_search_98 (by decide) ?_
          refine lv_iand hx hb dX0_search_100 ?_
          refine qi_as (y := nI (r % 8)) (sh_r0 r (by omega)) ?_
          refine lv_aload_n hx hb dX0_search_101 rfl (lv_at hl 3 rfl) ?_
          refine va_get (D := (dC, dI)) (ci := 2) (v := .ref tO) (C := RX0) (T := TX0) (N := 5) hx hb hts kc_xSearch3_1 hown hK hP 0 rfl rfl 3 (by decide) (hts (.fieldLink RX0 17 "MistHeaps$Chances" "times" "[[J") kc_xSearch3_3) (fun _ h9 => h9) rfl dX0_search_102 ?_
          refine lv_iload hx hb dX0_search_105 (lv_at hl 2 rfl) ?_
          refine lv_iconst (v := 1) hx hb dX0_search_107 (by decide) ?_
          refine lv_iadd hx hb dX0_search_108 ?_
          refine qi_as (y := 2) (by decide) ?_
          refine va_alda hx hb hK hP 2 1 rfl rfl (vp_in_nI (n := 2) (N := 3) (by omega) (by omega)) dX0_search_109 ?_
          refine qq_as (v := .ref (rt 2)) (rfl) ?_
          have hPc := hP.sub (ws' := [(zo2lirrr ch ftb frb dr tO hO), (zaI dr cD 36 fD9_3), (zo10ririliiriririr sc aTp (nI ts) aHl (nI nh) (lN ee) mi sn aHs (nI n) aWk (nI wz) aBk (nI bz) aFc), (zaL (rt 1) cT 36 f1b), (zaL (rt 2) cT 36 f2b)]) [0, 1, 15, 4, 5] rfl
          have hDc := hD.sub (ws' := [(zo2lirrr ch ftb frb dr tO hO), (zaI dr cD 36 fD9_3), (zo10ririliiriririr sc aTp (nI ts) aHl (nI nh) (lN ee) mi sn aHs (nI n) aWk (nI wz) aBk (nI bz) aFc), (zaL (rt 1) cT 36 f1b), (zaL (rt 2) cT 36 f2b)]) [0, 1, 15, 4, 5] (by decide) rfl
          have hKc := hK.sub (tys' := [(cD, .int), (cT, .long), (cT, .long)]) [0, 3, 4] rfl
          have hFc := va_free (wc := [(zo2lirrr ch ftb frb dr tO hO), (zaI dr cD 36 fD9_3), (zo10ririliiriririr sc aTp (nI ts) aHl (nI nh) (lN ee) mi sn aHs (nI n) aWk (nI wz) aBk (nI bz) aFc), (zaL (rt 1) cT 36 f1b), (zaL (rt 2) cT 36 f2b)]) hD hS hA [0, 1, 15, 4, 5] rfl
          refine va_callv (va_runV (As := [.ref sc, .ref (rt 1), .int (nI (r % 8)), .ref (rt 2)]) (rest := []) ⟨hx, hb, hml, hown, hts⟩ (c_xSpread l dC dI gd sc ch aTp aHl aHs aWk aBk aFc dr tO hO ts nh n wz bz (r % 8) mi sn frb ftb cD fD9_3 (rt 1) (rt 2) cT cT f1b f2b ee (ttN cz mi sn ee j 1 (r / 8)) (drN cz mi sn) H.size (by omega) (hT1) (tt_b hj36 hd5 (by omega)) (hdr) (hee)) (cwV 4 hts gX0_search_X0_spread rfl rfl rfl hd_yX0_spread ⟨Nat.le_of_ble_eq_true rfl, Nat.le_of_ble_eq_true rfl⟩) ⟨fun a U g mk q => by obtain ⟨q0, q1, qP, qK, qD, qhG⟩ := q; exact ⟨q0, mvz g mk a q1, mvP g mk a qP, mvK g mk a qK, qD, qhG.mv g mk a⟩, va_recv hK hP (ci := 2) (q := (RX0, TX0, 5)) (q0 := 0) rfl rfl, fun U hU hW => ⟨rfl, by rw [hU], by rw [hU]; exact hPc, va_K.moved hW.alike hKc, hDc.weaken (fun _ _ _ _ => trivial), hG.call hS hU hW (fun q h => hFc q h)⟩⟩ rfl rfl hl.1 rfl (lv_room (Nat.le_of_ble_eq_true rfl)) dX0_search_110 ⟨Nat.le_of_ble_eq_true rfl, Nat.le_of_ble_eq_true rfl⟩) hS (fun q _ h => hFc q h) hFc (fun u tC H1 locs htC hvm hw_24 hB hz1 hk1 hS => ?_)
          obtain ⟨tt9_25, rfl⟩ : ∃ z, z = u := ⟨_, rfl⟩
          try dsimp only at hw_24 hB
          obtain ⟨hP1, hK1, hD1⟩ := hB
          rw [htC] at hP1
          have hK1 := va_K.moved hvm.symm hK1
          obtain ⟨hP, hD⟩ := va_join (wr := [(zaR tO cTO 3 (fun i => if i < 3 then some (rt i) else none)), (zaL (rt 0) cT 36 ft09_4), (zaR hO cHO 8 (fun i => if i < 8 then some (rh i) else none)), (zaI (rh 0) cH 36 g09_8), (zaI (rh 1) cH 36 g19_9), (zaI (rh 2) cH 36 g29_10), (zaI (rh 3) cH 36 g39_11), (zaI (rh 4) cH 36 g49_12), (zaI (rh 5) cH 36 g59_13), (zaI (rh 6) cH 36 g69_14), (zaI (rh 7) cH 36 g79_15), (zaI aFc cFc 6 fFc9_5)]) (w1 := [(zo2lirrr ch ftb frb dr tO hO), (zaI dr cD 36 fD9_3), (zo10ririliiriririr sc aTp (nI ts) aHl (nI nh) (lN ee) mi sn aHs (nI n) aWk (nI wz) aBk (nI bz) aFc), (zaL (rt 1) cT 36 f1b), (zaL (rt 2) cT 36 tt9_25)]) hP hD [0, 1, 15, 4, 5] [2, 3, 6, 7, 8, 9, 10, 11, 12, 13, 14, 16] rfl rfl (by decide) (by decide) hk1 hFc hP1 hD1
          have hK := (hK.sub (tys' := [(cTO, .array .long), (cT, .long), (cHO, .array .int), (cH, .int), (cH, .int), (cH, .int), (cH, .int), (cH, .int), (cH, .int), (cH, .int), (cH, .int), (cFc, .int)]) [1, 2, 5, 6, 7, 8, 9, 10, 11, 12, 13, 14] rfl).app hK1
          generalize H1 = H at hP hS ⊢
          have hP : va_P (dC, dI) vwCl [(zaR tO cTO 3 (fun i => if i < 3 then some (rt i) else none)), (zaL (rt 0) cT 36 ft09_4), (zaR hO cHO 8 (fun i => if i < 8 then some (rh i) else none)), (zaI (rh 0) cH 36 g09_8), (zaI (rh 1) cH 36 g19_9), (zaI (rh 2) cH 36 g29_10), (zaI (rh 3) cH 36 g39_11), (zaI (rh 4) cH 36 g49_12), (zaI (rh 5) cH 36 g59_13), (zaI (rh 6) cH 36 g69_14), (zaI (rh 7) cH 36 g79_15), (zaI aFc cFc 6 fFc9_5), (zo2lirrr ch ftb frb dr tO hO), (zaI dr cD 36 fD9_3), (zo10ririliiriririr sc aTp (nI ts) aHl (nI nh) (lN ee) mi sn aHs (nI n) aWk (nI wz) aBk (nI bz) aFc), (zaL (rt 1) cT 36 f1b), (zaL (rt 2) cT 36 tt9_25)] H := hP
          have hD : va_D A [(zaR tO cTO 3 (fun i => if i < 3 then some (rt i) else none)), (zaL (rt 0) cT 36 ft09_4), (zaR hO cHO 8 (fun i => if i < 8 then some (rh i) else none)), (zaI (rh 0) cH 36 g09_8), (zaI (rh 1) cH 36 g19_9), (zaI (rh 2) cH 36 g29_10), (zaI (rh 3) cH 36 g39_11), (zaI (rh 4) cH 36 g49_12), (zaI (rh 5) cH 36 g59_13), (zaI (rh 6) cH 36 g69_14), (zaI (rh 7) cH 36 g79_15), (zaI aFc cFc 6 fFc9_5), (zo2lirrr ch ftb frb dr tO hO), (zaI dr cD 36 fD9_3), (zo10ririliiriririr sc aTp (nI ts) aHl (nI nh) (lN ee) mi sn aHs (nI n) aWk (nI wz) aBk (nI bz) aFc), (zaL (rt 1) cT 36 f1b), (zaL (rt 2) cT 36 tt9_25)] := hD
          have hK : va_K (dC, dI) vwCl [(cTO, .array .long), (cT, .long), (cHO, .array .int), (cH, .int), (cH, .int), (cH, .int), (cH, .int), (cH, .int), (cH, .int), (cH, .int), (cH, .int), (cFc, .int), (cD, .int), (cT, .long), (cT, .long)] s := hK
          have hT2 : lnA tt9_25 (ttN cz mi sn ee j 2 r) := by have e9 := tt_up (C := cz) (mi := mi) (sn := sn) (ee := ee) (j := j) (n := 1) (r := r / 8) (w := r % 8) (by omega); rw [show r / 8 * 8 + r % 8 = r by omega] at e9; rw [e9]; exact hw_24
          refine lv_iinc (v := 2) (lv' := [(8, .int 2), (10, .int 1), (9, .int 0), (0, .ref ch), (1, .ref sc), (2, .int (nI j)), (3, .long (lN ma)), (5, .int 3), (6, .int 2), (7, .int (nI r))]) hx hb dX0_search_113 hl (k := 2) rfl (by decide) (by decide) rfl (fun ls hl => ?_)
          refine lv_goto (tgt := 42) hx hb dX0_search_116 (by decide) ?_
          refine lv_iload hx hb dX0_search_42 (lv_at hl 0 rfl) ?_
          refine lv_iload hx hb dX0_search_44 (lv_at hl 8 rfl) ?_
          refine lv_icmp_ge (tgt := 119) hx hb dX0_search_46 (by decide) (fun _ => ?_) (fun c_26 => absurd c_26 (by decide))
          refine lv_aload_n hx hb dX0_search_119 rfl (lv_at hl 3 rfl) ?_
          refine lv_aload_n hx hb dX0_search_120 rfl (lv_at hl 3 rfl) ?_
          refine va_get (D := (dC, dI)) (ci := 2) (v := .ref tO) (C := RX0) (T := TX0) (N := 5) hx hb hts kc_xSearch3_1 hown hK hP 12 rfl rfl 3 (by decide) (hts (.fieldLink RX0 17 "MistHeaps$Chances" "times" "[[J") kc_xSearch3_3) (fun _ h9 => h9) rfl dX0_search_121 ?_
          refine lv_iload hx hb dX0_search_124 (lv_at hl 8 rfl) ?_
          refine va_alda hx hb hK hP 0 0 rfl rfl (vp_in_nI (n := 2) (N := 3) (by omega) (by omega)) dX0_search_126 ?_
          refine qq_as (v := .ref (rt 2)) (rfl) ?_
          refine lv_iload hx hb dX0_search_127 (lv_at hl 9 rfl) ?_
          have hPc := hP.sub (ws' := [(zo2lirrr ch ftb frb dr tO hO), (zaL (rt 2) cT 36 tt9_25), (zaR hO cHO 8 (fun i => if i < 8 then some (rh i) else none)), (zaI (rh 0) cH 36 g09_8), (zaI (rh 1) cH 36 g19_9), (zaI (rh 2) cH 36 g29_10), (zaI (rh 3) cH 36 g39_11), (zaI (rh 4) cH 36 g49_12), (zaI (rh 5) cH 36 g59_13), (zaI (rh 6) cH 36 g69_14), (zaI (rh 7) cH 36 g79_15)]) [12, 16, 2, 3, 4, 5, 6, 7, 8, 9, 10] rfl
          have hDc := hD.sub (ws' := [(zo2lirrr ch ftb frb dr tO hO), (zaL (rt 2) cT 36 tt9_25), (zaR hO cHO 8 (fun i => if i < 8 then some (rh i) else none)), (zaI (rh 0) cH 36 g09_8), (zaI (rh 1) cH 36 g19_9), (zaI (rh 2) cH 36 g29_10), (zaI (rh 3) cH 36 g39_11), (zaI (rh 4) cH 36 g49_12), (zaI (rh 5) cH 36 g59_13), (zaI (rh 6) cH 36 g69_14), (zaI (rh 7) cH 36 g79_15)]) [12, 16, 2, 3, 4, 5, 6, 7, 8, 9, 10] (by decide) rfl
          have hKc := hK.sub (tys' := [(cT, .long), (cHO, .array .int), (cH, .int), (cH, .int), (cH, .int), (cH, .int), (cH, .int), (cH, .int), (cH, .int), (cH, .int)]) [14, 2, 3, 4, 5, 6, 7, 8, 9, 10] rfl
          have hFc := va_free (wc := [(zo2lirrr ch ftb frb dr tO hO), (zaL (rt 2) cT 36 tt9_25), (zaR hO cHO 8 (fun i => if i < 8 then some (rh i) else none)), (zaI (rh 0) cH 36 g09_8), (zaI (rh 1) cH 36 g19_9), (zaI (rh 2) cH 36 g29_10), (zaI (rh 3) cH 36 g39_11), (zaI (rh 4) cH 36 g49_12), (zaI (rh 5) cH 36 g59_13), (zaI (rh 6) cH 36 g69_14), (zaI (rh 7) cH 36 g79_15)]) hD hS hA [12, 16, 2, 3, 4, 5, 6, 7, 8, 9, 10] rfl
          refine va_callv (va_runV (As := [.ref (rt 2), .int (nI r)]) (rest := []) ⟨hx, hb, hml, hown, hts⟩ (c_xTryLast l dC dI ch dr tO hO i r frb ftb cHO cH g09_8 g19_9 g29_10 g39_11 g49_12 g59_13 g69_14 g79_15 rh (rt 2) cT tt9_25 (ttN cz mi sn ee j 2 r) (srU cz mi sn ee j 3 ma) (htN (edB ee) (drN cz mi sn) ma) H.size (by omega) (hT2) (hh0) (hh1) (hh2) (hh3) (hh4) (hh5) (hh6) (hh7) (fun w9 k0 h0 => ht_b (hd5 k0 h0)) (fun w9 h9 => sr_U (n := 2) h9) (sr_b hj36 hd5 (by omega)) (hJ9)) (cwV 2 hts gX0_search_X0_tryLast rfl rfl rfl hd_yX0_tryLast ⟨Nat.le_of_ble_eq_true rfl, Nat.le_of_ble_eq_true rfl⟩) ⟨fun a U g mk q => by obtain ⟨q0, q1, qP, qK, qD⟩ := q; exact ⟨q0, mvz g mk a q1, mvP g mk a qP, mvK g mk a qK, qD⟩, va_recv hK hP (ci := 2) (q := (RX0, TX0, 5)) (q0 := 12) rfl rfl, fun U hU hW => ⟨rfl, by rw [hU], by rw [hU]; exact hPc, va_K.moved hW.alike hKc, hDc.weaken (fun _ _ _ _ => trivial)⟩⟩ rfl rfl hl.1 rfl (lv_room (Nat.le_of_ble_eq_true rfl)) dX0_search_129 ⟨Nat.le_of_ble_eq_true rfl, Nat.le_of_ble_eq_true rfl⟩) hS (fun q _ h => hFc q h) hFc (fun u tC H1 locs htC hvm hw_28 hB hz1 hk1 hS => ?_)
          obtain ⟨ft9_29, fr9_30⟩ := u
          try dsimp only at hw_28 hB
          obtain ⟨hP1, hK1, hD1⟩ := hB
          rw [htC] at hP1
          have hK1 := va_K.moved hvm.symm hK1
          obtain ⟨hP, hD⟩ := va_join (wr := [(zaR tO cTO 3 (fun i => if i < 3 then some (rt i) else none)), (zaL (rt 0) cT 36 ft09_4), (zaI aFc cFc 6 fFc9_5), (zaI dr cD 36 fD9_3), (zo10ririliiriririr sc aTp (nI ts) aHl (nI nh) (lN ee) mi sn aHs (nI n) aWk (nI wz) aBk (nI bz) aFc), (zaL (rt 1) cT 36 f1b)]) (w1 := [(zo2lirrr ch ft9_29 fr9_30 dr tO hO), (zaL (rt 2) cT 36 tt9_25), (zaR hO cHO 8 (fun i => if i < 8 then some (rh i) else none)), (zaI (rh 0) cH 36 g09_8), (zaI (rh 1) cH 36 g19_9), (zaI (rh 2) cH 36 g29_10), (zaI (rh 3) cH 36 g39_11), (zaI (rh 4) cH 36 g49_12), (zaI (rh 5) cH 36 g59_13), (zaI (rh 6) cH 36 g69_14), (zaI (rh 7) cH 36 g79_15)]) hP hD [12, 16, 2, 3, 4, 5, 6, 7, 8, 9, 10] [0, 1, 11, 13, 14, 15] rfl rfl (by decide) (by decide) hk1 hFc hP1 hD1
          have hK := (hK.sub (tys' := [(cTO, .array .long), (cT, .long), (cFc, .int), (cD, .int), (cT, .long)]) [0, 1, 11, 12, 13] rfl).app hK1
          generalize H1 = H at hP hS ⊢
          have hP : va_P (dC, dI) vwCl [(zaR tO cTO 3 (fun i => if i < 3 then some (rt i) else none)), (zaL (rt 0) cT 36 ft09_4), (zaI aFc cFc 6 fFc9_5), (zaI dr cD 36 fD9_3), (zo10ririliiriririr sc aTp (nI ts) aHl (nI nh) (lN ee) mi sn aHs (nI n) aWk (nI wz) aBk (nI bz) aFc), (zaL (rt 1) cT 36 f1b), (zo2lirrr ch ft9_29 fr9_30 dr tO hO), (zaL (rt 2) cT 36 tt9_25), (zaR hO cHO 8 (fun i => if i < 8 then some (rh i) else none)), (zaI (rh 0) cH 36 g09_8), (zaI (rh 1) cH 36 g19_9), (zaI (rh 2) cH 36 g29_10), (zaI (rh 3) cH 36 g39_11), (zaI (rh 4) cH 36 g49_12), (zaI (rh 5) cH 36 g59_13), (zaI (rh 6) cH 36 g69_14), (zaI (rh 7) cH 36 g79_15)] H := hP
          have hD : va_D A [(zaR tO cTO 3 (fun i => if i < 3 then some (rt i) else none)), (zaL (rt 0) cT 36 ft09_4), (zaI aFc cFc 6 fFc9_5), (zaI dr cD 36 fD9_3), (zo10ririliiriririr sc aTp (nI ts) aHl (nI nh) (lN ee) mi sn aHs (nI n) aWk (nI wz) aBk (nI bz) aFc), (zaL (rt 1) cT 36 f1b), (zo2lirrr ch ft9_29 fr9_30 dr tO hO), (zaL (rt 2) cT 36 tt9_25), (zaR hO cHO 8 (fun i => if i < 8 then some (rh i) else none)), (zaI (rh 0) cH 36 g09_8), (zaI (rh 1) cH 36 g19_9), (zaI (rh 2) cH 36 g29_10), (zaI (rh 3) cH 36 g39_11), (zaI (rh 4) cH 36 g49_12), (zaI (rh 5) cH 36 g59_13), (zaI (rh 6) cH 36 g69_14), (zaI (rh 7) cH 36 g79_15)] := hD
          have hK : va_K (dC, dI) vwCl [(cTO, .array .long), (cT, .long), (cFc, .int), (cD, .int), (cT, .long), (cT, .long), (cHO, .array .int), (cH, .int), (cH, .int), (cH, .int), (cH, .int), (cH, .int), (cH, .int), (cH, .int), (cH, .int)] s := hK
          have hJ8 := hw_28
          refine lv_iinc (v := nI (r + 1)) (lv' := [(7, .int (nI (r + 1))), (8, .int 2), (10, .int 1), (9, .int 0), (0, .ref ch), (1, .ref sc), (2, .int (nI j)), (3, .long (lN ma)), (5, .int 3), (6, .int 2)]) hx hb dX0_search_132 hl (k := 9) rfl (nI_add r 1) (by decide) rfl (fun ls hl => ?_)
          refine lv_goto (tgt := 28) hx hb dX0_search_135 (by decide) ?_
          exact ih28 (r + 1) (ft9_29) (fr9_30) (f1b) (tt9_25) (by omega) (by omega) (by rw [show (r + 1) * 8 = r * 8 + 8 by omega]; exact hJ8) (by by_cases z9 : (r + 1) % 8 = 0; exact Or.inl z9; (rw [show (r + 1) / 8 = r / 8 by omega]; exact Or.inr hT1)) _ _ (hK.sub [3, 0, 1, 4, 5, 6, 7, 8, 9, 10, 11, 12, 13, 14, 2] rfl) (hP.sub [6, 3, 0, 1, 5, 7, 8, 9, 10, 11, 12, 13, 14, 15, 16, 4, 2] rfl) (hD.sub [6, 3, 0, 1, 5, 7, 8, 9, 10, 11, 12, 13, 14, 15, 16, 4, 2] (by decide) rfl) hS ls (lv_sub hl [4, 5, 6, 7, 8, 9, 0] rfl)
        · skip
          have c_18 : (r % 8) = 0 := (nI_eq (a := (r % 8)) (b := 0) (by omega) (by omega)).mp c_18
          refine lv_iconst (v := 1) hx hb dX0_search_72 (by decide) ?_
          refine lv_goto (tgt := 77) hx hb dX0_search_73 (by decide) ?_
          refine lv_istore (lv' := [(10, .int 1), (9, .int 3), (8, .int 0), (0, .ref ch), (1, .ref sc), (2, .int (nI j)), (3, .long (lN ma)), (5, .int 3), (6, .int 2), (7, .int (nI r))]) hx hb dX0_search_77 hl (by decide) rfl (fun ls hl => ?_)
          refine lv_iload hx hb dX0_search_79 (lv_at hl 0 rfl) ?_
          refine lv_if_eq (tgt := 113) hx hb dX0_search_81 (by decide) (fun c_31 => absurd c_31 (by decide)) (fun _ => ?_)
          refine lv_aload_n hx hb dX0_search_84 rfl (lv_at hl 3 rfl) ?_
          refine lv_aload_n hx hb dX0_search_85 rfl (lv_at hl 4 rfl) ?_
          refine lv_aload_n hx hb dX0_search_86 rfl (lv_at hl 3 rfl) ?_
          refine va_get (D := (dC, dI)) (ci := 2) (v := .ref tO) (C := RX0) (T := TX0) (N := 5) hx hb hts kc_xSearch3_1 hown hK hP 0 rfl rfl 3 (by decide) (hts (.fieldLink RX0 17 "MistHeaps$Chances" "times" "[[J") kc_xSearch3_3) (fun _ h9 => h9) rfl dX0_search_87 ?_
          refine lv_iload hx hb dX0_search_90 (lv_at hl 2 rfl) ?_
          refine va_alda hx hb hK hP 2 1 rfl rfl (vp_in_nI (n := 0) (N := 3) (by omega) (by omega)) dX0_search_92 ?_
          refine qq_as (v := .ref (rt 0)) (rfl) ?_
          refine lv_iload hx hb dX0_search_93 (lv_at hl 9 rfl) ?_
          refine lv_iload hx hb dX0_search_95 (lv_at hl 1 rfl) ?_
          refine lv_ishr hx hb dX0_search_97 ?_
          refine lv_bipush (v := 7) hx hb dX0_search_98 (by decide) ?_
          refine lv_iand hx hb dX0_search_100 ?_
          refine qi_as (y := nI (r / 8 % 8)) (sh_r3 r (by omega)) ?_
          refine lv_aload_n hx hb dX0_search_101 rfl (lv_at hl 3 rfl) ?_
          refine va_get (D := (dC, dI)) (ci := 2) (v := .ref tO) (C := RX0) (T := TX0) (N := 5) hx hb hts kc_xSearch3_1 hown hK hP 0 rfl rfl 3 (by decide) (hts (.fieldLink RX0 17 "MistHeaps$Chances" "times" "[[J") kc_xSearch3_3) (fun _ h9 => h9) rfl dX0_search_102 ?_
          refine lv_iload hx hb dX0_search_105 (lv_at hl 2 rfl) ?_
          refine lv_iconst (v := 1) hx hb dX0_search_107 (by decide) ?_
          refine lv_iadd hx hb dX0_search_108 ?_
          refine qi_as (y := 1) (by decide) ?_
          refine va_alda hx hb hK hP 2 1 rfl rfl (vp_in_nI (n := 1) (N := 3) (by omega) (by omega)) dX0_search_109 ?_
          refine qq_as (v := .ref (rt 1)) (rfl) ?_
          have hPc := hP.sub (ws' := [(zo2lirrr ch ftb frb dr tO hO), (zaI dr cD 36 fD9_3), (zo10ririliiriririr sc aTp (nI ts) aHl (nI nh) (lN ee) mi sn aHs (nI n) aWk (nI wz) aBk (nI bz) aFc), (zaL (rt 0) cT 36 ft09_4), (zaL (rt 1) cT 36 f1b)]) [0, 1, 15, 3, 4] rfl
          have hDc := hD.sub (ws' := [(zo2lirrr ch ftb frb dr tO hO), (zaI dr cD 36 fD9_3), (zo10ririliiriririr sc aTp (nI ts) aHl (nI nh) (lN ee) mi sn aHs (nI n) aWk (nI wz) aBk (nI bz) aFc), (zaL (rt 0) cT 36 ft09_4), (zaL (rt 1) cT 36 f1b)]) [0, 1, 15, 3, 4] (by decide) rfl
          have hKc := hK.sub (tys' := [(cD, .int), (cT, .long), (cT, .long)]) [0, 2, 3] rfl
          have hFc := va_free (wc := [(zo2lirrr ch ftb frb dr tO hO), (zaI dr cD 36 fD9_3), (zo10ririliiriririr sc aTp (nI ts) aHl (nI nh) (lN ee) mi sn aHs (nI n) aWk (nI wz) aBk (nI bz) aFc), (zaL (rt 0) cT 36 ft09_4), (zaL (rt 1) cT 36 f1b)]) hD hS hA [0, 1, 15, 3, 4] rfl
          refine va_callv (va_runV (As := [.ref sc, .ref (rt 0), .int (nI (r / 8 % 8)), .ref (rt 1)]) (rest := []) ⟨hx, hb, hml, hown, hts⟩ (c_xSpread l dC dI gd sc ch aTp aHl aHs aWk aBk aFc dr tO hO ts nh n wz bz (r / 8 % 8) mi sn frb ftb cD fD9_3 (rt 0) (rt 1) cT cT ft09_4 f1b ee (ttN cz mi sn ee j 0 0) (drN cz mi sn) H.size (by omega) (hT0) (tt_b hj36 hd5 (by omega)) (hdr) (hee)) (cwV 4 hts gX0_search_X0_spread rfl rfl rfl hd_yX0_spread ⟨Nat.le_of_ble_eq_true rfl, Nat.le_of_ble_eq_true rfl⟩) ⟨fun a U g mk q => by obtain ⟨q0, q1, qP, qK, qD, qhG⟩ := q; exact ⟨q0, mvz g mk a q1, mvP g mk a qP, mvK g mk a qK, qD, qhG.mv g mk a⟩, va_recv hK hP (ci := 2) (q := (RX0, TX0, 5)) (q0 := 0) rfl rfl, fun U hU hW => ⟨rfl, by rw [hU], by rw [hU]; exact hPc, va_K.moved hW.alike hKc, hDc.weaken (fun _ _ _ _ => trivial), hG.call hS hU hW (fun q h => hFc q h)⟩⟩ rfl rfl hl.1 rfl (lv_room (Nat.le_of_ble_eq_true rfl)) dX0_search_110 ⟨Nat.le_of_ble_eq_true rfl, Nat.le_of_ble_eq_true rfl⟩) hS (fun q _ h => hFc q h) hFc (fun u tC H1 locs htC hvm hw_33 hB hz1 hk1 hS => ?_)
          obtain ⟨tt9_34, rfl⟩ : ∃ z, z = u := ⟨_, rfl⟩
          try dsimp only at hw_33 hB
          obtain ⟨hP1, hK1, hD1⟩ := hB
          rw [htC] at hP1
          have hK1 := va_K.moved hvm.symm hK1
          obtain ⟨hP, hD⟩ := va_join (wr := [(zaR tO cTO 3 (fun i => if i < 3 then some (rt i) else none)), (zaL (rt 2) cT 36 f2b), (zaR hO cHO 8 (fun i => if i < 8 then some (rh i) else none)), (zaI (rh 0) cH 36 g09_8), (zaI (rh 1) cH 36 g19_9), (zaI (rh 2) cH 36 g29_10), (zaI (rh 3) cH 36 g39_11), (zaI (rh 4) cH 36 g49_12), (zaI (rh 5) cH 36 g59_13), (zaI (rh 6) cH 36 g69_14), (zaI (rh 7) cH 36 g79_15), (zaI aFc cFc 6 fFc9_5)]) (w1 := [(zo2lirrr ch ftb frb dr tO hO), (zaI dr cD 36 fD9_3), (zo10ririliiriririr sc aTp (nI ts) aHl (nI nh) (lN ee) mi sn aHs (nI n) aWk (nI wz) aBk (nI bz) aFc), (zaL (rt 0) cT 36 ft09_4), (zaL (rt 1) cT 36 tt9_34)]) hP hD [0, 1, 15, 3, 4] [2, 5, 6, 7, 8, 9, 10, 11, 12, 13, 14, 16] rfl rfl (by decide) (by decide) hk1 hFc hP1 hD1
          have hK := (hK.sub (tys' := [(cTO, .array .long), (cT, .long), (cHO, .array .int), (cH, .int), (cH, .int), (cH, .int), (cH, .int), (cH, .int), (cH, .int), (cH, .int), (cH, .int), (cFc, .int)]) [1, 4, 5, 6, 7, 8, 9, 10, 11, 12, 13, 14] rfl).app hK1
          generalize H1 = H at hP hS ⊢
          have hP : va_P (dC, dI) vwCl [(zaR tO cTO 3 (fun i => if i < 3 then some (rt i) else none)), (zaL (rt 2) cT 36 f2b), (zaR hO cHO 8 (fun i => if i < 8 then some (rh i) else none)), (zaI (rh 0) cH 36 g09_8), (zaI (rh 1) cH 36 g19_9), (zaI (rh 2) cH 36 g29_10), (zaI (rh 3) cH 36 g39_11), (zaI (rh 4) cH 36 g49_12), (zaI (rh 5) cH 36 g59_13), (zaI (rh 6) cH 36 g69_14), (zaI (rh 7) cH 36 g79_15), (zaI aFc cFc 6 fFc9_5), (zo2lirrr ch ftb frb dr tO hO), (zaI dr cD 36 fD9_3), (zo10ririliiriririr sc aTp (nI ts) aHl (nI nh) (lN ee) mi sn aHs (nI n) aWk (nI wz) aBk (nI bz) aFc), (zaL (rt 0) cT 36 ft09_4), (zaL (rt 1) cT 36 tt9_34)] H := hP
          have hD : va_D A [(zaR tO cTO 3 (fun i => if i < 3 then some (rt i) else none)), (zaL (rt 2) cT 36 f2b), (zaR hO cHO 8 (fun i => if i < 8 then some (rh i) else none)), (zaI (rh 0) cH 36 g09_8), (zaI (rh 1) cH 36 g19_9), (zaI (rh 2) cH 36 g29_10), (zaI (rh 3) cH 36 g39_11), (zaI (rh 4) cH 36 g49_12), (zaI (rh 5) cH 36 g59_13), (zaI (rh 6) cH 36 g69_14), (zaI (rh 7) cH 36 g79_15), (zaI aFc cFc 6 fFc9_5), (zo2lirrr ch ftb frb dr tO hO), (zaI dr cD 36 fD9_3), (zo10ririliiriririr sc aTp (nI ts) aHl (nI nh) (lN ee) mi sn aHs (nI n) aWk (nI wz) aBk (nI bz) aFc), (zaL (rt 0) cT 36 ft09_4), (zaL (rt 1) cT 36 tt9_34)] := hD
          have hK : va_K (dC, dI) vwCl [(cTO, .array .long), (cT, .long), (cHO, .array .int), (cH, .int), (cH, .int), (cH, .int), (cH, .int), (cH, .int), (cH, .int), (cH, .int), (cH, .int), (cFc, .int), (cD, .int), (cT, .long), (cT, .long)] s := hK
          have hT1 : lnA tt9_34 (ttN cz mi sn ee j 1 (r / 8)) := by have e9 := tt_up (C := cz) (mi := mi) (sn := sn) (ee := ee) (j := j) (n := 0) (r := 0) (w := r / 8 % 8) (by omega); rw [show 0 * 8 + r / 8 % 8 = r / 8 by omega] at e9; rw [e9]; exact hw_33
          refine lv_iinc (v := 1) (lv' := [(8, .int 1), (10, .int 1), (9, .int 3), (0, .ref ch), (1, .ref sc), (2, .int (nI j)), (3, .long (lN ma)), (5, .int 3), (6, .int 2), (7, .int (nI r))]) hx hb dX0_search_113 hl (k := 2) rfl (by decide) (by decide) rfl (fun ls hl => ?_)
          refine lv_goto (tgt := 42) hx hb dX0_search_116 (by decide) ?_
          refine lv_iload hx hb dX0_search_42 (lv_at hl 0 rfl) ?_
          refine lv_iload hx hb dX0_search_44 (lv_at hl 8 rfl) ?_
          refine lv_icmp_ge (tgt := 119) hx hb dX0_search_46 (by decide) (fun c_35 => absurd c_35 (by decide)) (fun _ => ?_)
          refine lv_iconst (v := 3) hx hb dX0_search_49 (by decide) ?_
          refine lv_iload hx hb dX0_search_50 (lv_at hl 8 rfl) ?_
          refine lv_iconst (v := 1) hx hb dX0_search_52 (by decide) ?_
          refine lv_isub hx hb dX0_search_53 ?_
          refine qi_as (y := 1) (by decide) ?_
          refine lv_iload hx hb dX0_search_54 (lv_at hl 0 rfl) ?_
          refine lv_isub hx hb dX0_search_56 ?_
          refine qi_as (y := 0) (by decide) ?_
          refine lv_imul hx hb dX0_search_57 ?_
          refine qi_as (y := 0) (by decide) ?_
          refine lv_istore (lv' := [(9, .int 0), (8, .int 1), (10, .int 1), (0, .ref ch), (1, .ref sc), (2, .int (nI j)), (3, .long (lN ma)), (5, .int 3), (6, .int 2), (7, .int (nI r))]) hx hb dX0_search_58 hl (by decide) rfl (fun ls hl => ?_)
          refine lv_iload hx hb dX0_search_60 (lv_at hl 9 rfl) ?_
          refine lv_iconst (v := 1) hx hb dX0_search_62 (by decide) ?_
          refine lv_iload hx hb dX0_search_63 (lv_at hl 0 rfl) ?_
          refine lv_ishl hx hb dX0_search_65 ?_
          refine qi_as (y := 1) (by decide) ?_
          refine lv_iconst (v := 1) hx hb dX0_search_66 (by decide) ?_
          refine lv_isub hx hb dX0_search_67 ?_
          refine qi_as (y := 0) (by decide) ?_
          refine lv_iand hx hb dX0_search_68 ?_
          refine qi_as (y := 0) (and0 _) ?_
          refine lv_if_ne (tgt := 76) hx hb dX0_search_69 (by decide) (fun c_36 => absurd c_36 (by decide)) (fun _ => ?_)
          refine lv_iconst (v := 1) hx hb dX0_search_72 (by decide) ?_
          refine lv_goto (tgt := 77) hx hb dX0_search_73 (by decide) ?_
          refine lv_istore (lv' := [(10, .int 1), (9, .int 0), (8, .int 1), (0, .ref ch), (1, .ref sc), (2, .int (nI j)), (3, .long (lN ma)), (5, .int 3), (6, .int 2), (7, .int (nI r))]) hx hb dX0_search_77 hl (by decide) rfl (fun ls hl => ?_)
          refine lv_iload hx hb dX0_search_79 (lv_at hl 0 rfl) ?_
          refine lv_if_eq (tgt := 113) hx hb dX0_search_81 (by decide) (fun c_37 => absurd c_37 (by decide)) (fun _ => ?_)
          refine lv_aload_n hx hb dX0_search_84 rfl (lv_at hl 3 rfl) ?_
          refine lv_aload_n hx hb dX0_search_85 rfl (lv_at hl 4 rfl) ?_
          refine lv_aload_n hx hb dX0_search_86 rfl (lv_at hl 3 rfl) ?_
          refine va_get (D := (dC, dI)) (ci := 2) (v := .ref tO) (C := RX0) (T := TX0) (N := 5) hx hb hts kc_xSearch3_1 hown hK hP 12 rfl rfl 3 (by decide) (hts (.fieldLink RX0 17 "MistHeaps$Chances" "times" "[[J") kc_xSearch3_3) (fun _ h9 => h9) rfl dX0_search_87 ?_
          refine lv_iload hx hb dX0_search_90 (lv_at hl 2 rfl) ?_
          refine va_alda hx hb hK hP 0 0 rfl rfl (vp_in_nI (n := 1) (N := 3) (by omega) (by omega)) dX0_search_92 ?_
          refine qq_as (v := .ref (rt 1)) (rfl) ?_
          refine lv_iload hx hb dX0_search_93 (lv_at hl 9 rfl) ?_
          refine lv_iload hx hb dX0_search_95 (lv_at hl 1 rfl) ?_
          refine lv_ishr hx hb dX0_search_97 ?_
          refine lv_bipush (v := 7) hx hb dX0_search_98 (by decide) ?_
          refine lv_iand hx hb dX0_search_100 ?_
          refine qi_as (y := nI (r % 8)) (sh_r0 r (by omega)) ?_
          refine lv_aload_n hx hb dX0_search_101 rfl (lv_at hl 3 rfl) ?_
          refine va_get (D := (dC, dI)) (ci := 2) (v := .ref tO) (C := RX0) (T := TX0) (N := 5) hx hb hts kc_xSearch3_1 hown hK hP 12 rfl rfl 3 (by decide) (hts (.fieldLink RX0 17 "MistHeaps$Chances" "times" "[[J") kc_xSearch3_3) (fun _ h9 => h9) rfl dX0_search_102 ?_
          refine lv_iload hx hb dX0_search_105 (lv_at hl 2 rfl) ?_
          refine lv_iconst (v := 1) hx hb dX0_search_107 (by decide) ?_
          refine lv_iadd hx hb dX0_search_108 ?_
          refine qi_as (y := 2) (by decide) ?_
          refine va_alda hx hb hK hP 0 0 rfl rfl (vp_in_nI (n := 2) (N := 3) (by omega) (by omega)) dX0_search_109 ?_
          refine qq_as (v := .ref (rt 2)) (rfl) ?_
          have hPc := hP.sub (ws' := [(zo2lirrr ch ftb frb dr tO hO), (zaI dr cD 36 fD9_3), (zo10ririliiriririr sc aTp (nI ts) aHl (nI nh) (lN ee) mi sn aHs (nI n) aWk (nI wz) aBk (nI bz) aFc), (zaL (rt 1) cT 36 tt9_34), (zaL (rt 2) cT 36 f2b)]) [12, 13, 14, 16, 1] rfl
          have hDc := hD.sub (ws' := [(zo2lirrr ch ftb frb dr tO hO), (zaI dr cD 36 fD9_3), (zo10ririliiriririr sc aTp (nI ts) aHl (nI nh) (lN ee) mi sn aHs (nI n) aWk (nI wz) aBk (nI bz) aFc), (zaL (rt 1) cT 36 tt9_34), (zaL (rt 2) cT 36 f2b)]) [12, 13, 14, 16, 1] (by decide) rfl
          have hKc := hK.sub (tys' := [(cD, .int), (cT, .long), (cT, .long)]) [12, 14, 1] rfl
          have hFc := va_free (wc := [(zo2lirrr ch ftb frb dr tO hO), (zaI dr cD 36 fD9_3), (zo10ririliiriririr sc aTp (nI ts) aHl (nI nh) (lN ee) mi sn aHs (nI n) aWk (nI wz) aBk (nI bz) aFc), (zaL (rt 1) cT 36 tt9_34), (zaL (rt 2) cT 36 f2b)]) hD hS hA [12, 13, 14, 16, 1] rfl
          refine va_callv (va_runV (As := [.ref sc, .ref (rt 1), .int (nI (r % 8)), .ref (rt 2)]) (rest := []) ⟨hx, hb, hml, hown, hts⟩ (c_xSpread l dC dI gd sc ch aTp aHl aHs aWk aBk aFc dr tO hO ts nh n wz bz (r % 8) mi sn frb ftb cD fD9_3 (rt 1) (rt 2) cT cT tt9_34 f2b ee (ttN cz mi sn ee j 1 (r / 8)) (drN cz mi sn) H.size (by omega) (hT1) (tt_b hj36 hd5 (by omega)) (hdr) (hee)) (cwV 4 hts gX0_search_X0_spread rfl rfl rfl hd_yX0_spread ⟨Nat.le_of_ble_eq_true rfl, Nat.le_of_ble_eq_true rfl⟩) ⟨fun a U g mk q => by obtain ⟨q0, q1, qP, qK, qD, qhG⟩ := q; exact ⟨q0, mvz g mk a q1, mvP g mk a qP, mvK g mk a qK, qD, qhG.mv g mk a⟩, va_recv hK hP (ci := 2) (q := (RX0, TX0, 5)) (q0 := 12) rfl rfl, fun U hU hW => ⟨rfl, by rw [hU], by rw [hU]; exact hPc, va_K.moved hW.alike hKc, hDc.weaken (fun _ _ _ _ => trivial), hG.call hS hU hW (fun q h => hFc q h)⟩⟩ rfl rfl hl.1 rfl (lv_room (Nat.le_of_ble_eq_true rfl)) dX0_search_110 ⟨Nat.le_of_ble_eq_true rfl, Nat.le_of_ble_eq_true rfl⟩) hS (fun q _ h => hFc q h) hFc (fun u tC H1 locs htC hvm hw_39 hB hz1 hk1 hS => ?_)
          obtain ⟨tt9_40, rfl⟩ : ∃ z, z = u := ⟨_, rfl⟩
          try dsimp only at hw_39 hB
          obtain ⟨hP1, hK1, hD1⟩ := hB
          rw [htC] at hP1
          have hK1 := va_K.moved hvm.symm hK1
          obtain ⟨hP, hD⟩ := va_join (wr := [(zaR tO cTO 3 (fun i => if i < 3 then some (rt i) else none)), (zaR hO cHO 8 (fun i => if i < 8 then some (rh i) else none)), (zaI (rh 0) cH 36 g09_8), (zaI (rh 1) cH 36 g19_9), (zaI (rh 2) cH 36 g29_10), (zaI (rh 3) cH 36 g39_11), (zaI (rh 4) cH 36 g49_12), (zaI (rh 5) cH 36 g59_13), (zaI (rh 6) cH 36 g69_14), (zaI (rh 7) cH 36 g79_15), (zaI aFc cFc 6 fFc9_5), (zaL (rt 0) cT 36 ft09_4)]) (w1 := [(zo2lirrr ch ftb frb dr tO hO), (zaI dr cD 36 fD9_3), (zo10ririliiriririr sc aTp (nI ts) aHl (nI nh) (lN ee) mi sn aHs (nI n) aWk (nI wz) aBk (nI bz) aFc), (zaL (rt 1) cT 36 tt9_34), (zaL (rt 2) cT 36 tt9_40)]) hP hD [12, 13, 14, 16, 1] [0, 2, 3, 4, 5, 6, 7, 8, 9, 10, 11, 15] rfl rfl (by decide) (by decide) hk1 hFc hP1 hD1
          have hK := (hK.sub (tys' := [(cTO, .array .long), (cHO, .array .int), (cH, .int), (cH, .int), (cH, .int), (cH, .int), (cH, .int), (cH, .int), (cH, .int), (cH, .int), (cFc, .int), (cT, .long)]) [0, 2, 3, 4, 5, 6, 7, 8, 9, 10, 11, 13] rfl).app hK1
          generalize H1 = H at hP hS ⊢
          have hP : va_P (dC, dI) vwCl [(zaR tO cTO 3 (fun i => if i < 3 then some (rt i) else none)), (zaR hO cHO 8 (fun i => if i < 8 then some (rh i) else none)), (zaI (rh 0) cH 36 g09_8), (zaI (rh 1) cH 36 g19_9), (zaI (rh 2) cH 36 g29_10), (zaI (rh 3) cH 36 g39_11), (zaI (rh 4) cH 36 g49_12), (zaI (rh 5) cH 36 g59_13), (zaI (rh 6) cH 36 g69_14), (zaI (rh 7) cH 36 g79_15), (zaI aFc cFc 6 fFc9_5), (zaL (rt 0) cT 36 ft09_4), (zo2lirrr ch ftb frb dr tO hO), (zaI dr cD 36 fD9_3), (zo10ririliiriririr sc aTp (nI ts) aHl (nI nh) (lN ee) mi sn aHs (nI n) aWk (nI wz) aBk (nI bz) aFc), (zaL (rt 1) cT 36 tt9_34), (zaL (rt 2) cT 36 tt9_40)] H := hP
          have hD : va_D A [(zaR tO cTO 3 (fun i => if i < 3 then some (rt i) else none)), (zaR hO cHO 8 (fun i => if i < 8 then some (rh i) else none)), (zaI (rh 0) cH 36 g09_8), (zaI (rh 1) cH 36 g19_9), (zaI (rh 2) cH 36 g29_10), (zaI (rh 3) cH 36 g39_11), (zaI (rh 4) cH 36 g49_12), (zaI (rh 5) cH 36 g59_13), (zaI (rh 6) cH 36 g69_14), (zaI (rh 7) cH 36 g79_15), (zaI aFc cFc 6 fFc9_5), (zaL (rt 0) cT 36 ft09_4), (zo2lirrr ch ftb frb dr tO hO), (zaI dr cD 36 fD9_3), (zo10ririliiriririr sc aTp (nI ts) aHl (nI nh) (lN ee) mi sn aHs (nI n) aWk (nI wz) aBk (nI bz) aFc), (zaL (rt 1) cT 36 tt9_34), (zaL (rt 2) cT 36 tt9_40)] := hD
          have hK : va_K (dC, dI) vwCl [(cTO, .array .long), (cHO, .array .int), (cH, .int), (cH, .int), (cH, .int), (cH, .int), (cH, .int), (cH, .int), (cH, .int), (cH, .int), (cFc, .int), (cT, .long), (cD, .int), (cT, .long), (cT, .long)] s := hK
          have hT2 : lnA tt9_40 (ttN cz mi sn ee j 2 r) := by have e9 := tt_up (C := cz) (mi := mi) (sn := sn) (ee := ee) (j := j) (n := 1) (r := r / 8) (w := r % 8) (by omega); rw [show r / 8 * 8 + r % 8 = r by omega] at e9; rw [e9]; exact hw_39
          refine lv_iinc (v := 2) (lv' := [(8, .int 2), (10, .int 1), (9, .int 0), (0, .ref ch), (1, .ref sc), (2, .int (nI j)), (3, .long (lN ma)), (5, .int 3), (6, .int 2), (7, .int (nI r))]) hx hb dX0_search_113 hl (k := 2) rfl (by decide) (by decide) rfl (fun ls hl => ?_)
          refine lv_goto (tgt := 42) hx hb dX0_search_116 (by decide) ?_
          refine lv_iload hx hb dX0_search_42 (lv_at hl 0 rfl) ?_
          refine lv_iload hx hb dX0_search_44 (lv_at hl 8 rfl) ?_
          refine lv_icmp_ge (tgt := 119) hx hb dX0_search_46 (by decide) (fun _ => ?_) (fun c_41 => absurd c_41 (by decide))
          refine lv_aload_n hx hb dX0_search_119 rfl (lv_at hl 3 rfl) ?_
          refine lv_aload_n hx hb dX0_search_120 rfl (lv_at hl 3 rfl) ?_
          refine va_get (D := (dC, dI)) (ci := 2) (v := .ref tO) (C := RX0) (T := TX0) (N := 5) hx hb hts kc_xSearch3_1 hown hK hP 12 rfl rfl 3 (by decide) (hts (.fieldLink RX0 17 "MistHeaps$Chances" "times" "[[J") kc_xSearch3_3) (fun _ h9 => h9) rfl dX0_search_121 ?_
          refine lv_iload hx hb dX0_search_124 (lv_at hl 8 rfl) ?_
          refine va_alda hx hb hK hP 0 0 rfl rfl (vp_in_nI (n := 2) (N := 3) (by omega) (by omega)) dX0_search_126 ?_
          refine qq_as (v := .ref (rt 2)) (rfl) ?_
          refine lv_iload hx hb dX0_search_127 (lv_at hl 9 rfl) ?_
          have hPc := hP.sub (ws' := [(zo2lirrr ch ftb frb dr tO hO), (zaL (rt 2) cT 36 tt9_40), (zaR hO cHO 8 (fun i => if i < 8 then some (rh i) else none)), (zaI (rh 0) cH 36 g09_8), (zaI (rh 1) cH 36 g19_9), (zaI (rh 2) cH 36 g29_10), (zaI (rh 3) cH 36 g39_11), (zaI (rh 4) cH 36 g49_12), (zaI (rh 5) cH 36 g59_13), (zaI (rh 6) cH 36 g69_14), (zaI (rh 7) cH 36 g79_15)]) [12, 16, 1, 2, 3, 4, 5, 6, 7, 8, 9] rfl
          have hDc := hD.sub (ws' := [(zo2lirrr ch ftb frb dr tO hO), (zaL (rt 2) cT 36 tt9_40), (zaR hO cHO 8 (fun i => if i < 8 then some (rh i) else none)), (zaI (rh 0) cH 36 g09_8), (zaI (rh 1) cH 36 g19_9), (zaI (rh 2) cH 36 g29_10), (zaI (rh 3) cH 36 g39_11), (zaI (rh 4) cH 36 g49_12), (zaI (rh 5) cH 36 g59_13), (zaI (rh 6) cH 36 g69_14), (zaI (rh 7) cH 36 g79_15)]) [12, 16, 1, 2, 3, 4, 5, 6, 7, 8, 9] (by decide) rfl
          have hKc := hK.sub (tys' := [(cT, .long), (cHO, .array .int), (cH, .int), (cH, .int), (cH, .int), (cH, .int), (cH, .int), (cH, .int), (cH, .int), (cH, .int)]) [14, 1, 2, 3, 4, 5, 6, 7, 8, 9] rfl
          have hFc := va_free (wc := [(zo2lirrr ch ftb frb dr tO hO), (zaL (rt 2) cT 36 tt9_40), (zaR hO cHO 8 (fun i => if i < 8 then some (rh i) else none)), (zaI (rh 0) cH 36 g09_8), (zaI (rh 1) cH 36 g19_9), (zaI (rh 2) cH 36 g29_10), (zaI (rh 3) cH 36 g39_11), (zaI (rh 4) cH 36 g49_12), (zaI (rh 5) cH 36 g59_13), (zaI (rh 6) cH 36 g69_14), (zaI (rh 7) cH 36 g79_15)]) hD hS hA [12, 16, 1, 2, 3, 4, 5, 6, 7, 8, 9] rfl
          refine va_callv (va_runV (As := [.ref (rt 2), .int (nI r)]) (rest := []) ⟨hx, hb, hml, hown, hts⟩ (c_xTryLast l dC dI ch dr tO hO i r frb ftb cHO cH g09_8 g19_9 g29_10 g39_11 g49_12 g59_13 g69_14 g79_15 rh (rt 2) cT tt9_40 (ttN cz mi sn ee j 2 r) (srU cz mi sn ee j 3 ma) (htN (edB ee) (drN cz mi sn) ma) H.size (by omega) (hT2) (hh0) (hh1) (hh2) (hh3) (hh4) (hh5) (hh6) (hh7) (fun w9 k0 h0 => ht_b (hd5 k0 h0)) (fun w9 h9 => sr_U (n := 2) h9) (sr_b hj36 hd5 (by omega)) (hJ9)) (cwV 2 hts gX0_search_X0_tryLast rfl rfl rfl hd_yX0_tryLast ⟨Nat.le_of_ble_eq_true rfl, Nat.le_of_ble_eq_true rfl⟩) ⟨fun a U g mk q => by obtain ⟨q0, q1, qP, qK, qD⟩ := q; exact ⟨q0, mvz g mk a q1, mvP g mk a qP, mvK g mk a qK, qD⟩, va_recv hK hP (ci := 2) (q := (RX0, TX0, 5)) (q0 := 12) rfl rfl, fun U hU hW => ⟨rfl, by rw [hU], by rw [hU]; exact hPc, va_K.moved hW.alike hKc, hDc.weaken (fun _ _ _ _ => trivial)⟩⟩ rfl rfl hl.1 rfl (lv_room (Nat.le_of_ble_eq_true rfl)) dX0_search_129 ⟨Nat.le_of_ble_eq_true rfl, Nat.le_of_ble_eq_true rfl⟩) hS (fun q _ h => hFc q h) hFc (fun u tC H1 locs htC hvm hw_43 hB hz1 hk1 hS => ?_)
          obtain ⟨ft9_44, fr9_45⟩ := u
          try dsimp only at hw_43 hB
          obtain ⟨hP1, hK1, hD1⟩ := hB
          rw [htC] at hP1
          have hK1 := va_K.moved hvm.symm hK1
          obtain ⟨hP, hD⟩ := va_join (wr := [(zaR tO cTO 3 (fun i => if i < 3 then some (rt i) else none)), (zaI aFc cFc 6 fFc9_5), (zaL (rt 0) cT 36 ft09_4), (zaI dr cD 36 fD9_3), (zo10ririliiriririr sc aTp (nI ts) aHl (nI nh) (lN ee) mi sn aHs (nI n) aWk (nI wz) aBk (nI bz) aFc), (zaL (rt 1) cT 36 tt9_34)]) (w1 := [(zo2lirrr ch ft9_44 fr9_45 dr tO hO), (zaL (rt 2) cT 36 tt9_40), (zaR hO cHO 8 (fun i => if i < 8 then some (rh i) else none)), (zaI (rh 0) cH 36 g09_8), (zaI (rh 1) cH 36 g19_9), (zaI (rh 2) cH 36 g29_10), (zaI (rh 3) cH 36 g39_11), (zaI (rh 4) cH 36 g49_12), (zaI (rh 5) cH 36 g59_13), (zaI (rh 6) cH 36 g69_14), (zaI (rh 7) cH 36 g79_15)]) hP hD [12, 16, 1, 2, 3, 4, 5, 6, 7, 8, 9] [0, 10, 11, 13, 14, 15] rfl rfl (by decide) (by decide) hk1 hFc hP1 hD1
          have hK := (hK.sub (tys' := [(cTO, .array .long), (cFc, .int), (cT, .long), (cD, .int), (cT, .long)]) [0, 10, 11, 12, 13] rfl).app hK1
          generalize H1 = H at hP hS ⊢
          have hP : va_P (dC, dI) vwCl [(zaR tO cTO 3 (fun i => if i < 3 then some (rt i) else none)), (zaI aFc cFc 6 fFc9_5), (zaL (rt 0) cT 36 ft09_4), (zaI dr cD 36 fD9_3), (zo10ririliiriririr sc aTp (nI ts) aHl (nI nh) (lN ee) mi sn aHs (nI n) aWk (nI wz) aBk (nI bz) aFc), (zaL (rt 1) cT 36 tt9_34), (zo2lirrr ch ft9_44 fr9_45 dr tO hO), (zaL (rt 2) cT 36 tt9_40), (zaR hO cHO 8 (fun i => if i < 8 then some (rh i) else none)), (zaI (rh 0) cH 36 g09_8), (zaI (rh 1) cH 36 g19_9), (zaI (rh 2) cH 36 g29_10), (zaI (rh 3) cH 36 g39_11), (zaI (rh 4) cH 36 g49_12), (zaI (rh 5) cH 36 g59_13), (zaI (rh 6) cH 36 g69_14), (zaI (rh 7) cH 36 g79_15)] H := hP
          have hD : va_D A [(zaR tO cTO 3 (fun i => if i < 3 then some (rt i) else none)), (zaI aFc cFc 6 fFc9_5), (zaL (rt 0) cT 36 ft09_4), (zaI dr cD 36 fD9_3), (zo10ririliiriririr sc aTp (nI ts) aHl (nI nh) (lN ee) mi sn aHs (nI n) aWk (nI wz) aBk (nI bz) aFc), (zaL (rt 1) cT 36 tt9_34), (zo2lirrr ch ft9_44 fr9_45 dr tO hO), (zaL (rt 2) cT 36 tt9_40), (zaR hO cHO 8 (fun i => if i < 8 then some (rh i) else none)), (zaI (rh 0) cH 36 g09_8), (zaI (rh 1) cH 36 g19_9), (zaI (rh 2) cH 36 g29_10), (zaI (rh 3) cH 36 g39_11), (zaI (rh 4) cH 36 g49_12), (zaI (rh 5) cH 36 g59_13), (zaI (rh 6) cH 36 g69_14), (zaI (rh 7) cH 36 g79_15)] := hD
          have hK : va_K (dC, dI) vwCl [(cTO, .array .long), (cFc, .int), (cT, .long), (cD, .int), (cT, .long), (cT, .long), (cHO, .array .int), (cH, .int), (cH, .int), (cH, .int), (cH, .int), (cH, .int), (cH, .int), (cH, .int), (cH, .int)] s := hK
          have hJ8 := hw_43
          refine lv_iinc (v := nI (r + 1)) (lv' := [(7, .int (nI (r + 1))), (8, .int 2), (10, .int 1), (9, .int 0), (0, .ref ch), (1, .ref sc), (2, .int (nI j)), (3, .long (lN ma)), (5, .int 3), (6, .int 2)]) hx hb dX0_search_132 hl (k := 9) rfl (nI_add r 1) (by decide) rfl (fun ls hl => ?_)
          refine lv_goto (tgt := 28) hx hb dX0_search_135 (by decide) ?_
          exact ih28 (r + 1) (ft9_44) (fr9_45) (tt9_34) (tt9_40) (by omega) (by omega) (by rw [show (r + 1) * 8 = r * 8 + 8 by omega]; exact hJ8) (by by_cases z9 : (r + 1) % 8 = 0; exact Or.inl z9; (rw [show (r + 1) / 8 = r / 8 by omega]; exact Or.inr hT1)) _ _ (hK.sub [3, 0, 2, 4, 5, 6, 7, 8, 9, 10, 11, 12, 13, 14, 1] rfl) (hP.sub [6, 3, 0, 2, 5, 7, 8, 9, 10, 11, 12, 13, 14, 15, 16, 4, 1] rfl) (hD.sub [6, 3, 0, 2, 5, 7, 8, 9, 10, 11, 12, 13, 14, 15, 16, 4, 1] (by decide) rfl) hS ls (lv_sub hl [4, 5, 6, 7, 8, 9, 0] rfl)
  exact L28 _ (0) ((-1)) (fr) (ft1) (ft2) (Nat.lt_succ_self _) (by omega) (fj_0) (Or.inl rfl) _ _ (hK.sub [5, 2, 3, 0, 1, 6, 7, 8, 9, 10, 11, 12, 13, 14, 4] rfl) (hP.sub [5, 6, 2, 3, 0, 1, 7, 8, 9, 10, 11, 12, 13, 14, 15, 16, 4] rfl) (hD.sub [5, 6, 2, 3, 0, 1, 7, 8, 9, 10, 11, 12, 13, 14, 15, 16, 4] (by decide) rfl) hS ls (lv_sub hl [2, 3, 4, 5, 6, 1, 0] rfl)

theorem kc_xWalked_0 : ∀ w ∈ wsX80, w ∈ wsX0_walked := fun w h => List.mem_cons_of_mem _ (gin_wsX80 w h)
theorem kc_xWalked_1 : (.fieldLink RX0 31 "MistHeaps$Scene" "walkSize" "I" : Cond) ∈ wsX0_walked := kc_of 178 rfl rfl rfl
theorem kc_xWalked_2 : ∀ w ∈ wsX00, w ∈ wsX0_walked := fun w h => List.mem_cons_of_mem _ (gin_wsX00 w h)
theorem kc_xWalked_3 : (.fieldLink RX0 17 "MistHeaps$Chances" "times" "[[J" : Cond) ∈ wsX0_walked := kc_of 288 rfl rfl rfl
theorem kc_xWalked_4 : (.initialized RX11 : Cond) ∈ wsX0_walked := kc_of 63 rfl rfl rfl
theorem kc_xWalked_5 : (.static yX11_isIn : Cond) ∈ wsX0_walked := kc_of 840 rfl rfl rfl
theorem kc_xWalked_6 : (.fieldLink RX0 37 "MistHeaps$Scene" "walk" "[I" : Cond) ∈ wsX0_walked := kc_of 175 rfl rfl rfl
set_option maxHeartbeats 4000000 in
set_option maxRecDepth 100000 in
theorem c_xWalked (l : Launch) (dC : Nat → ClassId) (dI : Nat → Nat → Nat) (gd : Nat → Nat)  (sc : Nat) (ch : Nat) (aTp : Nat) (aHl : Nat) (aHs : Nat) (aWk : Nat) (aBk : Nat) (aFc : Nat) (bW : Nat) (bA : Nat) (bE : Nat) (bC : Nat) (dr : Nat) (tO : Nat) (hO : Nat) (ts : Nat) (nh : Nat) (n : Nat) (wz : Nat) (bz : Nat) (cl : Nat) (i : Nat) (j : Nat) (mi : Int32) (sn : Int32) (sg : Int32) (cdd : Int32) (szz : Int32) (att : Int32) (nmb : Int32) (fr : Int32) (ft : Int64) (cWk : ClassId) (cFc : ClassId) (cbW : ClassId) (cbA : ClassId) (cbE : ClassId) (cbC : ClassId) (cD : ClassId) (cTO : ClassId) (cT : ClassId) (fWk : Nat → Int32) (fFc : Nat → Int32) (fbW : Nat → Int32) (fbA : Nat → Int32) (fbE : Nat → Int32) (fbC : Nat → Int32) (fD : Nat → Int32) (ft0 : Nat → Int64) (ft1 : Nat → Int64) (rt : Nat → Nat) (tpv : Value) (cz : List pCla) (w0 : Nat) (ee : Nat) (wy : Nat → Nat) (ma : Nat) (sz : Nat) (hwz : wz ≤ 6) (zwk : ∀ k0, k0 < 6 → ∃ w0 : Nat, w0 < 8 ∧ fWk k0 = nI w0) (zcl : cl ≤ 10) (zE : ∀ k0, k0 < 10 → ∃ e0 : Nat, e0 ≤ 100 ∧ fbE k0 = nI e0) (zC : ∀ k0, k0 < 100 → okC (fbC k0)) (zwy : ∀ k0, k0 < wz → fWk k0 = nI (wy k0)) (hwy : ∀ k0, wy k0 < 8) (hj36 : j < 36) (hma : ma < 2 ^ 62) (hee : ee < 2 ^ 36) (zHC : HC cl sg fbW fbA fbE fbC cz ∧ WfC cz) : Met l yX0_walked wsX0_walked ({ frames := 5, cells := 0, slots := 0, locals := 117 } : Room) (va_Pc [.ref ch, .ref sc, .int (nI j), .long (lN ma)] (fun U => U.heap.size = sz ∧ va_P (dC, dI) vwCl [(zo2lirrr ch ft fr dr tO hO), (zaI dr cD 36 fD), (zaR tO cTO 3 (fun i => if i < 3 then some (rt i) else none)), (zaL (rt 0) cT 36 ft0), (zaL (rt 1) cT 36 ft1), (zo10ririliiriririr sc aTp (nI ts) aHl (nI nh) (lN ee) mi sn aHs (nI n) aWk (nI wz) aBk (nI bz) aFc), (zaI aWk cWk 6 fWk), (zaI aFc cFc 6 fFc)] U.heap ∧ va_K (dC, dI) vwCl [(cD, .int), (cTO, .array .long), (cT, .long), (cT, .long), (cWk, .int), (cFc, .int)] U ∧ va_D (fun _ => True) [(zo2lirrr ch ft fr dr tO hO), (zaI dr cD 36 fD), (zaR tO cTO 3 (fun i => if i < 3 then some (rt i) else none)), (zaL (rt 0) cT 36 ft0), (zaL (rt 1) cT 36 ft1), (zo10ririliiriririr sc aTp (nI ts) aHl (nI nh) (lN ee) mi sn aHs (nI n) aWk (nI wz) aBk (nI bz) aFc), (zaI aWk cWk 6 fWk), (zaI aFc cFc 6 fFc)] ∧ Gl gd (va_A [(zo2lirrr ch ft fr dr tO hO), (zaI dr cD 36 fD), (zaR tO cTO 3 (fun i => if i < 3 then some (rt i) else none)), (zaL (rt 0) cT 36 ft0), (zaL (rt 1) cT 36 ft1), (zo10ririliiriririr sc aTp (nI ts) aHl (nI nh) (lN ee) mi sn aHs (nI n) aWk (nI wz) aBk (nI bz) aFc), (zaI aWk cWk 6 fWk), (zaI aFc cFc 6 fFc)] sz) U ∧ Fz dC dI [(zo7iirrrriviii aHl sg (nI cl) bW bA bE bC cdd tpv szz att nmb), (zaI bW cbW 10 fbW), (zaI bA cbA 10 fbA), (zaI bE cbE 10 fbE), (zaI bC cbC 100 fbC)] [(cbW, .int), (cbA, .int), (cbE, .int), (cbC, .int)] (va_A [(zo2lirrr ch ft fr dr tO hO), (zaI dr cD 36 fD), (zaR tO cTO 3 (fun i => if i < 3 then some (rt i) else none)), (zaL (rt 0) cT 36 ft0), (zaL (rt 1) cT 36 ft1), (zo10ririliiriririr sc aTp (nI ts) aHl (nI nh) (lN ee) mi sn aHs (nI n) aWk (nI wz) aBk (nI bz) aFc), (zaI aWk cWk 6 fWk), (zaI aFc cFc 6 fFc)] sz) U)) (va_Ql (fun (r : Int64) (u : (Nat → Int32) × (Nat → Int64) × (Nat → Int64) × (Nat → Int32)) => match u with | (fD9, ft09, ft19, fFc9) => r = lN (msN (fun kq => ma / 2 ^ kq % 2 = 1) (tmN (edB ee) (drN cz mi sn) wy j wz) 36)) (fun (u : (Nat → Int32) × (Nat → Int64) × (Nat → Int64) × (Nat → Int32)) (t : State) => match u with | (fD9, ft09, ft19, fFc9) => va_P (dC, dI) vwCl [(zo2lirrr ch ft fr dr tO hO), (zaI dr cD 36 fD9), (zaR tO cTO 3 (fun i => if i < 3 then some (rt i) else none)), (zaL (rt 0) cT 36 ft09), (zaL (rt 1) cT 36 ft19), (zo10ririliiriririr sc aTp (nI ts) aHl (nI nh) (lN ee) mi sn aHs (nI n) aWk (nI wz) aBk (nI bz) aFc), (zaI aWk cWk 6 fWk), (zaI aFc cFc 6 fFc9)] t.heap ∧ va_K (dC, dI) vwCl [(cD, .int), (cTO, .array .long), (cT, .long), (cT, .long), (cWk, .int), (cFc, .int)] t ∧ va_D (va_A [(zo2lirrr ch ft fr dr tO hO), (zaI dr cD 36 fD), (zaR tO cTO 3 (fun i => if i < 3 then some (rt i) else none)), (zaL (rt 0) cT 36 ft0), (zaL (rt 1) cT 36 ft1), (zo10ririliiriririr sc aTp (nI ts) aHl (nI nh) (lN ee) mi sn aHs (nI n) aWk (nI wz) aBk (nI bz) aFc), (zaI aWk cWk 6 fWk), (zaI aFc cFc 6 fFc)] sz) [(zo2lirrr ch ft fr dr tO hO), (zaI dr cD 36 fD9), (zaR tO cTO 3 (fun i => if i < 3 then some (rt i) else none)), (zaL (rt 0) cT 36 ft09), (zaL (rt 1) cT 36 ft19), (zo10ririliiriririr sc aTp (nI ts) aHl (nI nh) (lN ee) mi sn aHs (nI n) aWk (nI wz) aBk (nI bz) aFc), (zaI aWk cWk 6 fWk), (zaI aFc cFc 6 fFc9)]) (va_A [(zo2lirrr ch ft fr dr tO hO), (zaI dr cD 36 fD), (zaR tO cTO 3 (fun i => if i < 3 then some (rt i) else none)), (zaL (rt 0) cT 36 ft0), (zaL (rt 1) cT 36 ft1), (zo10ririliiriririr sc aTp (nI ts) aHl (nI nh) (lN ee) mi sn aHs (nI n) aWk (nI wz) aBk (nI bz) aFc), (zaI aWk cWk 6 fWk), (zaI aFc cFc 6 fFc)] sz)) 0 0 (va_A [(zo2lirrr ch ft fr dr tO hO), (zaI dr cD 36 fD), (zaR tO cTO 3 (fun i => if i < 3 then some (rt i) else none)), (zaL (rt 0) cT 36 ft0), (zaL (rt 1) cT 36 ft1), (zo10ririliiriririr sc aTp (nI ts) aHl (nI nh) (lN ee) mi sn aHs (nI n) aWk (nI wz) aBk (nI bz) aFc), (zaI aWk cWk 6 fWk), (zaI aFc cFc 6 fFc)] sz) := by
  refine met_ofQ (cc := cX0_walked) (maxL := 9) (ret := (some .long)) (by decide) rfl ?_
  intro p e s m args below meth c s₁ Q B hml hv hQ
  obtain ⟨rfl, hsz, hP, hK, hD0, hG, hZ⟩ := hv
  have hx := B.exec
  have hb := B.bytes
  have hr := B.returns
  have hts := atoms_spec (ws := wsX0_walked) B.pre
  have hown : s.vm.findClass RX0 = some m.cls := findClass_of_methodNamed B.named
  have hlocks := B.notSynchronized
  subst hsz
  have hD := hD0.self (sz := s.heap.size)
  generalize hAe : va_A [(zo2lirrr ch ft fr dr tO hO), (zaI dr cD 36 fD), (zaR tO cTO 3 (fun i => if i < 3 then some (rt i) else none)), (zaL (rt 0) cT 36 ft0), (zaL (rt 1) cT 36 ft1), (zo10ririliiriririr sc aTp (nI ts) aHl (nI nh) (lN ee) mi sn aHs (nI n) aWk (nI wz) aBk (nI bz) aFc), (zaI aWk cWk 6 fWk), (zaI aFc cFc 6 fFc)] s.heap.size = A at hD hQ hG hZ ⊢
  have hA : ∀ q : Nat, s.heap.size ≤ q → A q := fun q h => by rw [← hAe]; exact Or.inr h
  have hS : va_S A s.heap s.heap [] := va_S.rf
  have hl := lv_entry [.ref ch, .ref sc, .int (nI j), .long (lN ma)] (n := 9) (Nat.le_of_ble_eq_true rfl)
  rw [lg_entry_eq]
  generalize (lg_sl [.ref ch, .ref sc, .int (nI j), .long (lN ma)] ++ List.replicate (9 - (lg_sl [.ref ch, .ref sc, .int (nI j), .long (lN ma)]).length) Slot.unset).toArray = ls at hl ⊢
  generalize hag : ([.ref ch, .ref sc, .int (nI j), .long (lN ma)] : List Value).toArray = args at hts hQ ⊢
  have hl : lv_has ls 9 [(0, .ref ch), (1, .ref sc), (2, .int (nI j)), (3, .long (lN ma))] := hl
  obtain ⟨H, hH⟩ : ∃ H : Heap, H = s.heap := ⟨_, rfl⟩
  rw [← hH] at hP
  rw [← hH]
  have hS : va_S A s.heap H [] := by rw [hH]; exact hS
  obtain ⟨locs, hlo⟩ : ∃ L : List Loc, L = [] := ⟨_, rfl⟩
  rw [← hlo] at hS
  rw [← hlo]
  clear hH hlo
  refine lv_aload_n hx hb dX0_walked_0 rfl (lv_at hl 0 rfl) ?_
  refine lv_aload_n hx hb dX0_walked_1 rfl (lv_at hl 1 rfl) ?_
  refine lv_iload_n hx hb dX0_walked_2 rfl (lv_at hl 2 rfl) ?_
  have hPc := hP.sub (ws' := [(zo2lirrr ch ft fr dr tO hO), (zaI dr cD 36 fD), (zaR tO cTO 3 (fun i => if i < 3 then some (rt i) else none)), (zaL (rt 0) cT 36 ft0), (zo10ririliiriririr sc aTp (nI ts) aHl (nI nh) (lN ee) mi sn aHs (nI n) aWk (nI wz) aBk (nI bz) aFc), (zaI aFc cFc 6 fFc)]) [0, 1, 2, 3, 5, 7] rfl
  have hDc := hD.sub (ws' := [(zo2lirrr ch ft fr dr tO hO), (zaI dr cD 36 fD), (zaR tO cTO 3 (fun i => if i < 3 then some (rt i) else none)), (zaL (rt 0) cT 36 ft0), (zo10ririliiriririr sc aTp (nI ts) aHl (nI nh) (lN ee) mi sn aHs (nI n) aWk (nI wz) aBk (nI bz) aFc), (zaI aFc cFc 6 fFc)]) [0, 1, 2, 3, 5, 7] (by decide) rfl
  have hKc := hK.sub (tys' := [(cD, .int), (cTO, .array .long), (cT, .long), (cFc, .int)]) [0, 1, 2, 5] rfl
  have hFc := va_free (wc := [(zo2lirrr ch ft fr dr tO hO), (zaI dr cD 36 fD), (zaR tO cTO 3 (fun i => if i < 3 then some (rt i) else none)), (zaL (rt 0) cT 36 ft0), (zo10ririliiriririr sc aTp (nI ts) aHl (nI nh) (lN ee) mi sn aHs (nI n) aWk (nI wz) aBk (nI bz) aFc), (zaI aFc cFc 6 fFc)]) hD hS hA [0, 1, 2, 3, 5, 7] rfl
  refine va_callv (va_runV (As := [.ref sc, .int (nI j)]) (rest := []) ⟨hx, hb, hml, hown, hts⟩ (c_xBegin l dC dI gd  sc ch aTp aHl aHs aWk aBk aFc bW bA bE bC dr tO hO ts nh n wz bz cl i j mi sn sg cdd szz att nmb fr (lN ee) ft cFc cbW cbA cbE cbC cD cTO cT fFc fbW fbA fbE fbC fD ft0 rt tpv cz H.size (zcl) (zE) (zC) (hj36) (zHC)) (cwV 2 hts gX0_walked_X0_begin rfl rfl rfl hd_yX0_begin ⟨Nat.le_of_ble_eq_true rfl, Nat.le_of_ble_eq_true rfl⟩) ⟨fun a U g mk q => by obtain ⟨q0, q1, qP, qK, qD, qhG, qhZ⟩ := q; exact ⟨q0, mvz g mk a q1, mvP g mk a qP, mvK g mk a qK, qD, qhG.mv g mk a, qhZ.mv g mk a⟩, va_recv hK hP (ci := 2) (q := (RX0, TX0, 5)) (q0 := 0) rfl rfl, fun U hU hW => ⟨rfl, by rw [hU], by rw [hU]; exact hPc, va_K.moved hW.alike hKc, hDc.weaken (fun _ _ _ _ => trivial), hG.call hS hU hW (fun q h => hFc q h), (hZ.sub [0, 1, 2, 3, 4] [0, 1, 2, 3] rfl rfl).call hS hU hW (fun q h => hFc q h)⟩⟩ rfl rfl hl.1 rfl (lv_room (Nat.le_of_ble_eq_true rfl)) dX0_walked_3 ⟨Nat.le_of_ble_eq_true rfl, Nat.le_of_ble_eq_true rfl⟩) hS (fun q _ h => hFc q h) hFc (fun u tC H1 locs htC hvm hw_2 hB hz1 hk1 hS => ?_)
  obtain ⟨fD9_3, ft09_4, fFc9_5⟩ := u
  try dsimp only at hw_2 hB
  obtain ⟨hP1, hK1, hD1⟩ := hB
  rw [htC] at hP1
  have hK1 := va_K.moved hvm.symm hK1
  obtain ⟨hP, hD⟩ := va_join (wr := [(zaL (rt 1) cT 36 ft1), (zaI aWk cWk 6 fWk)]) (w1 := [(zo2lirrr ch ft fr dr tO hO), (zaI dr cD 36 fD9_3), (zaR tO cTO 3 (fun i => if i < 3 then some (rt i) else none)), (zaL (rt 0) cT 36 ft09_4), (zo10ririliiriririr sc aTp (nI ts) aHl (nI nh) (lN ee) mi sn aHs (nI n) aWk (nI wz) aBk (nI bz) aFc), (zaI aFc cFc 6 fFc9_5)]) hP hD [0, 1, 2, 3, 5, 7] [4, 6] rfl rfl (by decide) (by decide) hk1 hFc hP1 hD1
  have hK := (hK.sub (tys' := [(cT, .long), (cWk, .int)]) [3, 4] rfl).app hK1
  generalize H1 = H at hP hS ⊢
  have hP : va_P (dC, dI) vwCl [(zaL (rt 1) cT 36 ft1), (zaI aWk cWk 6 fWk), (zo2lirrr ch ft fr dr tO hO), (zaI dr cD 36 fD9_3), (zaR tO cTO 3 (fun i => if i < 3 then some (rt i) else none)), (zaL (rt 0) cT 36 ft09_4), (zo10ririliiriririr sc aTp (nI ts) aHl (nI nh) (lN ee) mi sn aHs (nI n) aWk (nI wz) aBk (nI bz) aFc), (zaI aFc cFc 6 fFc9_5)] H := hP
  have hD : va_D A [(zaL (rt 1) cT 36 ft1), (zaI aWk cWk 6 fWk), (zo2lirrr ch ft fr dr tO hO), (zaI dr cD 36 fD9_3), (zaR tO cTO 3 (fun i => if i < 3 then some (rt i) else none)), (zaL (rt 0) cT 36 ft09_4), (zo10ririliiriririr sc aTp (nI ts) aHl (nI nh) (lN ee) mi sn aHs (nI n) aWk (nI wz) aBk (nI bz) aFc), (zaI aFc cFc 6 fFc9_5)] := hD
  have hK : va_K (dC, dI) vwCl [(cT, .long), (cWk, .int), (cD, .int), (cTO, .array .long), (cT, .long), (cFc, .int)] s := hK
  obtain ⟨hd0, hb0⟩ := hw_2
  have hw3 : WfC cz ∧ w3 cz ≤ 1000 := ⟨zHC.2, by have := w3_len cz; have := zHC.1.1; omega⟩
  have hd5 : ∀ c9, c9 < 36 → drN cz mi sn c9 ≤ 5 := fun c9 _ => (dr_ok hw3.1 hw3.2 c9).2
  have hdr : ∀ k0, k0 < 36 → fD9_3 k0 = nI (drN cz mi sn k0) ∧ drN cz mi sn k0 ≤ 5 := fun k0 h0 => by rw [hd0 k0 h0]; exact dr_ok hw3.1 hw3.2 k0
  have hT0 : lnA ft09_4 (ttN cz mi sn ee j 0 0) := hb0
  obtain ⟨T9, hT9⟩ : ∃ T : Nat → Nat → Nat, T = tmN (edB ee) (drN cz mi sn) wy j := ⟨_, rfl⟩
  have hTB := od_b hj36 hd5 hwy hT9
  have hT0 : lnA ft09_4 (T9 0) := by rw [hT9]; exact hb0
  refine lv_iconst (v := 0) hx hb dX0_walked_6 (by decide) ?_
  refine lv_istore (lv' := [(5, .int 0), (0, .ref ch), (1, .ref sc), (2, .int (nI j)), (3, .long (lN ma))]) hx hb dX0_walked_7 hl (by decide) rfl (fun ls hl => ?_)
  have L9 : ∀ (nF : Nat) (i : Nat) (f0b : Nat → Int64) (f1b : Nat → Int64), wz - i < nF → (i ≤ wz) → (lnA (if i % 2 = 0 then f0b else f1b) (T9 i)) → ∀ (H : Heap) (locs : List Loc), va_K (dC, dI) vwCl [(cD, .int), (cTO, .array .long), (cT, .long), (cT, .long), (cWk, .int), (cFc, .int)] s → va_P (dC, dI) vwCl [(zo2lirrr ch ft fr dr tO hO), (zaI dr cD 36 fD9_3), (zaR tO cTO 3 (fun i => if i < 3 then some (rt i) else none)), (zaL (rt 0) cT 36 f0b), (zaL (rt 1) cT 36 f1b), (zo10ririliiriririr sc aTp (nI ts) aHl (nI nh) (lN ee) mi sn aHs (nI n) aWk (nI wz) aBk (nI bz) aFc), (zaI aWk cWk 6 fWk), (zaI aFc cFc 6 fFc9_5)] H → va_D A [(zo2lirrr ch ft fr dr tO hO), (zaI dr cD 36 fD9_3), (zaR tO cTO 3 (fun i => if i < 3 then some (rt i) else none)), (zaL (rt 0) cT 36 f0b), (zaL (rt 1) cT 36 f1b), (zo10ririliiriririr sc aTp (nI ts) aHl (nI nh) (lN ee) mi sn aHs (nI n) aWk (nI wz) aBk (nI bz) aFc), (zaI aWk cWk 6 fWk), (zaI aFc cFc 6 fFc9_5)] → va_S A s.heap H locs → ∀ (ls : Array Slot), lv_has ls 9 [(0, .ref ch), (1, .ref sc), (2, .int (nI j)), (3, .long (lN ma)), (5, .int (nI i))] → W p l e ({ frames := 5, cells := 0, slots := 0, locals := 117 } : Room) s m args below meth c H locs 0 0 Q (F0 m 9 ls []) := by
    intro nF
    induction nF with
    | zero => intro i f0b f1b hm; exact absurd hm (Nat.not_lt_zero _)
    | succ nF ih9 =>
      intro i f0b f1b hm hi hTi H locs hK hP hD hS ls hl
      refine lv_iload hx hb dX0_walked_9 (lv_at hl 4 rfl) ?_
      refine lv_aload_n hx hb dX0_walked_11 rfl (lv_at hl 1 rfl) ?_
      refine va_get (D := (dC, dI)) (ci := 10) (v := .int (nI wz)) (C := RX8) (T := TX8) (N := 14) hx hb hts kc_xWalked_0 hown hK hP 5 rfl rfl 10 (by decide) (hts (.fieldLink RX0 31 "MistHeaps$Scene" "walkSize" "I") kc_xWalked_1) (fun _ h9 => h9) rfl dX0_walked_12 ?_
      refine lv_icmp_ge (tgt := 56) hx hb dX0_walked_15 (by decide) (fun c_6 => ?_) (fun c_6 => ?_)
      · skip
        have c_6 : wz ≤ i := (nI_leI (a := wz) (b := i) (by omega) (by omega)).mp c_6
        rcases Nat.mod_two_eq_zero_or_one wz with hp56 | hp56
        · skip
          have hTc : lnA f0b (T9 wz) := by rw [show i = wz by omega, if_pos hp56] at hTi; exact hTi
          refine lv_aload_n hx hb dX0_walked_56 rfl (lv_at hl 0 rfl) ?_
          refine va_get (D := (dC, dI)) (ci := 2) (v := .ref tO) (C := RX0) (T := TX0) (N := 5) hx hb hts kc_xWalked_2 hown hK hP 0 rfl rfl 3 (by decide) (hts (.fieldLink RX0 17 "MistHeaps$Chances" "times" "[[J") kc_xWalked_3) (fun _ h9 => h9) rfl dX0_walked_57 ?_
          refine lv_aload_n hx hb dX0_walked_60 rfl (lv_at hl 1 rfl) ?_
          refine va_get (D := (dC, dI)) (ci := 10) (v := .int (nI wz)) (C := RX8) (T := TX8) (N := 14) hx hb hts kc_xWalked_0 hown hK hP 5 rfl rfl 10 (by decide) (hts (.fieldLink RX0 31 "MistHeaps$Scene" "walkSize" "I") kc_xWalked_1) (fun _ h9 => h9) rfl dX0_walked_61 ?_
          refine lv_iconst (v := 1) hx hb dX0_walked_64 (by decide) ?_
          refine lv_iand hx hb dX0_walked_65 ?_
          refine qi_as (y := 0) (and1 (i := wz) (r := 0) (by omega) (by omega)) ?_
          refine va_alda hx hb hK hP 2 1 rfl rfl (vp_in_nI (n := 0) (N := 3) (by omega) (by omega)) dX0_walked_66 ?_
          refine qq_as (v := .ref (rt 0)) (rfl) ?_
          refine lv_astore (lv' := [(5, .ref (rt 0)), (0, .ref ch), (1, .ref sc), (2, .int (nI j)), (3, .long (lN ma))]) hx hb dX0_walked_67 hl (by decide) rfl (fun ls hl => ?_)
          refine lv_lconst (v := 0) hx hb dX0_walked_69 (by decide) ?_
          refine lv_lstore (lv' := [(6, .long 0), (5, .ref (rt 0)), (0, .ref ch), (1, .ref sc), (2, .int (nI j)), (3, .long (lN ma))]) hx hb dX0_walked_70 hl (by decide) rfl (fun ls hl => ?_)
          refine lv_iconst (v := 0) hx hb dX0_walked_72 (by decide) ?_
          refine lv_istore (lv' := [(8, .int 0), (6, .long 0), (5, .ref (rt 0)), (0, .ref ch), (1, .ref sc), (2, .int (nI j)), (3, .long (lN ma))]) hx hb dX0_walked_73 hl (by decide) rfl (fun ls hl => ?_)
          have L75 : ∀ (nF : Nat) (i : Nat) (q : Int64), 36 - i < nF → (i ≤ 36) → (q = lN (msN (fun kq => ma / 2 ^ kq % 2 = 1) (T9 wz) i)) → ∀ (H : Heap) (locs : List Loc), va_K (dC, dI) vwCl [(cD, .int), (cTO, .array .long), (cT, .long), (cT, .long), (cWk, .int), (cFc, .int)] s → va_P (dC, dI) vwCl [(zo2lirrr ch ft fr dr tO hO), (zaI dr cD 36 fD9_3), (zaR tO cTO 3 (fun i => if i < 3 then some (rt i) else none)), (zaL (rt 0) cT 36 f0b), (zaL (rt 1) cT 36 f1b), (zo10ririliiriririr sc aTp (nI ts) aHl (nI nh) (lN ee) mi sn aHs (nI n) aWk (nI wz) aBk (nI bz) aFc), (zaI aWk cWk 6 fWk), (zaI aFc cFc 6 fFc9_5)] H → va_D A [(zo2lirrr ch ft fr dr tO hO), (zaI dr cD 36 fD9_3), (zaR tO cTO 3 (fun i => if i < 3 then some (rt i) else none)), (zaL (rt 0) cT 36 f0b), (zaL (rt 1) cT 36 f1b), (zo10ririliiriririr sc aTp (nI ts) aHl (nI nh) (lN ee) mi sn aHs (nI n) aWk (nI wz) aBk (nI bz) aFc), (zaI aWk cWk 6 fWk), (zaI aFc cFc 6 fFc9_5)] → va_S A s.heap H locs → ∀ (ls : Array Slot), lv_has ls 9 [(0, .ref ch), (1, .ref sc), (2, .int (nI j)), (3, .long (lN ma)), (5, .ref (rt 0)), (6, .long q), (8, .int (nI i))] → W p l e ({ frames := 5, cells := 0, slots := 0, locals := 117 } : Room) s m args below meth c H locs 0 0 Q (F0 m 75 ls []) := by
            intro nF
            induction nF with
            | zero => intro i q hm; exact absurd hm (Nat.not_lt_zero _)
            | succ nF ih75 =>
              intro i q hm hi hq9 H locs hK hP hD hS ls hl
              refine lv_iload hx hb dX0_walked_75 (lv_at hl 6 rfl) ?_
              refine lv_bipush (v := 36) hx hb dX0_walked_77 (by decide) ?_
              refine lv_icmp_ge (tgt := 107) hx hb dX0_walked_79 (by decide) (fun c_7 => ?_) (fun c_7 => ?_)
              · skip
                have c_7 : 36 ≤ i := (nI_leI (a := 36) (b := i) (by omega) (by omega)).mp c_7
                refine lv_lload hx hb dX0_walked_107 (lv_at hl 5 rfl) ?_
                rw [hQ]
                have hP9 := hP.sub (ws' := [(zo2lirrr ch ft fr dr tO hO), (zaI dr cD 36 fD9_3), (zaR tO cTO 3 (fun i => if i < 3 then some (rt i) else none)), (zaL (rt 0) cT 36 f0b), (zaL (rt 1) cT 36 f1b), (zo10ririliiriririr sc aTp (nI ts) aHl (nI nh) (lN ee) mi sn aHs (nI n) aWk (nI wz) aBk (nI bz) aFc), (zaI aWk cWk 6 fWk), (zaI aFc cFc 6 fFc9_5)]) [0, 1, 2, 3, 4, 5, 6, 7] rfl
                have hD9 := hD.sub (ws' := [(zo2lirrr ch ft fr dr tO hO), (zaI dr cD 36 fD9_3), (zaR tO cTO 3 (fun i => if i < 3 then some (rt i) else none)), (zaL (rt 0) cT 36 f0b), (zaL (rt 1) cT 36 f1b), (zo10ririliiriririr sc aTp (nI ts) aHl (nI nh) (lN ee) mi sn aHs (nI n) aWk (nI wz) aBk (nI bz) aFc), (zaI aWk cWk 6 fWk), (zaI aFc cFc 6 fFc9_5)]) [0, 1, 2, 3, 4, 5, 6, 7] (by decide) rfl
                have hK9 := hK.sub (tys' := [(cD, .int), (cTO, .array .long), (cT, .long), (cT, .long), (cWk, .int), (cFc, .int)]) [0, 1, 2, 3, 4, 5] rfl
                exact W.lret (v := q) hx hb hr (fun tQ htQ hWQ => ⟨⟨q, (fD9_3, f0b, f1b, fFc9_5), rfl, by rw [hT9] at hq9; exact ms_e hq9 (by omega), by rw [htQ]; exact hP9, va_K.moved hWQ.alike hK9, hD9⟩, hS.F htQ⟩) hS.2.2 dX0_walked_109
              · skip
                have c_7 : ¬ 36 ≤ i := fun q => c_7 ((nI_leI (a := 36) (b := i) (by omega) (by omega)).mpr q)
                refine lv_lload_n hx hb dX0_walked_82 rfl (lv_at hl 3 rfl) ?_
                refine lv_iload hx hb dX0_walked_83 (lv_at hl 6 rfl) ?_
                refine vp_callSi (va_runSN (As := [.long (lN ma), .int (nI i)]) (rest := []) ⟨hx, hb, hml, hown, hts⟩ (c_isIn l dC dI (lN ma) (nI i)) ⟨va_cnB 2 hts ggX0_walked_X11_isIn rfl rfl rfl (hG.1 (.methodLinkNest RX0 44 yX11_isIn "MistHeaps") (by decide +kernel)) (hts (.initialized RX11) kc_xWalked_4) (by decide +kernel) ⟨Nat.le_of_ble_eq_true rfl, Nat.le_of_ble_eq_true rfl⟩, (hts (.static yX11_isIn) kc_xWalked_5), trivial⟩ ⟨fun a U g mk q => ⟨q.1, trivial⟩, fun U hU hW => ⟨rfl, trivial⟩⟩ rfl rfl hl.1 rfl (lv_room (Nat.le_of_ble_eq_true rfl)) dX0_walked_85 ⟨Nat.le_of_ble_eq_true rfl, Nat.le_of_ble_eq_true rfl⟩).run (fun r_8 hw_9 => ?_)
                rcases hw_9 with ⟨rfl, hd_10⟩ | ⟨rfl, hd_10⟩
                · skip
                  refine lv_if_eq (tgt := 101) hx hb dX0_walked_88 (by decide) (fun c_11 => absurd c_11 (by decide)) (fun _ => ?_)
                  refine lv_lload hx hb dX0_walked_91 (lv_at hl 5 rfl) ?_
                  refine lv_aload hx hb dX0_walked_93 (lv_at hl 4 rfl) ?_
                  refine lv_iload hx hb dX0_walked_95 (lv_at hl 6 rfl) ?_
                  refine va_lald hx hb hK hP 3 2 rfl rfl (vp_in_nI (n := i) (N := 36) (by omega) (by omega)) dX0_walked_97 ?_
                  refine ql_as (y := lN (T9 wz i)) ((show f0b (nI i : Int32).toNatClampNeg = f0b i from by rw [nI_clamp (by omega)]).trans (hTc i (by omega))) ?_
                  refine lv_ladd hx hb dX0_walked_98 ?_
                  refine lv_lstore (lv' := [(6, .long (q + (lN (T9 wz i)))), (0, .ref ch), (1, .ref sc), (2, .int (nI j)), (3, .long (lN ma)), (5, .ref (rt 0)), (8, .int (nI i))]) hx hb dX0_walked_99 hl (by decide) rfl (fun ls hl => ?_)
                  refine lv_iinc (v := nI (i + 1)) (lv' := [(8, .int (nI (i + 1))), (6, .long (q + (lN (T9 wz i)))), (0, .ref ch), (1, .ref sc), (2, .int (nI j)), (3, .long (lN ma)), (5, .ref (rt 0))]) hx hb dX0_walked_101 hl (k := 6) rfl (nI_add i 1) (by decide) rfl (fun ls hl => ?_)
                  refine lv_goto (tgt := 75) hx hb dX0_walked_104 (by decide) ?_
                  exact ih75 (i + 1) (q + (lN (T9 wz i))) (by omega) (by omega) (ms_t hq9 ((in_N hma (by omega)).mp hd_10)) _ _ (hK.sub [0, 1, 2, 3, 4, 5] rfl) (hP.sub [0, 1, 2, 3, 4, 5, 6, 7] rfl) (hD.sub [0, 1, 2, 3, 4, 5, 6, 7] (by decide) rfl) hS ls (lv_sub hl [2, 3, 4, 5, 6, 1, 0] rfl)
                · skip
                  refine lv_if_eq (tgt := 101) hx hb dX0_walked_88 (by decide) (fun _ => ?_) (fun c_12 => absurd c_12 (by decide))
                  refine lv_iinc (v := nI (i + 1)) (lv' := [(8, .int (nI (i + 1))), (0, .ref ch), (1, .ref sc), (2, .int (nI j)), (3, .long (lN ma)), (5, .ref (rt 0)), (6, .long q)]) hx hb dX0_walked_101 hl (k := 6) rfl (nI_add i 1) (by decide) rfl (fun ls hl => ?_)
                  refine lv_goto (tgt := 75) hx hb dX0_walked_104 (by decide) ?_
                  exact ih75 (i + 1) (q) (by omega) (by omega) (ms_f hq9 (fun z9 => hd_10 ((in_N hma (by omega)).mpr z9))) _ _ (hK.sub [0, 1, 2, 3, 4, 5] rfl) (hP.sub [0, 1, 2, 3, 4, 5, 6, 7] rfl) (hD.sub [0, 1, 2, 3, 4, 5, 6, 7] (by decide) rfl) hS ls (lv_sub hl [1, 2, 3, 4, 5, 6, 0] rfl)
          exact L75 _ (0) (0) (Nat.lt_succ_self _) (by omega) (rfl) _ _ (hK.sub [0, 1, 2, 3, 4, 5] rfl) (hP.sub [0, 1, 2, 3, 4, 5, 6, 7] rfl) (hD.sub [0, 1, 2, 3, 4, 5, 6, 7] (by decide) rfl) hS ls (lv_sub hl [3, 4, 5, 6, 2, 1, 0] rfl)
        · skip
          have hTc : lnA f1b (T9 wz) := by rw [show i = wz by omega, if_neg (show ¬ wz % 2 = 0 by omega)] at hTi; exact hTi
          refine lv_aload_n hx hb dX0_walked_56 rfl (lv_at hl 0 rfl) ?_
          refine va_get (D := (dC, dI)) (ci := 2) (v := .ref tO) (C := RX0) (T := TX0) (N := 5) hx hb hts kc_xWalked_2 hown hK hP 0 rfl rfl 3 (by decide) (hts (.fieldLink RX0 17 "MistHeaps$Chances" "times" "[[J") kc_xWalked_3) (fun _ h9 => h9) rfl dX0_walked_57 ?_
          refine lv_aload_n hx hb dX0_walked_60 rfl (lv_at hl 1 rfl) ?_
          refine va_get (D := (dC, dI)) (ci := 10) (v := .int (nI wz)) (C := RX8) (T := TX8) (N := 14) hx hb hts kc_xWalked_0 hown hK hP 5 rfl rfl 10 (by decide) (hts (.fieldLink RX0 31 "MistHeaps$Scene" "walkSize" "I") kc_xWalked_1) (fun _ h9 => h9) rfl dX0_walked_61 ?_
          refine lv_iconst (v := 1) hx hb dX0_walked_64 (by decide) ?_
          refine lv_iand hx hb dX0_walked_65 ?_
          refine qi_as (y := 1) (and1 (i := wz) (r := 1) (by omega) (by omega)) ?_
          refine va_alda hx hb hK hP 2 1 rfl rfl (vp_in_nI (n := 1) (N := 3) (by omega) (by omega)) dX0_walked_66 ?_
          refine qq_as (v := .ref (rt 1)) (rfl) ?_
          refine lv_astore (lv' := [(5, .ref (rt 1)), (0, .ref ch), (1, .ref sc), (2, .int (nI j)), (3, .long (lN ma))]) hx hb dX0_walked_67 hl (by decide) rfl (fun ls hl => ?_)
          refine lv_lconst (v := 0) hx hb dX0_walked_69 (by decide) ?_
          refine lv_lstore (lv' := [(6, .long 0), (5, .ref (rt 1)), (0, .ref ch), (1, .ref sc), (2, .int (nI j)), (3, .long (lN ma))]) hx hb dX0_walked_70 hl (by decide) rfl (fun ls hl => ?_)
          refine lv_iconst (v := 0) hx hb dX0_walked_72 (by decide) ?_
          refine lv_istore (lv' := [(8, .int 0), (6, .long 0), (5, .ref (rt 1)), (0, .ref ch), (1, .ref sc), (2, .int (nI j)), (3, .long (lN ma))]) hx hb dX0_walked_73 hl (by decide) rfl (fun ls hl => ?_)
          have L75 : ∀ (nF : Nat) (i : Nat) (q : Int64), 36 - i < nF → (i ≤ 36) → (q = lN (msN (fun kq => ma / 2 ^ kq % 2 = 1) (T9 wz) i)) → ∀ (H : Heap) (locs : List Loc), va_K (dC, dI) vwCl [(cD, .int), (cTO, .array .long), (cT, .long), (cT, .long), (cWk, .int), (cFc, .int)] s → va_P (dC, dI) vwCl [(zo2lirrr ch ft fr dr tO hO), (zaI dr cD 36 fD9_3), (zaR tO cTO 3 (fun i => if i < 3 then some (rt i) else none)), (zaL (rt 0) cT 36 f0b), (zaL (rt 1) cT 36 f1b), (zo10ririliiriririr sc aTp (nI ts) aHl (nI nh) (lN ee) mi sn aHs (nI n) aWk (nI wz) aBk (nI bz) aFc), (zaI aWk cWk 6 fWk), (zaI aFc cFc 6 fFc9_5)] H → va_D A [(zo2lirrr ch ft fr dr tO hO), (zaI dr cD 36 fD9_3), (zaR tO cTO 3 (fun i => if i < 3 then some (rt i) else none)), (zaL (rt 0) cT 36 f0b), (zaL (rt 1) cT 36 f1b), (zo10ririliiriririr sc aTp (nI ts) aHl (nI nh) (lN ee) mi sn aHs (nI n) aWk (nI wz) aBk (nI bz) aFc), (zaI aWk cWk 6 fWk), (zaI aFc cFc 6 fFc9_5)] → va_S A s.heap H locs → ∀ (ls : Array Slot), lv_has ls 9 [(0, .ref ch), (1, .ref sc), (2, .int (nI j)), (3, .long (lN ma)), (5, .ref (rt 1)), (6, .long q), (8, .int (nI i))] → W p l e ({ frames := 5, cells := 0, slots := 0, locals := 117 } : Room) s m args below meth c H locs 0 0 Q (F0 m 75 ls []) := by
            intro nF
            induction nF with
            | zero => intro i q hm; exact absurd hm (Nat.not_lt_zero _)
            | succ nF ih75 =>
              intro i q hm hi hq9 H locs hK hP hD hS ls hl
              refine lv_iload hx hb dX0_walked_75 (lv_at hl 6 rfl) ?_
              refine lv_bipush (v := 36) hx hb dX0_walked_77 (by decide) ?_
              refine lv_icmp_ge (tgt := 107) hx hb dX0_walked_79 (by decide) (fun c_13 => ?_) (fun c_13 => ?_)
              · skip
                have c_13 : 36 ≤ i := (nI_leI (a := 36) (b := i) (by omega) (by omega)).mp c_13
                refine lv_lload hx hb dX0_walked_107 (lv_at hl 5 rfl) ?_
                rw [hQ]
                have hP9 := hP.sub (ws' := [(zo2lirrr ch ft fr dr tO hO), (zaI dr cD 36 fD9_3), (zaR tO cTO 3 (fun i => if i < 3 then some (rt i) else none)), (zaL (rt 0) cT 36 f0b), (zaL (rt 1) cT 36 f1b), (zo10ririliiriririr sc aTp (nI ts) aHl (nI nh) (lN ee) mi sn aHs (nI n) aWk (nI wz) aBk (nI bz) aFc), (zaI aWk cWk 6 fWk), (zaI aFc cFc 6 fFc9_5)]) [0, 1, 2, 3, 4, 5, 6, 7] rfl
                have hD9 := hD.sub (ws' := [(zo2lirrr ch ft fr dr tO hO), (zaI dr cD 36 fD9_3), (zaR tO cTO 3 (fun i => if i < 3 then some (rt i) else none)), (zaL (rt 0) cT 36 f0b), (zaL (rt 1) cT 36 f1b), (zo10ririliiriririr sc aTp (nI ts) aHl (nI nh) (lN ee) mi sn aHs (nI n) aWk (nI wz) aBk (nI bz) aFc), (zaI aWk cWk 6 fWk), (zaI aFc cFc 6 fFc9_5)]) [0, 1, 2, 3, 4, 5, 6, 7] (by decide) rfl
                have hK9 := hK.sub (tys' := [(cD, .int), (cTO, .array .long), (cT, .long), (cT, .long), (cWk, .int), (cFc, .int)]) [0, 1, 2, 3, 4, 5] rfl
                exact W.lret (v := q) hx hb hr (fun tQ htQ hWQ => ⟨⟨q, (fD9_3, f0b, f1b, fFc9_5), rfl, by rw [hT9] at hq9; exact ms_e hq9 (by omega), by rw [htQ]; exact hP9, va_K.moved hWQ.alike hK9, hD9⟩, hS.F htQ⟩) hS.2.2 dX0_walked_109
              · skip
                have c_13 : ¬ 36 ≤ i := fun q => c_13 ((nI_leI (a := 36) (b := i) (by omega) (by omega)).mpr q)
                refine lv_lload_n hx hb dX0_walked_82 rfl (lv_at hl 3 rfl) ?_
                refine lv_iload hx hb dX0_walked_83 (lv_at hl 6 rfl) ?_
                refine vp_callSi (va_runSN (As := [.long (lN ma), .int (nI i)]) (rest := []) ⟨hx, hb, hml, hown, hts⟩ (c_isIn l dC dI (lN ma) (nI i)) ⟨va_cnB 2 hts ggX0_walked_X11_isIn rfl rfl rfl (hG.1 (.methodLinkNest RX0 44 yX11_isIn "MistHeaps") (by decide +kernel)) (hts (.initialized RX11) kc_xWalked_4) (by decide +kernel) ⟨Nat.le_of_ble_eq_true rfl, Nat.le_of_ble_eq_true rfl⟩, (hts (.static yX11_isIn) kc_xWalked_5), trivial⟩ ⟨fun a U g mk q => ⟨q.1, trivial⟩, fun U hU hW => ⟨rfl, trivial⟩⟩ rfl rfl hl.1 rfl (lv_room (Nat.le_of_ble_eq_true rfl)) dX0_walked_85 ⟨Nat.le_of_ble_eq_true rfl, Nat.le_of_ble_eq_true rfl⟩).run (fun r_14 hw_15 => ?_)
                rcases hw_15 with ⟨rfl, hd_16⟩ | ⟨rfl, hd_16⟩
                · skip
                  refine lv_if_eq (tgt := 101) hx hb dX0_walked_88 (by decide) (fun c_17 => absurd c_17 (by decide)) (fun _ => ?_)
                  refine lv_lload hx hb dX0_walked_91 (lv_at hl 5 rfl) ?_
                  refine lv_aload hx hb dX0_walked_93 (lv_at hl 4 rfl) ?_
                  refine lv_iload hx hb dX0_walked_95 (lv_at hl 6 rfl) ?_
                  refine va_lald hx hb hK hP 4 3 rfl rfl (vp_in_nI (n := i) (N := 36) (by omega) (by omega)) dX0_walked_97 ?_
                  refine ql_as (y := lN (T9 wz i)) ((show f1b (nI i : Int32).toNatClampNeg = f1b i from by rw [nI_clamp (by omega)]).trans (hTc i (by omega))) ?_
                  refine lv_ladd hx hb dX0_walked_98 ?_
                  refine lv_lstore (lv' := [(6, .long (q + (lN (T9 wz i)))), (0, .ref ch), (1, .ref sc), (2, .int (nI j)), (3, .long (lN ma)), (5, .ref (rt 1)), (8, .int (nI i))]) hx hb dX0_walked_99 hl (by decide) rfl (fun ls hl => ?_)
                  refine lv_iinc (v := nI (i + 1)) (lv' := [(8, .int (nI (i + 1))), (6, .long (q + (lN (T9 wz i)))), (0, .ref ch), (1, .ref sc), (2, .int (nI j)), (3, .long (lN ma)), (5, .ref (rt 1))]) hx hb dX0_walked_101 hl (k := 6) rfl (nI_add i 1) (by decide) rfl (fun ls hl => ?_)
                  refine lv_goto (tgt := 75) hx hb dX0_walked_104 (by decide) ?_
                  exact ih75 (i + 1) (q + (lN (T9 wz i))) (by omega) (by omega) (ms_t hq9 ((in_N hma (by omega)).mp hd_16)) _ _ (hK.sub [0, 1, 2, 3, 4, 5] rfl) (hP.sub [0, 1, 2, 3, 4, 5, 6, 7] rfl) (hD.sub [0, 1, 2, 3, 4, 5, 6, 7] (by decide) rfl) hS ls (lv_sub hl [2, 3, 4, 5, 6, 1, 0] rfl)
                · skip
                  refine lv_if_eq (tgt := 101) hx hb dX0_walked_88 (by decide) (fun _ => ?_) (fun c_18 => absurd c_18 (by decide))
                  refine lv_iinc (v := nI (i + 1)) (lv' := [(8, .int (nI (i + 1))), (0, .ref ch), (1, .ref sc), (2, .int (nI j)), (3, .long (lN ma)), (5, .ref (rt 1)), (6, .long q)]) hx hb dX0_walked_101 hl (k := 6) rfl (nI_add i 1) (by decide) rfl (fun ls hl => ?_)
                  refine lv_goto (tgt := 75) hx hb dX0_walked_104 (by decide) ?_
                  exact ih75 (i + 1) (q) (by omega) (by omega) (ms_f hq9 (fun z9 => hd_16 ((in_N hma (by omega)).mpr z9))) _ _ (hK.sub [0, 1, 2, 3, 4, 5] rfl) (hP.sub [0, 1, 2, 3, 4, 5, 6, 7] rfl) (hD.sub [0, 1, 2, 3, 4, 5, 6, 7] (by decide) rfl) hS ls (lv_sub hl [1, 2, 3, 4, 5, 6, 0] rfl)
          exact L75 _ (0) (0) (Nat.lt_succ_self _) (by omega) (rfl) _ _ (hK.sub [0, 1, 2, 3, 4, 5] rfl) (hP.sub [0, 1, 2, 3, 4, 5, 6, 7] rfl) (hD.sub [0, 1, 2, 3, 4, 5, 6, 7] (by decide) rfl) hS ls (lv_sub hl [3, 4, 5, 6, 2, 1, 0] rfl)
      · skip
        have c_6 : ¬ wz ≤ i := fun q => c_6 ((nI_leI (a := wz) (b := i) (by omega) (by omega)).mpr q)
        rcases Nat.mod_two_eq_zero_or_one i with hp18 | hp18
        · skip
          have hTc : lnA f0b (T9 i) := by rw [if_pos hp18] at hTi; exact hTi
          refine lv_aload_n hx hb dX0_walked_18 rfl (lv_at hl 0 rfl) ?_
          refine lv_aload_n hx hb dX0_walked_19 rfl (lv_at hl 1 rfl) ?_
          refine lv_aload_n hx hb dX0_walked_20 rfl (lv_at hl 0 rfl) ?_
          refine va_get (D := (dC, dI)) (ci := 2) (v := .ref tO) (C := RX0) (T := TX0) (N := 5) hx hb hts kc_xWalked_2 hown hK hP 0 rfl rfl 3 (by decide) (hts (.fieldLink RX0 17 "MistHeaps$Chances" "times" "[[J") kc_xWalked_3) (fun _ h9 => h9) rfl dX0_walked_21 ?_
          refine lv_iload hx hb dX0_walked_24 (lv_at hl 4 rfl) ?_
          refine lv_iconst (v := 1) hx hb dX0_walked_26 (by decide) ?_
          refine lv_iand hx hb dX0_walked_27 ?_
          refine qi_as (y := 0) (and1 (i := i) (r := 0) (by omega) (by omega)) ?_
          refine va_alda hx hb hK hP 2 1 rfl rfl (vp_in_nI (n := 0) (N := 3) (by omega) (by omega)) dX0_walked_28 ?_
          refine qq_as (v := .ref (rt 0)) (rfl) ?_
          refine lv_aload_n hx hb dX0_walked_29 rfl (lv_at hl 1 rfl) ?_
          refine va_get (D := (dC, dI)) (ci := 10) (v := .ref aWk) (C := RX8) (T := TX8) (N := 14) hx hb hts kc_xWalked_0 hown hK hP 5 rfl rfl 9 (by decide) (hts (.fieldLink RX0 37 "MistHeaps$Scene" "walk" "[I") kc_xWalked_6) (fun _ h9 => h9) rfl dX0_walked_30 ?_
          refine lv_iload hx hb dX0_walked_33 (lv_at hl 4 rfl) ?_
          refine va_iald hx hb hK hP 6 4 rfl rfl (vp_in_nI (n := i) (N := 6) (by omega) (by omega)) dX0_walked_35 ?_
          refine qi_as (y := nI (wy i)) ((show fWk (nI i : Int32).toNatClampNeg = fWk i from by rw [nI_clamp (by omega)]).trans (zwy i (by omega))) ?_
          refine lv_aload_n hx hb dX0_walked_36 rfl (lv_at hl 0 rfl) ?_
          refine va_get (D := (dC, dI)) (ci := 2) (v := .ref tO) (C := RX0) (T := TX0) (N := 5) hx hb hts kc_xWalked_2 hown hK hP 0 rfl rfl 3 (by decide) (hts (.fieldLink RX0 17 "MistHeaps$Chances" "times" "[[J") kc_xWalked_3) (fun _ h9 => h9) rfl dX0_walked_37 ?_
          refine lv_iload hx hb dX0_walked_40 (lv_at hl 4 rfl) ?_
          refine lv_iconst (v := 1) hx hb dX0_walked_42 (by decide) ?_
          refine lv_iadd hx hb dX0_walked_43 ?_
          refine qi_as (y := nI (i + 1)) (nI_add i 1) ?_
          refine lv_iconst (v := 1) hx hb dX0_walked_44 (by decide) ?_
          refine lv_iand hx hb dX0_walked_45 ?_
          refine qi_as (y := 1) (and1 (i := i + 1) (r := 1) (by omega) (by omega)) ?_
          refine va_alda hx hb hK hP 2 1 rfl rfl (vp_in_nI (n := 1) (N := 3) (by omega) (by omega)) dX0_walked_46 ?_
          refine qq_as (v := .ref (rt 1)) (rfl) ?_
          have hPc := hP.sub (ws' := [(zo2lirrr ch ft fr dr tO hO), (zaI dr cD 36 fD9_3), (zo10ririliiriririr sc aTp (nI ts) aHl (nI nh) (lN ee) mi sn aHs (nI n) aWk (nI wz) aBk (nI bz) aFc), (zaL (rt 0) cT 36 f0b), (zaL (rt 1) cT 36 f1b)]) [0, 1, 5, 3, 4] rfl
          have hDc := hD.sub (ws' := [(zo2lirrr ch ft fr dr tO hO), (zaI dr cD 36 fD9_3), (zo10ririliiriririr sc aTp (nI ts) aHl (nI nh) (lN ee) mi sn aHs (nI n) aWk (nI wz) aBk (nI bz) aFc), (zaL (rt 0) cT 36 f0b), (zaL (rt 1) cT 36 f1b)]) [0, 1, 5, 3, 4] (by decide) rfl
          have hKc := hK.sub (tys' := [(cD, .int), (cT, .long), (cT, .long)]) [0, 2, 3] rfl
          have hFc := va_free (wc := [(zo2lirrr ch ft fr dr tO hO), (zaI dr cD 36 fD9_3), (zo10ririliiriririr sc aTp (nI ts) aHl (nI nh) (lN ee) mi sn aHs (nI n) aWk (nI wz) aBk (nI bz) aFc), (zaL (rt 0) cT 36 f0b), (zaL (rt 1) cT 36 f1b)]) hD hS hA [0, 1, 5, 3, 4] rfl
          refine va_callv (va_runV (As := [.ref sc, .ref (rt 0), .int (nI (wy i)), .ref (rt 1)]) (rest := []) ⟨hx, hb, hml, hown, hts⟩ (c_xSpread l dC dI gd sc ch aTp aHl aHs aWk aBk aFc dr tO hO ts nh n wz bz (wy i) mi sn fr ft cD fD9_3 (rt 0) (rt 1) cT cT f0b f1b ee (T9 i) (drN cz mi sn) H.size (hwy i) (hTc) ((hTB i (by omega)).1) (hdr) (hee)) (cwV 4 hts gX0_walked_X0_spread rfl rfl rfl hd_yX0_spread ⟨Nat.le_of_ble_eq_true rfl, Nat.le_of_ble_eq_true rfl⟩) ⟨fun a U g mk q => by obtain ⟨q0, q1, qP, qK, qD, qhG⟩ := q; exact ⟨q0, mvz g mk a q1, mvP g mk a qP, mvK g mk a qK, qD, qhG.mv g mk a⟩, va_recv hK hP (ci := 2) (q := (RX0, TX0, 5)) (q0 := 0) rfl rfl, fun U hU hW => ⟨rfl, by rw [hU], by rw [hU]; exact hPc, va_K.moved hW.alike hKc, hDc.weaken (fun _ _ _ _ => trivial), hG.call hS hU hW (fun q h => hFc q h)⟩⟩ rfl rfl hl.1 rfl (lv_room (Nat.le_of_ble_eq_true rfl)) dX0_walked_47 ⟨Nat.le_of_ble_eq_true rfl, Nat.le_of_ble_eq_true rfl⟩) hS (fun q _ h => hFc q h) hFc (fun u tC H1 locs htC hvm hw_20 hB hz1 hk1 hS => ?_)
          obtain ⟨tt9_21, rfl⟩ : ∃ z, z = u := ⟨_, rfl⟩
          try dsimp only at hw_20 hB
          obtain ⟨hP1, hK1, hD1⟩ := hB
          rw [htC] at hP1
          have hK1 := va_K.moved hvm.symm hK1
          obtain ⟨hP, hD⟩ := va_join (wr := [(zaR tO cTO 3 (fun i => if i < 3 then some (rt i) else none)), (zaI aWk cWk 6 fWk), (zaI aFc cFc 6 fFc9_5)]) (w1 := [(zo2lirrr ch ft fr dr tO hO), (zaI dr cD 36 fD9_3), (zo10ririliiriririr sc aTp (nI ts) aHl (nI nh) (lN ee) mi sn aHs (nI n) aWk (nI wz) aBk (nI bz) aFc), (zaL (rt 0) cT 36 f0b), (zaL (rt 1) cT 36 tt9_21)]) hP hD [0, 1, 5, 3, 4] [2, 6, 7] rfl rfl (by decide) (by decide) hk1 hFc hP1 hD1
          have hK := (hK.sub (tys' := [(cTO, .array .long), (cWk, .int), (cFc, .int)]) [1, 4, 5] rfl).app hK1
          generalize H1 = H at hP hS ⊢
          have hP : va_P (dC, dI) vwCl [(zaR tO cTO 3 (fun i => if i < 3 then some (rt i) else none)), (zaI aWk cWk 6 fWk), (zaI aFc cFc 6 fFc9_5), (zo2lirrr ch ft fr dr tO hO), (zaI dr cD 36 fD9_3), (zo10ririliiriririr sc aTp (nI ts) aHl (nI nh) (lN ee) mi sn aHs (nI n) aWk (nI wz) aBk (nI bz) aFc), (zaL (rt 0) cT 36 f0b), (zaL (rt 1) cT 36 tt9_21)] H := hP
          have hD : va_D A [(zaR tO cTO 3 (fun i => if i < 3 then some (rt i) else none)), (zaI aWk cWk 6 fWk), (zaI aFc cFc 6 fFc9_5), (zo2lirrr ch ft fr dr tO hO), (zaI dr cD 36 fD9_3), (zo10ririliiriririr sc aTp (nI ts) aHl (nI nh) (lN ee) mi sn aHs (nI n) aWk (nI wz) aBk (nI bz) aFc), (zaL (rt 0) cT 36 f0b), (zaL (rt 1) cT 36 tt9_21)] := hD
          have hK : va_K (dC, dI) vwCl [(cTO, .array .long), (cWk, .int), (cFc, .int), (cD, .int), (cT, .long), (cT, .long)] s := hK
          have hT8 : lnA tt9_21 (T9 (i + 1)) := by rw [hT9] at hw_20 ⊢; exact hw_20
          refine lv_iinc (v := nI (i + 1)) (lv' := [(5, .int (nI (i + 1))), (0, .ref ch), (1, .ref sc), (2, .int (nI j)), (3, .long (lN ma))]) hx hb dX0_walked_50 hl (k := 4) rfl (nI_add i 1) (by decide) rfl (fun ls hl => ?_)
          refine lv_goto (tgt := 9) hx hb dX0_walked_53 (by decide) ?_
          exact ih9 (i + 1) (f0b) (tt9_21) (by omega) (by omega) (by rw [if_neg (show ¬ (i + 1) % 2 = 0 by omega)]; exact hT8) _ _ (hK.sub [3, 0, 4, 5, 1, 2] rfl) (hP.sub [3, 4, 0, 6, 7, 5, 1, 2] rfl) (hD.sub [3, 4, 0, 6, 7, 5, 1, 2] (by decide) rfl) hS ls (lv_sub hl [1, 2, 3, 4, 0] rfl)
        · skip
          have hTc : lnA f1b (T9 i) := by rw [if_neg (show ¬ i % 2 = 0 by omega)] at hTi; exact hTi
          refine lv_aload_n hx hb dX0_walked_18 rfl (lv_at hl 0 rfl) ?_
          refine lv_aload_n hx hb dX0_walked_19 rfl (lv_at hl 1 rfl) ?_
          refine lv_aload_n hx hb dX0_walked_20 rfl (lv_at hl 0 rfl) ?_
          refine va_get (D := (dC, dI)) (ci := 2) (v := .ref tO) (C := RX0) (T := TX0) (N := 5) hx hb hts kc_xWalked_2 hown hK hP 0 rfl rfl 3 (by decide) (hts (.fieldLink RX0 17 "MistHeaps$Chances" "times" "[[J") kc_xWalked_3) (fun _ h9 => h9) rfl dX0_walked_21 ?_
          refine lv_iload hx hb dX0_walked_24 (lv_at hl 4 rfl) ?_
          refine lv_iconst (v := 1) hx hb dX0_walked_26 (by decide) ?_
          refine lv_iand hx hb dX0_walked_27 ?_
          refine qi_as (y := 1) (and1 (i := i) (r := 1) (by omega) (by omega)) ?_
          refine va_alda hx hb hK hP 2 1 rfl rfl (vp_in_nI (n := 1) (N := 3) (by omega) (by omega)) dX0_walked_28 ?_
          refine qq_as (v := .ref (rt 1)) (rfl) ?_
          refine lv_aload_n hx hb dX0_walked_29 rfl (lv_at hl 1 rfl) ?_
          refine va_get (D := (dC, dI)) (ci := 10) (v := .ref aWk) (C := RX8) (T := TX8) (N := 14) hx hb hts kc_xWalked_0 hown hK hP 5 rfl rfl 9 (by decide) (hts (.fieldLink RX0 37 "MistHeaps$Scene" "walk" "[I") kc_xWalked_6) (fun _ h9 => h9) rfl dX0_walked_30 ?_
          refine lv_iload hx hb dX0_walked_33 (lv_at hl 4 rfl) ?_
          refine va_iald hx hb hK hP 6 4 rfl rfl (vp_in_nI (n := i) (N := 6) (by omega) (by omega)) dX0_walked_35 ?_
          refine qi_as (y := nI (wy i)) ((show fWk (nI i : Int32).toNatClampNeg = fWk i from by rw [nI_clamp (by omega)]).trans (zwy i (by omega))) ?_
          refine lv_aload_n hx hb dX0_walked_36 rfl (lv_at hl 0 rfl) ?_
          refine va_get (D := (dC, dI)) (ci := 2) (v := .ref tO) (C := RX0) (T := TX0) (N := 5) hx hb hts kc_xWalked_2 hown hK hP 0 rfl rfl 3 (by decide) (hts (.fieldLink RX0 17 "MistHeaps$Chances" "times" "[[J") kc_xWalked_3) (fun _ h9 => h9) rfl dX0_walked_37 ?_
          refine lv_iload hx hb dX0_walked_40 (lv_at hl 4 rfl) ?_
          refine lv_iconst (v := 1) hx hb dX0_walked_42 (by decide) ?_
          refine lv_iadd hx hb dX0_walked_43 ?_
          refine qi_as (y := nI (i + 1)) (nI_add i 1) ?_
          refine lv_iconst (v := 1) hx hb dX0_walked_44 (by decide) ?_
          refine lv_iand hx hb dX0_walked_45 ?_
          refine qi_as (y := 0) (and1 (i := i + 1) (r := 0) (by omega) (by omega)) ?_
          refine va_alda hx hb hK hP 2 1 rfl rfl (vp_in_nI (n := 0) (N := 3) (by omega) (by omega)) dX0_walked_46 ?_
          refine qq_as (v := .ref (rt 0)) (rfl) ?_
          have hPc := hP.sub (ws' := [(zo2lirrr ch ft fr dr tO hO), (zaI dr cD 36 fD9_3), (zo10ririliiriririr sc aTp (nI ts) aHl (nI nh) (lN ee) mi sn aHs (nI n) aWk (nI wz) aBk (nI bz) aFc), (zaL (rt 1) cT 36 f1b), (zaL (rt 0) cT 36 f0b)]) [0, 1, 5, 4, 3] rfl
          have hDc := hD.sub (ws' := [(zo2lirrr ch ft fr dr tO hO), (zaI dr cD 36 fD9_3), (zo10ririliiriririr sc aTp (nI ts) aHl (nI nh) (lN ee) mi sn aHs (nI n) aWk (nI wz) aBk (nI bz) aFc), (zaL (rt 1) cT 36 f1b), (zaL (rt 0) cT 36 f0b)]) [0, 1, 5, 4, 3] (by decide) rfl
          have hKc := hK.sub (tys' := [(cD, .int), (cT, .long), (cT, .long)]) [0, 3, 2] rfl
          have hFc := va_free (wc := [(zo2lirrr ch ft fr dr tO hO), (zaI dr cD 36 fD9_3), (zo10ririliiriririr sc aTp (nI ts) aHl (nI nh) (lN ee) mi sn aHs (nI n) aWk (nI wz) aBk (nI bz) aFc), (zaL (rt 1) cT 36 f1b), (zaL (rt 0) cT 36 f0b)]) hD hS hA [0, 1, 5, 4, 3] rfl
          refine va_callv (va_runV (As := [.ref sc, .ref (rt 1), .int (nI (wy i)), .ref (rt 0)]) (rest := []) ⟨hx, hb, hml, hown, hts⟩ (c_xSpread l dC dI gd sc ch aTp aHl aHs aWk aBk aFc dr tO hO ts nh n wz bz (wy i) mi sn fr ft cD fD9_3 (rt 1) (rt 0) cT cT f1b f0b ee (T9 i) (drN cz mi sn) H.size (hwy i) (hTc) ((hTB i (by omega)).1) (hdr) (hee)) (cwV 4 hts gX0_walked_X0_spread rfl rfl rfl hd_yX0_spread ⟨Nat.le_of_ble_eq_true rfl, Nat.le_of_ble_eq_true rfl⟩) ⟨fun a U g mk q => by obtain ⟨q0, q1, qP, qK, qD, qhG⟩ := q; exact ⟨q0, mvz g mk a q1, mvP g mk a qP, mvK g mk a qK, qD, qhG.mv g mk a⟩, va_recv hK hP (ci := 2) (q := (RX0, TX0, 5)) (q0 := 0) rfl rfl, fun U hU hW => ⟨rfl, by rw [hU], by rw [hU]; exact hPc, va_K.moved hW.alike hKc, hDc.weaken (fun _ _ _ _ => trivial), hG.call hS hU hW (fun q h => hFc q h)⟩⟩ rfl rfl hl.1 rfl (lv_room (Nat.le_of_ble_eq_true rfl)) dX0_walked_47 ⟨Nat.le_of_ble_eq_true rfl, Nat.le_of_ble_eq_true rfl⟩) hS (fun q _ h => hFc q h) hFc (fun u tC H1 locs htC hvm hw_23 hB hz1 hk1 hS => ?_)
          obtain ⟨tt9_24, rfl⟩ : ∃ z, z = u := ⟨_, rfl⟩
          try dsimp only at hw_23 hB
          obtain ⟨hP1, hK1, hD1⟩ := hB
          rw [htC] at hP1
          have hK1 := va_K.moved hvm.symm hK1
          obtain ⟨hP, hD⟩ := va_join (wr := [(zaR tO cTO 3 (fun i => if i < 3 then some (rt i) else none)), (zaI aWk cWk 6 fWk), (zaI aFc cFc 6 fFc9_5)]) (w1 := [(zo2lirrr ch ft fr dr tO hO), (zaI dr cD 36 fD9_3), (zo10ririliiriririr sc aTp (nI ts) aHl (nI nh) (lN ee) mi sn aHs (nI n) aWk (nI wz) aBk (nI bz) aFc), (zaL (rt 1) cT 36 f1b), (zaL (rt 0) cT 36 tt9_24)]) hP hD [0, 1, 5, 4, 3] [2, 6, 7] rfl rfl (by decide) (by decide) hk1 hFc hP1 hD1
          have hK := (hK.sub (tys' := [(cTO, .array .long), (cWk, .int), (cFc, .int)]) [1, 4, 5] rfl).app hK1
          generalize H1 = H at hP hS ⊢
          have hP : va_P (dC, dI) vwCl [(zaR tO cTO 3 (fun i => if i < 3 then some (rt i) else none)), (zaI aWk cWk 6 fWk), (zaI aFc cFc 6 fFc9_5), (zo2lirrr ch ft fr dr tO hO), (zaI dr cD 36 fD9_3), (zo10ririliiriririr sc aTp (nI ts) aHl (nI nh) (lN ee) mi sn aHs (nI n) aWk (nI wz) aBk (nI bz) aFc), (zaL (rt 1) cT 36 f1b), (zaL (rt 0) cT 36 tt9_24)] H := hP
          have hD : va_D A [(zaR tO cTO 3 (fun i => if i < 3 then some (rt i) else none)), (zaI aWk cWk 6 fWk), (zaI aFc cFc 6 fFc9_5), (zo2lirrr ch ft fr dr tO hO), (zaI dr cD 36 fD9_3), (zo10ririliiriririr sc aTp (nI ts) aHl (nI nh) (lN ee) mi sn aHs (nI n) aWk (nI wz) aBk (nI bz) aFc), (zaL (rt 1) cT 36 f1b), (zaL (rt 0) cT 36 tt9_24)] := hD
          have hK : va_K (dC, dI) vwCl [(cTO, .array .long), (cWk, .int), (cFc, .int), (cD, .int), (cT, .long), (cT, .long)] s := hK
          have hT8 : lnA tt9_24 (T9 (i + 1)) := by rw [hT9] at hw_23 ⊢; exact hw_23
          refine lv_iinc (v := nI (i + 1)) (lv' := [(5, .int (nI (i + 1))), (0, .ref ch), (1, .ref sc), (2, .int (nI j)), (3, .long (lN ma))]) hx hb dX0_walked_50 hl (k := 4) rfl (nI_add i 1) (by decide) rfl (fun ls hl => ?_)
          refine lv_goto (tgt := 9) hx hb dX0_walked_53 (by decide) ?_
          exact ih9 (i + 1) (tt9_24) (f1b) (by omega) (by omega) (by rw [if_pos (show (i + 1) % 2 = 0 by omega)]; exact hT8) _ _ (hK.sub [3, 0, 5, 4, 1, 2] rfl) (hP.sub [3, 4, 0, 7, 6, 5, 1, 2] rfl) (hD.sub [3, 4, 0, 7, 6, 5, 1, 2] (by decide) rfl) hS ls (lv_sub hl [1, 2, 3, 4, 0] rfl)
  exact L9 _ (0) (ft09_4) (ft1) (Nat.lt_succ_self _) (by omega) (hT0) _ _ (hK.sub [2, 3, 4, 0, 1, 5] rfl) (hP.sub [2, 3, 4, 5, 0, 6, 1, 7] rfl) (hD.sub [2, 3, 4, 5, 0, 6, 1, 7] (by decide) rfl) hS ls (lv_sub hl [1, 2, 3, 4, 0] rfl)
end mg15c
section mg15c
theorem ggJ1_indexOf_4cfef_J1_canEncode_9a6ad : GoodIn wsJ1_indexOf_4cfef wsJ1_canEncode_9a6ad := gga_of 474 rfl rfl rfl
theorem gJ1_indexOf_4cfef_J1_canEncode_9a6ad : GoodIn wsJ1_indexOf_4cfef (va_wsS RJ1 88 yJ1_canEncode_9a6ad wsJ1_canEncode_9a6ad) := goodIn_app (ggh_of [472, 473, 74] rfl rfl rfl) ggJ1_indexOf_4cfef_J1_canEncode_9a6ad
theorem ggJ1_indexOf_4cfef_J1_indexOfChar_4cfef : GoodIn wsJ1_indexOf_4cfef wsJ1_indexOfChar_4cfef := gga_of 481 rfl rfl rfl
theorem gJ1_indexOf_4cfef_J1_indexOfChar_4cfef : GoodIn wsJ1_indexOf_4cfef (va_wsS RJ1 95 yJ1_indexOfChar_4cfef wsJ1_indexOfChar_4cfef) := goodIn_app (ggh_of [479, 480, 74] rfl rfl rfl) ggJ1_indexOf_4cfef_J1_indexOfChar_4cfef
theorem ggJ0_indexOf_7cf53_J0_isLatin1_aae02 : GoodIn wsJ0_indexOf_7cf53 wsJ0_isLatin1_aae02 := gga_of 394 rfl rfl rfl
theorem gJ0_indexOf_7cf53_J0_isLatin1_aae02 : GoodIn wsJ0_indexOf_7cf53 (wsV RJ0 492 RJ0 yJ0_isLatin1_aae02 wsJ0_isLatin1_aae02) := goodIn_app (ggh_of [391, 392, 393, 73] rfl rfl rfl) ggJ0_indexOf_7cf53_J0_isLatin1_aae02
theorem ggJ0_indexOf_7cf53_J0_length_8abf5 : GoodIn wsJ0_indexOf_7cf53 wsJ0_length_8abf5 := gga_of 380 rfl rfl rfl
theorem gJ0_indexOf_7cf53_J0_length_8abf5 : GoodIn wsJ0_indexOf_7cf53 (wsV RJ0 505 RJ0 yJ0_length_8abf5 wsJ0_length_8abf5) := goodIn_app (ggh_of [468, 378, 379, 73] rfl rfl rfl) ggJ0_indexOf_7cf53_J0_length_8abf5
theorem ggJ0_indexOf_7cf53_J1_indexOf_4cfef : GoodIn wsJ0_indexOf_7cf53 wsJ1_indexOf_4cfef := gga_of 471 rfl rfl rfl
theorem gJ0_indexOf_7cf53_J1_indexOf_4cfef : GoodIn wsJ0_indexOf_7cf53 (va_wsS RJ0 637 yJ1_indexOf_4cfef wsJ1_indexOf_4cfef) := goodIn_app (ggh_of [469, 470, 74] rfl rfl rfl) ggJ0_indexOf_7cf53_J1_indexOf_4cfef
theorem ggJ0_indexOf_0f7a4_J0_indexOf_7cf53 : GoodIn wsJ0_indexOf_0f7a4 wsJ0_indexOf_7cf53 := gga_of 467 rfl rfl rfl
theorem gJ0_indexOf_0f7a4_J0_indexOf_7cf53 : GoodIn wsJ0_indexOf_0f7a4 (wsV RJ0 633 RJ0 yJ0_indexOf_7cf53 wsJ0_indexOf_7cf53) := goodIn_app (ggh_of [464, 465, 466, 73] rfl rfl rfl) ggJ0_indexOf_0f7a4_J0_indexOf_7cf53
theorem ggX5_readSign_X5_sign : GoodIn wsX5_readSign wsX5_sign := gga_of 435 rfl rfl rfl
theorem gX5_readSign_X5_sign : GoodIn wsX5_readSign (wsV RX5 93 RX5 yX5_sign wsX5_sign) := goodIn_app (ggh_of [432, 434, 3, 65] rfl rfl rfl) ggX5_readSign_X5_sign
theorem ggX5_readNumber_X5_sign : GoodIn wsX5_readNumber wsX5_sign := gga_of 435 rfl rfl rfl
theorem gX5_readNumber_X5_sign : GoodIn wsX5_readNumber (wsV RX5 93 RX5 yX5_sign wsX5_sign) := goodIn_app (ggh_of [432, 434, 3, 65] rfl rfl rfl) ggX5_readNumber_X5_sign
theorem ggX5_readNumber_X5_isDigit : GoodIn wsX5_readNumber wsX5_isDigit := gga_of 438 rfl rfl rfl
theorem gX5_readNumber_X5_isDigit : GoodIn wsX5_readNumber (va_wsS RX5 96 yX5_isDigit wsX5_isDigit) := goodIn_app (ggh_of [436, 437, 65] rfl rfl rfl) ggX5_readNumber_X5_isDigit
theorem ggX5_sameSigns_J0_length_8abf5 : GoodIn wsX5_sameSigns wsJ0_length_8abf5 := gga_of 380 rfl rfl rfl
theorem gX5_sameSigns_J0_length_8abf5 : GoodIn wsX5_sameSigns (wsV RX5 76 RJ0 yJ0_length_8abf5 wsJ0_length_8abf5) := goodIn_app (ggh_of [377, 378, 379, 73] rfl rfl rfl) ggX5_sameSigns_J0_length_8abf5
theorem ggX5_sameSigns_J0_charAt_5068e : GoodIn wsX5_sameSigns wsJ0_charAt_5068e := gga_of 390 rfl rfl rfl
theorem gX5_sameSigns_J0_charAt_5068e : GoodIn wsX5_sameSigns (wsV RX5 89 RJ0 yJ0_charAt_5068e wsJ0_charAt_5068e) := goodIn_app (ggh_of [387, 388, 389, 73] rfl rfl rfl) ggX5_sameSigns_J0_charAt_5068e
theorem ggX5_readWord_X5_textOf : GoodIn wsX5_readWord wsX5_textOf := gga_of 368 rfl rfl rfl
theorem gX5_readWord_X5_textOf : GoodIn wsX5_readWord (va_wsS RX5 62 yX5_textOf wsX5_textOf) := goodIn_app (ggh_of [366, 367, 65] rfl rfl rfl) ggX5_readWord_X5_textOf
theorem ggX5_readWord_X5_sameSigns : GoodIn wsX5_readWord wsX5_sameSigns := gga_of 376 rfl rfl rfl
theorem gX5_readWord_X5_sameSigns : GoodIn wsX5_readWord (wsV RX5 66 RX5 yX5_sameSigns wsX5_sameSigns) := goodIn_app (ggh_of [373, 375, 1, 65] rfl rfl rfl) ggX5_readWord_X5_sameSigns
theorem ggX5_readWord_J0_length_8abf5 : GoodIn wsX5_readWord wsJ0_length_8abf5 := gga_of 380 rfl rfl rfl
theorem gX5_readWord_J0_length_8abf5 : GoodIn wsX5_readWord (wsV RX5 76 RJ0 yJ0_length_8abf5 wsJ0_length_8abf5) := goodIn_app (ggh_of [377, 378, 379, 73] rfl rfl rfl) ggX5_readWord_J0_length_8abf5
theorem ggX5_readTest_X5_sign : GoodIn wsX5_readTest wsX5_sign := gga_of 435 rfl rfl rfl
theorem gX5_readTest_X5_sign : GoodIn wsX5_readTest (wsV RX5 93 RX5 yX5_sign wsX5_sign) := goodIn_app (ggh_of [432, 434, 3, 65] rfl rfl rfl) ggX5_readTest_X5_sign
theorem ggX5_readTest_J0_indexOf_0f7a4 : GoodIn wsX5_readTest wsJ0_indexOf_0f7a4 := gga_of 463 rfl rfl rfl
theorem gX5_readTest_J0_indexOf_0f7a4 : GoodIn wsX5_readTest (wsV RX5 114 RJ0 yJ0_indexOf_0f7a4 wsJ0_indexOf_0f7a4) := goodIn_app (ggh_of [460, 461, 462, 73] rfl rfl rfl) ggX5_readTest_J0_indexOf_0f7a4
theorem ggX5_readTest_X5_readNumber : GoodIn wsX5_readTest wsX5_readNumber := gga_of 431 rfl rfl rfl
theorem gX5_readTest_X5_readNumber : GoodIn wsX5_readTest (wsV RX5 44 RX5 yX5_readNumber wsX5_readNumber) := goodIn_app (ggh_of [428, 430, 2, 65] rfl rfl rfl) ggX5_readTest_X5_readNumber
theorem ggX5_readTest_X5_code : GoodIn wsX5_readTest wsX5_code := gga_of 521 rfl rfl rfl
theorem gX5_readTest_X5_code : GoodIn wsX5_readTest (wsV RX5 102 RX5 yX5_code wsX5_code) := goodIn_app (ggh_of [518, 520, 9, 65] rfl rfl rfl) ggX5_readTest_X5_code
noncomputable def dk15eread_cJ1_canEncode_9a6ad_0 : List (Nat × List Nat) := [(0, [26]), (1, [155, 0, 14]), (4, [26]), (5, [17, 0, 255]), (8, [163, 0, 7]), (11, [4]), (12, [167, 0, 4]), (16, [172])]
set_option maxRecDepth 100000 in
theorem dk15eread_cJ1_canEncode_9a6ad_0_a : btA cJ1_canEncode_9a6ad dk15eread_cJ1_canEncode_9a6ad_0 = true := by decide +kernel
theorem dJ1_canEncode_9a6ad_0 : decode cJ1_canEncode_9a6ad 0 = .ok (.iload_n 0, 1) := bd26 (btAt dk15eread_cJ1_canEncode_9a6ad_0_a 0 rfl)
theorem dJ1_canEncode_9a6ad_1 : decode cJ1_canEncode_9a6ad 1 = .ok (.ifCond .lt 14, 3) := bd155 (a := 0) (b := 14) (btAt dk15eread_cJ1_canEncode_9a6ad_0_a 1 rfl)
theorem dJ1_canEncode_9a6ad_4 : decode cJ1_canEncode_9a6ad 4 = .ok (.iload_n 0, 1) := bd26 (btAt dk15eread_cJ1_canEncode_9a6ad_0_a 2 rfl)
theorem dJ1_canEncode_9a6ad_5 : decode cJ1_canEncode_9a6ad 5 = .ok (.sipush 255, 3) := bd17 (a := 0) (b := 255) (btAt dk15eread_cJ1_canEncode_9a6ad_0_a 3 rfl)
theorem dJ1_canEncode_9a6ad_8 : decode cJ1_canEncode_9a6ad 8 = .ok (.if_icmp .gt 7, 3) := bd163 (a := 0) (b := 7) (btAt dk15eread_cJ1_canEncode_9a6ad_0_a 4 rfl)
theorem dJ1_canEncode_9a6ad_11 : decode cJ1_canEncode_9a6ad 11 = .ok (.iconst 1, 1) := bd4 (btAt dk15eread_cJ1_canEncode_9a6ad_0_a 5 rfl)
theorem dJ1_canEncode_9a6ad_12 : decode cJ1_canEncode_9a6ad 12 = .ok (.goto 4, 3) := bd167 (a := 0) (b := 4) (btAt dk15eread_cJ1_canEncode_9a6ad_0_a 6 rfl)
theorem dJ1_canEncode_9a6ad_16 : decode cJ1_canEncode_9a6ad 16 = .ok (.ireturn, 1) := bd172 (btAt dk15eread_cJ1_canEncode_9a6ad_0_a 7 rfl)
noncomputable def dk15eread_cJ1_indexOfChar_4cfef_0 : List (Nat × List Nat) := [(0, [27]), (1, [145]), (2, [54, 4]), (4, [28]), (5, [54, 5]), (7, [21, 5]), (9, [29]), (10, [162, 0, 21]), (13, [42]), (14, [21, 5]), (16, [51]), (17, [21, 4]), (19, [160, 0, 6]), (22, [21, 5]), (24, [172]), (25, [132, 5, 1]), (28, [167, 255, 235]), (31, [2]), (32, [172])]
set_option maxRecDepth 100000 in
theorem dk15eread_cJ1_indexOfChar_4cfef_0_a : btA cJ1_indexOfChar_4cfef dk15eread_cJ1_indexOfChar_4cfef_0 = true := by decide +kernel
theorem dJ1_indexOfChar_4cfef_0 : decode cJ1_indexOfChar_4cfef 0 = .ok (.iload_n 1, 1) := bd27 (btAt dk15eread_cJ1_indexOfChar_4cfef_0_a 0 rfl)
theorem dJ1_indexOfChar_4cfef_1 : decode cJ1_indexOfChar_4cfef 1 = .ok (.i2b, 1) := bd145 (btAt dk15eread_cJ1_indexOfChar_4cfef_0_a 1 rfl)
theorem dJ1_indexOfChar_4cfef_2 : decode cJ1_indexOfChar_4cfef 2 = .ok (.istore 4, 2) := bd54 (a := 4) (btAt dk15eread_cJ1_indexOfChar_4cfef_0_a 2 rfl)
theorem dJ1_indexOfChar_4cfef_4 : decode cJ1_indexOfChar_4cfef 4 = .ok (.iload_n 2, 1) := bd28 (btAt dk15eread_cJ1_indexOfChar_4cfef_0_a 3 rfl)
theorem dJ1_indexOfChar_4cfef_5 : decode cJ1_indexOfChar_4cfef 5 = .ok (.istore 5, 2) := bd54 (a := 5) (btAt dk15eread_cJ1_indexOfChar_4cfef_0_a 4 rfl)
theorem dJ1_indexOfChar_4cfef_7 : decode cJ1_indexOfChar_4cfef 7 = .ok (.iload 5, 2) := bd21 (a := 5) (btAt dk15eread_cJ1_indexOfChar_4cfef_0_a 5 rfl)
theorem dJ1_indexOfChar_4cfef_9 : decode cJ1_indexOfChar_4cfef 9 = .ok (.iload_n 3, 1) := bd29 (btAt dk15eread_cJ1_indexOfChar_4cfef_0_a 6 rfl)
theorem dJ1_indexOfChar_4cfef_10 : decode cJ1_indexOfChar_4cfef 10 = .ok (.if_icmp .ge 21, 3) := bd162 (a := 0) (b := 21) (btAt dk15eread_cJ1_indexOfChar_4cfef_0_a 7 rfl)
theorem dJ1_indexOfChar_4cfef_13 : decode cJ1_indexOfChar_4cfef 13 = .ok (.aload_n 0, 1) := bd42 (btAt dk15eread_cJ1_indexOfChar_4cfef_0_a 8 rfl)
theorem dJ1_indexOfChar_4cfef_14 : decode cJ1_indexOfChar_4cfef 14 = .ok (.iload 5, 2) := bd21 (a := 5) (btAt dk15eread_cJ1_indexOfChar_4cfef_0_a 9 rfl)
theorem dJ1_indexOfChar_4cfef_16 : decode cJ1_indexOfChar_4cfef 16 = .ok (.baload, 1) := bd51 (btAt dk15eread_cJ1_indexOfChar_4cfef_0_a 10 rfl)
theorem dJ1_indexOfChar_4cfef_17 : decode cJ1_indexOfChar_4cfef 17 = .ok (.iload 4, 2) := bd21 (a := 4) (btAt dk15eread_cJ1_indexOfChar_4cfef_0_a 11 rfl)
theorem dJ1_indexOfChar_4cfef_19 : decode cJ1_indexOfChar_4cfef 19 = .ok (.if_icmp .ne 6, 3) := bd160 (a := 0) (b := 6) (btAt dk15eread_cJ1_indexOfChar_4cfef_0_a 12 rfl)
theorem dJ1_indexOfChar_4cfef_22 : decode cJ1_indexOfChar_4cfef 22 = .ok (.iload 5, 2) := bd21 (a := 5) (btAt dk15eread_cJ1_indexOfChar_4cfef_0_a 13 rfl)
theorem dJ1_indexOfChar_4cfef_24 : decode cJ1_indexOfChar_4cfef 24 = .ok (.ireturn, 1) := bd172 (btAt dk15eread_cJ1_indexOfChar_4cfef_0_a 14 rfl)
theorem dJ1_indexOfChar_4cfef_25 : decode cJ1_indexOfChar_4cfef 25 = .ok (.iinc 5 1, 3) := bd132 (a := 5) (b := 1) (btAt dk15eread_cJ1_indexOfChar_4cfef_0_a 15 rfl)
theorem dJ1_indexOfChar_4cfef_28 : decode cJ1_indexOfChar_4cfef 28 = .ok (.goto (-21), 3) := bd167 (a := 255) (b := 235) (btAt dk15eread_cJ1_indexOfChar_4cfef_0_a 16 rfl)
theorem dJ1_indexOfChar_4cfef_31 : decode cJ1_indexOfChar_4cfef 31 = .ok (.iconst (-1), 1) := bd2 (btAt dk15eread_cJ1_indexOfChar_4cfef_0_a 17 rfl)
theorem dJ1_indexOfChar_4cfef_32 : decode cJ1_indexOfChar_4cfef 32 = .ok (.ireturn, 1) := bd172 (btAt dk15eread_cJ1_indexOfChar_4cfef_0_a 18 rfl)
noncomputable def dk15eread_cJ1_indexOf_4cfef_0 : List (Nat × List Nat) := [(0, [27]), (1, [184, 0, 88]), (4, [154, 0, 5]), (9, [28]), (10, [3]), (11, [184, 0, 92]), (14, [61]), (15, [29]), (16, [42]), (17, [190]), (18, [184, 0, 38]), (21, [62]), (22, [28]), (23, [29]), (24, [161, 0, 5]), (27, [2]), (28, [172]), (29, [42]), (30, [27]), (31, [28]), (32, [29]), (33, [184, 0, 95]), (36, [172])]
set_option maxRecDepth 100000 in
theorem dk15eread_cJ1_indexOf_4cfef_0_a : btA cJ1_indexOf_4cfef dk15eread_cJ1_indexOf_4cfef_0 = true := by decide +kernel
theorem dJ1_indexOf_4cfef_0 : decode cJ1_indexOf_4cfef 0 = .ok (.iload_n 1, 1) := bd27 (btAt dk15eread_cJ1_indexOf_4cfef_0_a 0 rfl)
theorem dJ1_indexOf_4cfef_1 : decode cJ1_indexOf_4cfef 1 = .ok (.invokestatic 88, 3) := bd184 (a := 0) (b := 88) (btAt dk15eread_cJ1_indexOf_4cfef_0_a 1 rfl)
theorem dJ1_indexOf_4cfef_4 : decode cJ1_indexOf_4cfef 4 = .ok (.ifCond .ne 5, 3) := bd154 (a := 0) (b := 5) (btAt dk15eread_cJ1_indexOf_4cfef_0_a 2 rfl)
theorem dJ1_indexOf_4cfef_9 : decode cJ1_indexOf_4cfef 9 = .ok (.iload_n 2, 1) := bd28 (btAt dk15eread_cJ1_indexOf_4cfef_0_a 3 rfl)
theorem dJ1_indexOf_4cfef_10 : decode cJ1_indexOf_4cfef 10 = .ok (.iconst 0, 1) := bd3 (btAt dk15eread_cJ1_indexOf_4cfef_0_a 4 rfl)
theorem dJ1_indexOf_4cfef_11 : decode cJ1_indexOf_4cfef 11 = .ok (.invokestatic 92, 3) := bd184 (a := 0) (b := 92) (btAt dk15eread_cJ1_indexOf_4cfef_0_a 5 rfl)
theorem dJ1_indexOf_4cfef_14 : decode cJ1_indexOf_4cfef 14 = .ok (.istore_n 2, 1) := bd61 (btAt dk15eread_cJ1_indexOf_4cfef_0_a 6 rfl)
theorem dJ1_indexOf_4cfef_15 : decode cJ1_indexOf_4cfef 15 = .ok (.iload_n 3, 1) := bd29 (btAt dk15eread_cJ1_indexOf_4cfef_0_a 7 rfl)
theorem dJ1_indexOf_4cfef_16 : decode cJ1_indexOf_4cfef 16 = .ok (.aload_n 0, 1) := bd42 (btAt dk15eread_cJ1_indexOf_4cfef_0_a 8 rfl)
theorem dJ1_indexOf_4cfef_17 : decode cJ1_indexOf_4cfef 17 = .ok (.arraylength, 1) := bd190 (btAt dk15eread_cJ1_indexOf_4cfef_0_a 9 rfl)
theorem dJ1_indexOf_4cfef_18 : decode cJ1_indexOf_4cfef 18 = .ok (.invokestatic 38, 3) := bd184 (a := 0) (b := 38) (btAt dk15eread_cJ1_indexOf_4cfef_0_a 10 rfl)
theorem dJ1_indexOf_4cfef_21 : decode cJ1_indexOf_4cfef 21 = .ok (.istore_n 3, 1) := bd62 (btAt dk15eread_cJ1_indexOf_4cfef_0_a 11 rfl)
theorem dJ1_indexOf_4cfef_22 : decode cJ1_indexOf_4cfef 22 = .ok (.iload_n 2, 1) := bd28 (btAt dk15eread_cJ1_indexOf_4cfef_0_a 12 rfl)
theorem dJ1_indexOf_4cfef_23 : decode cJ1_indexOf_4cfef 23 = .ok (.iload_n 3, 1) := bd29 (btAt dk15eread_cJ1_indexOf_4cfef_0_a 13 rfl)
theorem dJ1_indexOf_4cfef_24 : decode cJ1_indexOf_4cfef 24 = .ok (.if_icmp .lt 5, 3) := bd161 (a := 0) (b := 5) (btAt dk15eread_cJ1_indexOf_4cfef_0_a 14 rfl)
theorem dJ1_indexOf_4cfef_27 : decode cJ1_indexOf_4cfef 27 = .ok (.iconst (-1), 1) := bd2 (btAt dk15eread_cJ1_indexOf_4cfef_0_a 15 rfl)
theorem dJ1_indexOf_4cfef_28 : decode cJ1_indexOf_4cfef 28 = .ok (.ireturn, 1) := bd172 (btAt dk15eread_cJ1_indexOf_4cfef_0_a 16 rfl)
theorem dJ1_indexOf_4cfef_29 : decode cJ1_indexOf_4cfef 29 = .ok (.aload_n 0, 1) := bd42 (btAt dk15eread_cJ1_indexOf_4cfef_0_a 17 rfl)
theorem dJ1_indexOf_4cfef_30 : decode cJ1_indexOf_4cfef 30 = .ok (.iload_n 1, 1) := bd27 (btAt dk15eread_cJ1_indexOf_4cfef_0_a 18 rfl)
theorem dJ1_indexOf_4cfef_31 : decode cJ1_indexOf_4cfef 31 = .ok (.iload_n 2, 1) := bd28 (btAt dk15eread_cJ1_indexOf_4cfef_0_a 19 rfl)
theorem dJ1_indexOf_4cfef_32 : decode cJ1_indexOf_4cfef 32 = .ok (.iload_n 3, 1) := bd29 (btAt dk15eread_cJ1_indexOf_4cfef_0_a 20 rfl)
theorem dJ1_indexOf_4cfef_33 : decode cJ1_indexOf_4cfef 33 = .ok (.invokestatic 95, 3) := bd184 (a := 0) (b := 95) (btAt dk15eread_cJ1_indexOf_4cfef_0_a 21 rfl)
theorem dJ1_indexOf_4cfef_36 : decode cJ1_indexOf_4cfef 36 = .ok (.ireturn, 1) := bd172 (btAt dk15eread_cJ1_indexOf_4cfef_0_a 22 rfl)
noncomputable def dk15eread_cJ0_indexOf_7cf53_0 : List (Nat × List Nat) := [(0, [42]), (1, [182, 1, 236]), (4, [153, 0, 19]), (7, [42]), (8, [180, 0, 9]), (11, [27]), (12, [28]), (13, [42]), (14, [182, 1, 249]), (17, [184, 2, 125]), (20, [167, 0, 16]), (36, [172])]
set_option maxRecDepth 100000 in
theorem dk15eread_cJ0_indexOf_7cf53_0_a : btA cJ0_indexOf_7cf53 dk15eread_cJ0_indexOf_7cf53_0 = true := by decide +kernel
theorem dJ0_indexOf_7cf53_0 : decode cJ0_indexOf_7cf53 0 = .ok (.aload_n 0, 1) := bd42 (btAt dk15eread_cJ0_indexOf_7cf53_0_a 0 rfl)
theorem dJ0_indexOf_7cf53_1 : decode cJ0_indexOf_7cf53 1 = .ok (.invokevirtual 492, 3) := bd182 (a := 1) (b := 236) (btAt dk15eread_cJ0_indexOf_7cf53_0_a 1 rfl)
theorem dJ0_indexOf_7cf53_4 : decode cJ0_indexOf_7cf53 4 = .ok (.ifCond .eq 19, 3) := bd153 (a := 0) (b := 19) (btAt dk15eread_cJ0_indexOf_7cf53_0_a 2 rfl)
theorem dJ0_indexOf_7cf53_7 : decode cJ0_indexOf_7cf53 7 = .ok (.aload_n 0, 1) := bd42 (btAt dk15eread_cJ0_indexOf_7cf53_0_a 3 rfl)
theorem dJ0_indexOf_7cf53_8 : decode cJ0_indexOf_7cf53 8 = .ok (.getfield 9, 3) := bd180 (a := 0) (b := 9) (btAt dk15eread_cJ0_indexOf_7cf53_0_a 4 rfl)
theorem dJ0_indexOf_7cf53_11 : decode cJ0_indexOf_7cf53 11 = .ok (.iload_n 1, 1) := bd27 (btAt dk15eread_cJ0_indexOf_7cf53_0_a 5 rfl)
theorem dJ0_indexOf_7cf53_12 : decode cJ0_indexOf_7cf53 12 = .ok (.iload_n 2, 1) := bd28 (btAt dk15eread_cJ0_indexOf_7cf53_0_a 6 rfl)
theorem dJ0_indexOf_7cf53_13 : decode cJ0_indexOf_7cf53 13 = .ok (.aload_n 0, 1) := bd42 (btAt dk15eread_cJ0_indexOf_7cf53_0_a 7 rfl)
theorem dJ0_indexOf_7cf53_14 : decode cJ0_indexOf_7cf53 14 = .ok (.invokevirtual 505, 3) := bd182 (a := 1) (b := 249) (btAt dk15eread_cJ0_indexOf_7cf53_0_a 8 rfl)
theorem dJ0_indexOf_7cf53_17 : decode cJ0_indexOf_7cf53 17 = .ok (.invokestatic 637, 3) := bd184 (a := 2) (b := 125) (btAt dk15eread_cJ0_indexOf_7cf53_0_a 9 rfl)
theorem dJ0_indexOf_7cf53_20 : decode cJ0_indexOf_7cf53 20 = .ok (.goto 16, 3) := bd167 (a := 0) (b := 16) (btAt dk15eread_cJ0_indexOf_7cf53_0_a 10 rfl)
theorem dJ0_indexOf_7cf53_36 : decode cJ0_indexOf_7cf53 36 = .ok (.ireturn, 1) := bd172 (btAt dk15eread_cJ0_indexOf_7cf53_0_a 11 rfl)
noncomputable def dk15eread_cJ0_indexOf_0f7a4_0 : List (Nat × List Nat) := [(0, [42]), (1, [27]), (2, [3]), (3, [182, 2, 121]), (6, [172])]
set_option maxRecDepth 100000 in
theorem dk15eread_cJ0_indexOf_0f7a4_0_a : btA cJ0_indexOf_0f7a4 dk15eread_cJ0_indexOf_0f7a4_0 = true := by decide +kernel
theorem dJ0_indexOf_0f7a4_0 : decode cJ0_indexOf_0f7a4 0 = .ok (.aload_n 0, 1) := bd42 (btAt dk15eread_cJ0_indexOf_0f7a4_0_a 0 rfl)
theorem dJ0_indexOf_0f7a4_1 : decode cJ0_indexOf_0f7a4 1 = .ok (.iload_n 1, 1) := bd27 (btAt dk15eread_cJ0_indexOf_0f7a4_0_a 1 rfl)
theorem dJ0_indexOf_0f7a4_2 : decode cJ0_indexOf_0f7a4 2 = .ok (.iconst 0, 1) := bd3 (btAt dk15eread_cJ0_indexOf_0f7a4_0_a 2 rfl)
theorem dJ0_indexOf_0f7a4_3 : decode cJ0_indexOf_0f7a4 3 = .ok (.invokevirtual 633, 3) := bd182 (a := 2) (b := 121) (btAt dk15eread_cJ0_indexOf_0f7a4_0_a 3 rfl)
theorem dJ0_indexOf_0f7a4_6 : decode cJ0_indexOf_0f7a4 6 = .ok (.ireturn, 1) := bd172 (btAt dk15eread_cJ0_indexOf_0f7a4_0_a 4 rfl)
noncomputable def dk15eread_cX5_textOf_0 : List (Nat × List Nat) := [(0, [26]), (28, [18, 81]), (30, [176]), (31, [18, 83]), (33, [176]), (34, [18, 85]), (36, [176]), (37, [18, 87]), (39, [176])]
set_option maxRecDepth 100000 in
theorem dk15eread_cX5_textOf_0_a : btA cX5_textOf dk15eread_cX5_textOf_0 = true := by decide +kernel
theorem dX5_textOf_0 : decode cX5_textOf 0 = .ok (.iload_n 0, 1) := bd26 (btAt dk15eread_cX5_textOf_0_a 0 rfl)
theorem dX5_textOf_28 : decode cX5_textOf 28 = .ok (.ldc 81, 2) := bd18 (a := 81) (btAt dk15eread_cX5_textOf_0_a 1 rfl)
theorem dX5_textOf_30 : decode cX5_textOf 30 = .ok (.areturn, 1) := bd176 (btAt dk15eread_cX5_textOf_0_a 2 rfl)
theorem dX5_textOf_31 : decode cX5_textOf 31 = .ok (.ldc 83, 2) := bd18 (a := 83) (btAt dk15eread_cX5_textOf_0_a 3 rfl)
theorem dX5_textOf_33 : decode cX5_textOf 33 = .ok (.areturn, 1) := bd176 (btAt dk15eread_cX5_textOf_0_a 4 rfl)
theorem dX5_textOf_34 : decode cX5_textOf 34 = .ok (.ldc 85, 2) := bd18 (a := 85) (btAt dk15eread_cX5_textOf_0_a 5 rfl)
theorem dX5_textOf_36 : decode cX5_textOf 36 = .ok (.areturn, 1) := bd176 (btAt dk15eread_cX5_textOf_0_a 6 rfl)
theorem dX5_textOf_37 : decode cX5_textOf 37 = .ok (.ldc 87, 2) := bd18 (a := 87) (btAt dk15eread_cX5_textOf_0_a 7 rfl)
theorem dX5_textOf_39 : decode cX5_textOf 39 = .ok (.areturn, 1) := bd176 (btAt dk15eread_cX5_textOf_0_a 8 rfl)
set_option maxRecDepth 100000 in
theorem dX5_textOf_1 : decode cX5_textOf 1 = .ok (.tableswitch 36 0 2 #[27, 30, 33], 27) := by decide +kernel
noncomputable def dk15eread_cX5_sign_0 : List (Nat × List Nat) := [(0, [42]), (1, [180, 0, 34]), (4, [42]), (5, [180, 0, 31]), (8, [162, 0, 15]), (11, [42]), (12, [180, 0, 28]), (15, [42]), (16, [180, 0, 34]), (19, [46]), (20, [167, 0, 4]), (23, [3]), (24, [172])]
set_option maxRecDepth 100000 in
theorem dk15eread_cX5_sign_0_a : btA cX5_sign dk15eread_cX5_sign_0 = true := by decide +kernel
theorem dX5_sign_0 : decode cX5_sign 0 = .ok (.aload_n 0, 1) := bd42 (btAt dk15eread_cX5_sign_0_a 0 rfl)
theorem dX5_sign_1 : decode cX5_sign 1 = .ok (.getfield 34, 3) := bd180 (a := 0) (b := 34) (btAt dk15eread_cX5_sign_0_a 1 rfl)
theorem dX5_sign_4 : decode cX5_sign 4 = .ok (.aload_n 0, 1) := bd42 (btAt dk15eread_cX5_sign_0_a 2 rfl)
theorem dX5_sign_5 : decode cX5_sign 5 = .ok (.getfield 31, 3) := bd180 (a := 0) (b := 31) (btAt dk15eread_cX5_sign_0_a 3 rfl)
theorem dX5_sign_8 : decode cX5_sign 8 = .ok (.if_icmp .ge 15, 3) := bd162 (a := 0) (b := 15) (btAt dk15eread_cX5_sign_0_a 4 rfl)
theorem dX5_sign_11 : decode cX5_sign 11 = .ok (.aload_n 0, 1) := bd42 (btAt dk15eread_cX5_sign_0_a 5 rfl)
theorem dX5_sign_12 : decode cX5_sign 12 = .ok (.getfield 28, 3) := bd180 (a := 0) (b := 28) (btAt dk15eread_cX5_sign_0_a 6 rfl)
theorem dX5_sign_15 : decode cX5_sign 15 = .ok (.aload_n 0, 1) := bd42 (btAt dk15eread_cX5_sign_0_a 7 rfl)
theorem dX5_sign_16 : decode cX5_sign 16 = .ok (.getfield 34, 3) := bd180 (a := 0) (b := 34) (btAt dk15eread_cX5_sign_0_a 8 rfl)
theorem dX5_sign_19 : decode cX5_sign 19 = .ok (.iaload, 1) := bd46 (btAt dk15eread_cX5_sign_0_a 9 rfl)
theorem dX5_sign_20 : decode cX5_sign 20 = .ok (.goto 4, 3) := bd167 (a := 0) (b := 4) (btAt dk15eread_cX5_sign_0_a 10 rfl)
theorem dX5_sign_23 : decode cX5_sign 23 = .ok (.iconst 0, 1) := bd3 (btAt dk15eread_cX5_sign_0_a 11 rfl)
theorem dX5_sign_24 : decode cX5_sign 24 = .ok (.ireturn, 1) := bd172 (btAt dk15eread_cX5_sign_0_a 12 rfl)
noncomputable def dk15eread_cX5_isDigit_0 : List (Nat × List Nat) := [(0, [26]), (1, [16, 48]), (3, [161, 0, 13]), (6, [26]), (7, [16, 57]), (9, [163, 0, 7]), (12, [4]), (13, [167, 0, 4]), (16, [3]), (17, [172])]
set_option maxRecDepth 100000 in
theorem dk15eread_cX5_isDigit_0_a : btA cX5_isDigit dk15eread_cX5_isDigit_0 = true := by decide +kernel
theorem dX5_isDigit_0 : decode cX5_isDigit 0 = .ok (.iload_n 0, 1) := bd26 (btAt dk15eread_cX5_isDigit_0_a 0 rfl)
theorem dX5_isDigit_1 : decode cX5_isDigit 1 = .ok (.bipush 48, 2) := bd16 (a := 48) (btAt dk15eread_cX5_isDigit_0_a 1 rfl)
theorem dX5_isDigit_3 : decode cX5_isDigit 3 = .ok (.if_icmp .lt 13, 3) := bd161 (a := 0) (b := 13) (btAt dk15eread_cX5_isDigit_0_a 2 rfl)
theorem dX5_isDigit_6 : decode cX5_isDigit 6 = .ok (.iload_n 0, 1) := bd26 (btAt dk15eread_cX5_isDigit_0_a 3 rfl)
theorem dX5_isDigit_7 : decode cX5_isDigit 7 = .ok (.bipush 57, 2) := bd16 (a := 57) (btAt dk15eread_cX5_isDigit_0_a 4 rfl)
theorem dX5_isDigit_9 : decode cX5_isDigit 9 = .ok (.if_icmp .gt 7, 3) := bd163 (a := 0) (b := 7) (btAt dk15eread_cX5_isDigit_0_a 5 rfl)
theorem dX5_isDigit_12 : decode cX5_isDigit 12 = .ok (.iconst 1, 1) := bd4 (btAt dk15eread_cX5_isDigit_0_a 6 rfl)
theorem dX5_isDigit_13 : decode cX5_isDigit 13 = .ok (.goto 4, 3) := bd167 (a := 0) (b := 4) (btAt dk15eread_cX5_isDigit_0_a 7 rfl)
theorem dX5_isDigit_16 : decode cX5_isDigit 16 = .ok (.iconst 0, 1) := bd3 (btAt dk15eread_cX5_isDigit_0_a 8 rfl)
theorem dX5_isDigit_17 : decode cX5_isDigit 17 = .ok (.ireturn, 1) := bd172 (btAt dk15eread_cX5_isDigit_0_a 9 rfl)
noncomputable def dk15eread_cX5_readSign_0 : List (Nat × List Nat) := [(0, [42]), (1, [182, 0, 93]), (4, [27]), (5, [159, 0, 5]), (8, [3]), (9, [172]), (10, [42]), (11, [89]), (12, [180, 0, 34]), (15, [4]), (16, [96]), (17, [181, 0, 34]), (20, [4]), (21, [172])]
set_option maxRecDepth 100000 in
theorem dk15eread_cX5_readSign_0_a : btA cX5_readSign dk15eread_cX5_readSign_0 = true := by decide +kernel
theorem dX5_readSign_0 : decode cX5_readSign 0 = .ok (.aload_n 0, 1) := bd42 (btAt dk15eread_cX5_readSign_0_a 0 rfl)
theorem dX5_readSign_1 : decode cX5_readSign 1 = .ok (.invokevirtual 93, 3) := bd182 (a := 0) (b := 93) (btAt dk15eread_cX5_readSign_0_a 1 rfl)
theorem dX5_readSign_4 : decode cX5_readSign 4 = .ok (.iload_n 1, 1) := bd27 (btAt dk15eread_cX5_readSign_0_a 2 rfl)
theorem dX5_readSign_5 : decode cX5_readSign 5 = .ok (.if_icmp .eq 5, 3) := bd159 (a := 0) (b := 5) (btAt dk15eread_cX5_readSign_0_a 3 rfl)
theorem dX5_readSign_8 : decode cX5_readSign 8 = .ok (.iconst 0, 1) := bd3 (btAt dk15eread_cX5_readSign_0_a 4 rfl)
theorem dX5_readSign_9 : decode cX5_readSign 9 = .ok (.ireturn, 1) := bd172 (btAt dk15eread_cX5_readSign_0_a 5 rfl)
theorem dX5_readSign_10 : decode cX5_readSign 10 = .ok (.aload_n 0, 1) := bd42 (btAt dk15eread_cX5_readSign_0_a 6 rfl)
theorem dX5_readSign_11 : decode cX5_readSign 11 = .ok (.dup, 1) := bd89 (btAt dk15eread_cX5_readSign_0_a 7 rfl)
theorem dX5_readSign_12 : decode cX5_readSign 12 = .ok (.getfield 34, 3) := bd180 (a := 0) (b := 34) (btAt dk15eread_cX5_readSign_0_a 8 rfl)
theorem dX5_readSign_15 : decode cX5_readSign 15 = .ok (.iconst 1, 1) := bd4 (btAt dk15eread_cX5_readSign_0_a 9 rfl)
theorem dX5_readSign_16 : decode cX5_readSign 16 = .ok (.iadd, 1) := bd96 (btAt dk15eread_cX5_readSign_0_a 10 rfl)
theorem dX5_readSign_17 : decode cX5_readSign 17 = .ok (.putfield 34, 3) := bd181 (a := 0) (b := 34) (btAt dk15eread_cX5_readSign_0_a 11 rfl)
theorem dX5_readSign_20 : decode cX5_readSign 20 = .ok (.iconst 1, 1) := bd4 (btAt dk15eread_cX5_readSign_0_a 12 rfl)
theorem dX5_readSign_21 : decode cX5_readSign 21 = .ok (.ireturn, 1) := bd172 (btAt dk15eread_cX5_readSign_0_a 13 rfl)
noncomputable def dk15eread_cX5_readNumber_0 : List (Nat × List Nat) := [(0, [42]), (1, [182, 0, 93]), (4, [184, 0, 96]), (7, [154, 0, 5]), (12, [42]), (13, [42]), (14, [182, 0, 93]), (17, [16, 48]), (19, [100]), (20, [181, 0, 48]), (23, [42]), (24, [89]), (25, [180, 0, 34]), (28, [4]), (29, [96]), (30, [181, 0, 34]), (33, [42]), (34, [180, 0, 48]), (37, [158, 0, 42]), (40, [42]), (41, [182, 0, 93]), (44, [184, 0, 96]), (47, [153, 0, 32]), (50, [42]), (51, [42]), (52, [180, 0, 48]), (55, [16, 10]), (57, [104]), (58, [42]), (59, [182, 0, 93]), (62, [96]), (63, [16, 48]), (65, [100]), (66, [181, 0, 48]), (69, [42]), (70, [89]), (71, [180, 0, 34]), (74, [4]), (79, [4]), (80, [172])]
set_option maxRecDepth 100000 in
theorem dk15eread_cX5_readNumber_0_a : btA cX5_readNumber dk15eread_cX5_readNumber_0 = true := by decide +kernel
theorem dX5_readNumber_0 : decode cX5_readNumber 0 = .ok (.aload_n 0, 1) := bd42 (btAt dk15eread_cX5_readNumber_0_a 0 rfl)
theorem dX5_readNumber_1 : decode cX5_readNumber 1 = .ok (.invokevirtual 93, 3) := bd182 (a := 0) (b := 93) (btAt dk15eread_cX5_readNumber_0_a 1 rfl)
theorem dX5_readNumber_4 : decode cX5_readNumber 4 = .ok (.invokestatic 96, 3) := bd184 (a := 0) (b := 96) (btAt dk15eread_cX5_readNumber_0_a 2 rfl)
theorem dX5_readNumber_7 : decode cX5_readNumber 7 = .ok (.ifCond .ne 5, 3) := bd154 (a := 0) (b := 5) (btAt dk15eread_cX5_readNumber_0_a 3 rfl)
theorem dX5_readNumber_12 : decode cX5_readNumber 12 = .ok (.aload_n 0, 1) := bd42 (btAt dk15eread_cX5_readNumber_0_a 4 rfl)
theorem dX5_readNumber_13 : decode cX5_readNumber 13 = .ok (.aload_n 0, 1) := bd42 (btAt dk15eread_cX5_readNumber_0_a 5 rfl)
theorem dX5_readNumber_14 : decode cX5_readNumber 14 = .ok (.invokevirtual 93, 3) := bd182 (a := 0) (b := 93) (btAt dk15eread_cX5_readNumber_0_a 6 rfl)
theorem dX5_readNumber_17 : decode cX5_readNumber 17 = .ok (.bipush 48, 2) := bd16 (a := 48) (btAt dk15eread_cX5_readNumber_0_a 7 rfl)
theorem dX5_readNumber_19 : decode cX5_readNumber 19 = .ok (.isub, 1) := bd100 (btAt dk15eread_cX5_readNumber_0_a 8 rfl)
theorem dX5_readNumber_20 : decode cX5_readNumber 20 = .ok (.putfield 48, 3) := bd181 (a := 0) (b := 48) (btAt dk15eread_cX5_readNumber_0_a 9 rfl)
theorem dX5_readNumber_23 : decode cX5_readNumber 23 = .ok (.aload_n 0, 1) := bd42 (btAt dk15eread_cX5_readNumber_0_a 10 rfl)
theorem dX5_readNumber_24 : decode cX5_readNumber 24 = .ok (.dup, 1) := bd89 (btAt dk15eread_cX5_readNumber_0_a 11 rfl)
theorem dX5_readNumber_25 : decode cX5_readNumber 25 = .ok (.getfield 34, 3) := bd180 (a := 0) (b := 34) (btAt dk15eread_cX5_readNumber_0_a 12 rfl)
theorem dX5_readNumber_28 : decode cX5_readNumber 28 = .ok (.iconst 1, 1) := bd4 (btAt dk15eread_cX5_readNumber_0_a 13 rfl)
theorem dX5_readNumber_29 : decode cX5_readNumber 29 = .ok (.iadd, 1) := bd96 (btAt dk15eread_cX5_readNumber_0_a 14 rfl)
theorem dX5_readNumber_30 : decode cX5_readNumber 30 = .ok (.putfield 34, 3) := bd181 (a := 0) (b := 34) (btAt dk15eread_cX5_readNumber_0_a 15 rfl)
theorem dX5_readNumber_33 : decode cX5_readNumber 33 = .ok (.aload_n 0, 1) := bd42 (btAt dk15eread_cX5_readNumber_0_a 16 rfl)
theorem dX5_readNumber_34 : decode cX5_readNumber 34 = .ok (.getfield 48, 3) := bd180 (a := 0) (b := 48) (btAt dk15eread_cX5_readNumber_0_a 17 rfl)
theorem dX5_readNumber_37 : decode cX5_readNumber 37 = .ok (.ifCond .le 42, 3) := bd158 (a := 0) (b := 42) (btAt dk15eread_cX5_readNumber_0_a 18 rfl)
theorem dX5_readNumber_40 : decode cX5_readNumber 40 = .ok (.aload_n 0, 1) := bd42 (btAt dk15eread_cX5_readNumber_0_a 19 rfl)
theorem dX5_readNumber_41 : decode cX5_readNumber 41 = .ok (.invokevirtual 93, 3) := bd182 (a := 0) (b := 93) (btAt dk15eread_cX5_readNumber_0_a 20 rfl)
theorem dX5_readNumber_44 : decode cX5_readNumber 44 = .ok (.invokestatic 96, 3) := bd184 (a := 0) (b := 96) (btAt dk15eread_cX5_readNumber_0_a 21 rfl)
theorem dX5_readNumber_47 : decode cX5_readNumber 47 = .ok (.ifCond .eq 32, 3) := bd153 (a := 0) (b := 32) (btAt dk15eread_cX5_readNumber_0_a 22 rfl)
theorem dX5_readNumber_50 : decode cX5_readNumber 50 = .ok (.aload_n 0, 1) := bd42 (btAt dk15eread_cX5_readNumber_0_a 23 rfl)
theorem dX5_readNumber_51 : decode cX5_readNumber 51 = .ok (.aload_n 0, 1) := bd42 (btAt dk15eread_cX5_readNumber_0_a 24 rfl)
theorem dX5_readNumber_52 : decode cX5_readNumber 52 = .ok (.getfield 48, 3) := bd180 (a := 0) (b := 48) (btAt dk15eread_cX5_readNumber_0_a 25 rfl)
theorem dX5_readNumber_55 : decode cX5_readNumber 55 = .ok (.bipush 10, 2) := bd16 (a := 10) (btAt dk15eread_cX5_readNumber_0_a 26 rfl)
theorem dX5_readNumber_57 : decode cX5_readNumber 57 = .ok (.imul, 1) := bd104 (btAt dk15eread_cX5_readNumber_0_a 27 rfl)
theorem dX5_readNumber_58 : decode cX5_readNumber 58 = .ok (.aload_n 0, 1) := bd42 (btAt dk15eread_cX5_readNumber_0_a 28 rfl)
theorem dX5_readNumber_59 : decode cX5_readNumber 59 = .ok (.invokevirtual 93, 3) := bd182 (a := 0) (b := 93) (btAt dk15eread_cX5_readNumber_0_a 29 rfl)
theorem dX5_readNumber_62 : decode cX5_readNumber 62 = .ok (.iadd, 1) := bd96 (btAt dk15eread_cX5_readNumber_0_a 30 rfl)
theorem dX5_readNumber_63 : decode cX5_readNumber 63 = .ok (.bipush 48, 2) := bd16 (a := 48) (btAt dk15eread_cX5_readNumber_0_a 31 rfl)
theorem dX5_readNumber_65 : decode cX5_readNumber 65 = .ok (.isub, 1) := bd100 (btAt dk15eread_cX5_readNumber_0_a 32 rfl)
theorem dX5_readNumber_66 : decode cX5_readNumber 66 = .ok (.putfield 48, 3) := bd181 (a := 0) (b := 48) (btAt dk15eread_cX5_readNumber_0_a 33 rfl)
theorem dX5_readNumber_69 : decode cX5_readNumber 69 = .ok (.aload_n 0, 1) := bd42 (btAt dk15eread_cX5_readNumber_0_a 34 rfl)
theorem dX5_readNumber_70 : decode cX5_readNumber 70 = .ok (.dup, 1) := bd89 (btAt dk15eread_cX5_readNumber_0_a 35 rfl)
theorem dX5_readNumber_71 : decode cX5_readNumber 71 = .ok (.getfield 34, 3) := bd180 (a := 0) (b := 34) (btAt dk15eread_cX5_readNumber_0_a 36 rfl)
theorem dX5_readNumber_74 : decode cX5_readNumber 74 = .ok (.iconst 1, 1) := bd4 (btAt dk15eread_cX5_readNumber_0_a 37 rfl)
theorem dX5_readNumber_79 : decode cX5_readNumber 79 = .ok (.iconst 1, 1) := bd4 (btAt dk15eread_cX5_readNumber_0_a 38 rfl)
theorem dX5_readNumber_80 : decode cX5_readNumber 80 = .ok (.ireturn, 1) := bd172 (btAt dk15eread_cX5_readNumber_0_a 39 rfl)
noncomputable def dk15eread_cX5_readNumber_40 : List (Nat × List Nat) := [(10, [3]), (11, [172]), (75, [96]), (76, [181, 0, 34])]
set_option maxRecDepth 100000 in
theorem dk15eread_cX5_readNumber_40_a : btA cX5_readNumber dk15eread_cX5_readNumber_40 = true := by decide +kernel
theorem dX5_readNumber_10 : decode cX5_readNumber 10 = .ok (.iconst 0, 1) := bd3 (btAt dk15eread_cX5_readNumber_40_a 0 rfl)
theorem dX5_readNumber_11 : decode cX5_readNumber 11 = .ok (.ireturn, 1) := bd172 (btAt dk15eread_cX5_readNumber_40_a 1 rfl)
theorem dX5_readNumber_75 : decode cX5_readNumber 75 = .ok (.iadd, 1) := bd96 (btAt dk15eread_cX5_readNumber_40_a 2 rfl)
theorem dX5_readNumber_76 : decode cX5_readNumber 76 = .ok (.putfield 34, 3) := bd181 (a := 0) (b := 34) (btAt dk15eread_cX5_readNumber_40_a 3 rfl)
noncomputable def dk15eread_cX5_sameSigns_0 : List (Nat × List Nat) := [(0, [3]), (1, [61]), (2, [28]), (3, [43]), (4, [182, 0, 76]), (7, [162, 0, 41]), (10, [42]), (11, [180, 0, 34]), (14, [28]), (15, [96]), (16, [42]), (17, [180, 0, 31]), (20, [162, 0, 28]), (23, [42]), (24, [180, 0, 28]), (27, [42]), (28, [180, 0, 34]), (31, [28]), (32, [96]), (33, [46]), (34, [43]), (35, [28]), (36, [182, 0, 89]), (39, [160, 0, 9]), (42, [132, 2, 1]), (45, [167, 255, 213]), (48, [28]), (49, [172])]
set_option maxRecDepth 100000 in
theorem dk15eread_cX5_sameSigns_0_a : btA cX5_sameSigns dk15eread_cX5_sameSigns_0 = true := by decide +kernel
theorem dX5_sameSigns_0 : decode cX5_sameSigns 0 = .ok (.iconst 0, 1) := bd3 (btAt dk15eread_cX5_sameSigns_0_a 0 rfl)
theorem dX5_sameSigns_1 : decode cX5_sameSigns 1 = .ok (.istore_n 2, 1) := bd61 (btAt dk15eread_cX5_sameSigns_0_a 1 rfl)
theorem dX5_sameSigns_2 : decode cX5_sameSigns 2 = .ok (.iload_n 2, 1) := bd28 (btAt dk15eread_cX5_sameSigns_0_a 2 rfl)
theorem dX5_sameSigns_3 : decode cX5_sameSigns 3 = .ok (.aload_n 1, 1) := bd43 (btAt dk15eread_cX5_sameSigns_0_a 3 rfl)
theorem dX5_sameSigns_4 : decode cX5_sameSigns 4 = .ok (.invokevirtual 76, 3) := bd182 (a := 0) (b := 76) (btAt dk15eread_cX5_sameSigns_0_a 4 rfl)
theorem dX5_sameSigns_7 : decode cX5_sameSigns 7 = .ok (.if_icmp .ge 41, 3) := bd162 (a := 0) (b := 41) (btAt dk15eread_cX5_sameSigns_0_a 5 rfl)
theorem dX5_sameSigns_10 : decode cX5_sameSigns 10 = .ok (.aload_n 0, 1) := bd42 (btAt dk15eread_cX5_sameSigns_0_a 6 rfl)
theorem dX5_sameSigns_11 : decode cX5_sameSigns 11 = .ok (.getfield 34, 3) := bd180 (a := 0) (b := 34) (btAt dk15eread_cX5_sameSigns_0_a 7 rfl)
theorem dX5_sameSigns_14 : decode cX5_sameSigns 14 = .ok (.iload_n 2, 1) := bd28 (btAt dk15eread_cX5_sameSigns_0_a 8 rfl)
theorem dX5_sameSigns_15 : decode cX5_sameSigns 15 = .ok (.iadd, 1) := bd96 (btAt dk15eread_cX5_sameSigns_0_a 9 rfl)
theorem dX5_sameSigns_16 : decode cX5_sameSigns 16 = .ok (.aload_n 0, 1) := bd42 (btAt dk15eread_cX5_sameSigns_0_a 10 rfl)
theorem dX5_sameSigns_17 : decode cX5_sameSigns 17 = .ok (.getfield 31, 3) := bd180 (a := 0) (b := 31) (btAt dk15eread_cX5_sameSigns_0_a 11 rfl)
theorem dX5_sameSigns_20 : decode cX5_sameSigns 20 = .ok (.if_icmp .ge 28, 3) := bd162 (a := 0) (b := 28) (btAt dk15eread_cX5_sameSigns_0_a 12 rfl)
theorem dX5_sameSigns_23 : decode cX5_sameSigns 23 = .ok (.aload_n 0, 1) := bd42 (btAt dk15eread_cX5_sameSigns_0_a 13 rfl)
theorem dX5_sameSigns_24 : decode cX5_sameSigns 24 = .ok (.getfield 28, 3) := bd180 (a := 0) (b := 28) (btAt dk15eread_cX5_sameSigns_0_a 14 rfl)
theorem dX5_sameSigns_27 : decode cX5_sameSigns 27 = .ok (.aload_n 0, 1) := bd42 (btAt dk15eread_cX5_sameSigns_0_a 15 rfl)
theorem dX5_sameSigns_28 : decode cX5_sameSigns 28 = .ok (.getfield 34, 3) := bd180 (a := 0) (b := 34) (btAt dk15eread_cX5_sameSigns_0_a 16 rfl)
theorem dX5_sameSigns_31 : decode cX5_sameSigns 31 = .ok (.iload_n 2, 1) := bd28 (btAt dk15eread_cX5_sameSigns_0_a 17 rfl)
theorem dX5_sameSigns_32 : decode cX5_sameSigns 32 = .ok (.iadd, 1) := bd96 (btAt dk15eread_cX5_sameSigns_0_a 18 rfl)
theorem dX5_sameSigns_33 : decode cX5_sameSigns 33 = .ok (.iaload, 1) := bd46 (btAt dk15eread_cX5_sameSigns_0_a 19 rfl)
theorem dX5_sameSigns_34 : decode cX5_sameSigns 34 = .ok (.aload_n 1, 1) := bd43 (btAt dk15eread_cX5_sameSigns_0_a 20 rfl)
theorem dX5_sameSigns_35 : decode cX5_sameSigns 35 = .ok (.iload_n 2, 1) := bd28 (btAt dk15eread_cX5_sameSigns_0_a 21 rfl)
theorem dX5_sameSigns_36 : decode cX5_sameSigns 36 = .ok (.invokevirtual 89, 3) := bd182 (a := 0) (b := 89) (btAt dk15eread_cX5_sameSigns_0_a 22 rfl)
theorem dX5_sameSigns_39 : decode cX5_sameSigns 39 = .ok (.if_icmp .ne 9, 3) := bd160 (a := 0) (b := 9) (btAt dk15eread_cX5_sameSigns_0_a 23 rfl)
theorem dX5_sameSigns_42 : decode cX5_sameSigns 42 = .ok (.iinc 2 1, 3) := bd132 (a := 2) (b := 1) (btAt dk15eread_cX5_sameSigns_0_a 24 rfl)
theorem dX5_sameSigns_45 : decode cX5_sameSigns 45 = .ok (.goto (-43), 3) := bd167 (a := 255) (b := 213) (btAt dk15eread_cX5_sameSigns_0_a 25 rfl)
theorem dX5_sameSigns_48 : decode cX5_sameSigns 48 = .ok (.iload_n 2, 1) := bd28 (btAt dk15eread_cX5_sameSigns_0_a 26 rfl)
theorem dX5_sameSigns_49 : decode cX5_sameSigns 49 = .ok (.ireturn, 1) := bd172 (btAt dk15eread_cX5_sameSigns_0_a 27 rfl)
noncomputable def dk15eread_cX5_readWord_0 : List (Nat × List Nat) := [(0, [3]), (1, [60]), (2, [3]), (3, [61]), (4, [28]), (5, [7]), (6, [162, 0, 50]), (9, [28]), (10, [184, 0, 62]), (13, [78]), (14, [42]), (15, [45]), (16, [182, 0, 66]), (19, [54, 4]), (21, [27]), (22, [21, 4]), (24, [184, 0, 70]), (27, [60]), (28, [21, 4]), (30, [45]), (31, [182, 0, 76]), (34, [160, 0, 16]), (37, [42]), (38, [89]), (39, [180, 0, 34]), (42, [21, 4]), (44, [96]), (45, [181, 0, 34]), (48, [28]), (49, [172]), (50, [132, 2, 1]), (53, [167, 255, 207]), (56, [42]), (57, [89]), (58, [180, 0, 34]), (61, [27]), (62, [96]), (63, [181, 0, 34]), (66, [2]), (67, [172])]
set_option maxRecDepth 100000 in
theorem dk15eread_cX5_readWord_0_a : btA cX5_readWord dk15eread_cX5_readWord_0 = true := by decide +kernel
theorem dX5_readWord_0 : decode cX5_readWord 0 = .ok (.iconst 0, 1) := bd3 (btAt dk15eread_cX5_readWord_0_a 0 rfl)
theorem dX5_readWord_1 : decode cX5_readWord 1 = .ok (.istore_n 1, 1) := bd60 (btAt dk15eread_cX5_readWord_0_a 1 rfl)
theorem dX5_readWord_2 : decode cX5_readWord 2 = .ok (.iconst 0, 1) := bd3 (btAt dk15eread_cX5_readWord_0_a 2 rfl)
theorem dX5_readWord_3 : decode cX5_readWord 3 = .ok (.istore_n 2, 1) := bd61 (btAt dk15eread_cX5_readWord_0_a 3 rfl)
theorem dX5_readWord_4 : decode cX5_readWord 4 = .ok (.iload_n 2, 1) := bd28 (btAt dk15eread_cX5_readWord_0_a 4 rfl)
theorem dX5_readWord_5 : decode cX5_readWord 5 = .ok (.iconst 4, 1) := bd7 (btAt dk15eread_cX5_readWord_0_a 5 rfl)
theorem dX5_readWord_6 : decode cX5_readWord 6 = .ok (.if_icmp .ge 50, 3) := bd162 (a := 0) (b := 50) (btAt dk15eread_cX5_readWord_0_a 6 rfl)
theorem dX5_readWord_9 : decode cX5_readWord 9 = .ok (.iload_n 2, 1) := bd28 (btAt dk15eread_cX5_readWord_0_a 7 rfl)
theorem dX5_readWord_10 : decode cX5_readWord 10 = .ok (.invokestatic 62, 3) := bd184 (a := 0) (b := 62) (btAt dk15eread_cX5_readWord_0_a 8 rfl)
theorem dX5_readWord_13 : decode cX5_readWord 13 = .ok (.astore_n 3, 1) := bd78 (btAt dk15eread_cX5_readWord_0_a 9 rfl)
theorem dX5_readWord_14 : decode cX5_readWord 14 = .ok (.aload_n 0, 1) := bd42 (btAt dk15eread_cX5_readWord_0_a 10 rfl)
theorem dX5_readWord_15 : decode cX5_readWord 15 = .ok (.aload_n 3, 1) := bd45 (btAt dk15eread_cX5_readWord_0_a 11 rfl)
theorem dX5_readWord_16 : decode cX5_readWord 16 = .ok (.invokevirtual 66, 3) := bd182 (a := 0) (b := 66) (btAt dk15eread_cX5_readWord_0_a 12 rfl)
theorem dX5_readWord_19 : decode cX5_readWord 19 = .ok (.istore 4, 2) := bd54 (a := 4) (btAt dk15eread_cX5_readWord_0_a 13 rfl)
theorem dX5_readWord_21 : decode cX5_readWord 21 = .ok (.iload_n 1, 1) := bd27 (btAt dk15eread_cX5_readWord_0_a 14 rfl)
theorem dX5_readWord_22 : decode cX5_readWord 22 = .ok (.iload 4, 2) := bd21 (a := 4) (btAt dk15eread_cX5_readWord_0_a 15 rfl)
theorem dX5_readWord_24 : decode cX5_readWord 24 = .ok (.invokestatic 70, 3) := bd184 (a := 0) (b := 70) (btAt dk15eread_cX5_readWord_0_a 16 rfl)
theorem dX5_readWord_27 : decode cX5_readWord 27 = .ok (.istore_n 1, 1) := bd60 (btAt dk15eread_cX5_readWord_0_a 17 rfl)
theorem dX5_readWord_28 : decode cX5_readWord 28 = .ok (.iload 4, 2) := bd21 (a := 4) (btAt dk15eread_cX5_readWord_0_a 18 rfl)
theorem dX5_readWord_30 : decode cX5_readWord 30 = .ok (.aload_n 3, 1) := bd45 (btAt dk15eread_cX5_readWord_0_a 19 rfl)
theorem dX5_readWord_31 : decode cX5_readWord 31 = .ok (.invokevirtual 76, 3) := bd182 (a := 0) (b := 76) (btAt dk15eread_cX5_readWord_0_a 20 rfl)
theorem dX5_readWord_34 : decode cX5_readWord 34 = .ok (.if_icmp .ne 16, 3) := bd160 (a := 0) (b := 16) (btAt dk15eread_cX5_readWord_0_a 21 rfl)
theorem dX5_readWord_37 : decode cX5_readWord 37 = .ok (.aload_n 0, 1) := bd42 (btAt dk15eread_cX5_readWord_0_a 22 rfl)
theorem dX5_readWord_38 : decode cX5_readWord 38 = .ok (.dup, 1) := bd89 (btAt dk15eread_cX5_readWord_0_a 23 rfl)
theorem dX5_readWord_39 : decode cX5_readWord 39 = .ok (.getfield 34, 3) := bd180 (a := 0) (b := 34) (btAt dk15eread_cX5_readWord_0_a 24 rfl)
theorem dX5_readWord_42 : decode cX5_readWord 42 = .ok (.iload 4, 2) := bd21 (a := 4) (btAt dk15eread_cX5_readWord_0_a 25 rfl)
theorem dX5_readWord_44 : decode cX5_readWord 44 = .ok (.iadd, 1) := bd96 (btAt dk15eread_cX5_readWord_0_a 26 rfl)
theorem dX5_readWord_45 : decode cX5_readWord 45 = .ok (.putfield 34, 3) := bd181 (a := 0) (b := 34) (btAt dk15eread_cX5_readWord_0_a 27 rfl)
theorem dX5_readWord_48 : decode cX5_readWord 48 = .ok (.iload_n 2, 1) := bd28 (btAt dk15eread_cX5_readWord_0_a 28 rfl)
theorem dX5_readWord_49 : decode cX5_readWord 49 = .ok (.ireturn, 1) := bd172 (btAt dk15eread_cX5_readWord_0_a 29 rfl)
theorem dX5_readWord_50 : decode cX5_readWord 50 = .ok (.iinc 2 1, 3) := bd132 (a := 2) (b := 1) (btAt dk15eread_cX5_readWord_0_a 30 rfl)
theorem dX5_readWord_53 : decode cX5_readWord 53 = .ok (.goto (-49), 3) := bd167 (a := 255) (b := 207) (btAt dk15eread_cX5_readWord_0_a 31 rfl)
theorem dX5_readWord_56 : decode cX5_readWord 56 = .ok (.aload_n 0, 1) := bd42 (btAt dk15eread_cX5_readWord_0_a 32 rfl)
theorem dX5_readWord_57 : decode cX5_readWord 57 = .ok (.dup, 1) := bd89 (btAt dk15eread_cX5_readWord_0_a 33 rfl)
theorem dX5_readWord_58 : decode cX5_readWord 58 = .ok (.getfield 34, 3) := bd180 (a := 0) (b := 34) (btAt dk15eread_cX5_readWord_0_a 34 rfl)
theorem dX5_readWord_61 : decode cX5_readWord 61 = .ok (.iload_n 1, 1) := bd27 (btAt dk15eread_cX5_readWord_0_a 35 rfl)
theorem dX5_readWord_62 : decode cX5_readWord 62 = .ok (.iadd, 1) := bd96 (btAt dk15eread_cX5_readWord_0_a 36 rfl)
theorem dX5_readWord_63 : decode cX5_readWord 63 = .ok (.putfield 34, 3) := bd181 (a := 0) (b := 34) (btAt dk15eread_cX5_readWord_0_a 37 rfl)
theorem dX5_readWord_66 : decode cX5_readWord 66 = .ok (.iconst (-1), 1) := bd2 (btAt dk15eread_cX5_readWord_0_a 38 rfl)
theorem dX5_readWord_67 : decode cX5_readWord 67 = .ok (.ireturn, 1) := bd172 (btAt dk15eread_cX5_readWord_0_a 39 rfl)
noncomputable def dk15eread_cX5_code_0 : List (Nat × List Nat) := [(0, [42]), (1, [180, 0, 37]), (4, [16, 100]), (6, [161, 0, 4]), (10, [42]), (11, [180, 0, 25]), (14, [42]), (15, [180, 0, 37]), (18, [27]), (19, [79]), (20, [42]), (21, [89]), (22, [180, 0, 37]), (25, [4]), (26, [96]), (27, [181, 0, 37]), (30, [177])]
set_option maxRecDepth 100000 in
theorem dk15eread_cX5_code_0_a : btA cX5_code dk15eread_cX5_code_0 = true := by decide +kernel
theorem dX5_code_0 : decode cX5_code 0 = .ok (.aload_n 0, 1) := bd42 (btAt dk15eread_cX5_code_0_a 0 rfl)
theorem dX5_code_1 : decode cX5_code 1 = .ok (.getfield 37, 3) := bd180 (a := 0) (b := 37) (btAt dk15eread_cX5_code_0_a 1 rfl)
theorem dX5_code_4 : decode cX5_code 4 = .ok (.bipush 100, 2) := bd16 (a := 100) (btAt dk15eread_cX5_code_0_a 2 rfl)
theorem dX5_code_6 : decode cX5_code 6 = .ok (.if_icmp .lt 4, 3) := bd161 (a := 0) (b := 4) (btAt dk15eread_cX5_code_0_a 3 rfl)
theorem dX5_code_10 : decode cX5_code 10 = .ok (.aload_n 0, 1) := bd42 (btAt dk15eread_cX5_code_0_a 4 rfl)
theorem dX5_code_11 : decode cX5_code 11 = .ok (.getfield 25, 3) := bd180 (a := 0) (b := 25) (btAt dk15eread_cX5_code_0_a 5 rfl)
theorem dX5_code_14 : decode cX5_code 14 = .ok (.aload_n 0, 1) := bd42 (btAt dk15eread_cX5_code_0_a 6 rfl)
theorem dX5_code_15 : decode cX5_code 15 = .ok (.getfield 37, 3) := bd180 (a := 0) (b := 37) (btAt dk15eread_cX5_code_0_a 7 rfl)
theorem dX5_code_18 : decode cX5_code 18 = .ok (.iload_n 1, 1) := bd27 (btAt dk15eread_cX5_code_0_a 8 rfl)
theorem dX5_code_19 : decode cX5_code 19 = .ok (.iastore, 1) := bd79 (btAt dk15eread_cX5_code_0_a 9 rfl)
theorem dX5_code_20 : decode cX5_code 20 = .ok (.aload_n 0, 1) := bd42 (btAt dk15eread_cX5_code_0_a 10 rfl)
theorem dX5_code_21 : decode cX5_code 21 = .ok (.dup, 1) := bd89 (btAt dk15eread_cX5_code_0_a 11 rfl)
theorem dX5_code_22 : decode cX5_code 22 = .ok (.getfield 37, 3) := bd180 (a := 0) (b := 37) (btAt dk15eread_cX5_code_0_a 12 rfl)
theorem dX5_code_25 : decode cX5_code 25 = .ok (.iconst 1, 1) := bd4 (btAt dk15eread_cX5_code_0_a 13 rfl)
theorem dX5_code_26 : decode cX5_code 26 = .ok (.iadd, 1) := bd96 (btAt dk15eread_cX5_code_0_a 14 rfl)
theorem dX5_code_27 : decode cX5_code 27 = .ok (.putfield 37, 3) := bd181 (a := 0) (b := 37) (btAt dk15eread_cX5_code_0_a 15 rfl)
theorem dX5_code_30 : decode cX5_code 30 = .ok (.return_, 1) := bd177 (btAt dk15eread_cX5_code_0_a 16 rfl)
noncomputable def dk15eread_cX5_readTest_0 : List (Nat × List Nat) := [(0, [18, 112]), (2, [42]), (3, [182, 0, 93]), (6, [146]), (7, [182, 0, 114]), (10, [60]), (11, [27]), (12, [156, 0, 5]), (15, [3]), (16, [172]), (17, [42]), (18, [89]), (19, [180, 0, 34]), (22, [4]), (23, [96]), (24, [181, 0, 34]), (27, [18, 118]), (29, [42]), (30, [182, 0, 93]), (33, [146]), (34, [182, 0, 114]), (37, [61]), (38, [28]), (39, [156, 0, 5]), (42, [3]), (43, [172]), (44, [42]), (45, [89]), (46, [180, 0, 34]), (49, [4]), (50, [96]), (51, [181, 0, 34]), (54, [42]), (55, [182, 0, 44]), (58, [154, 0, 5]), (63, [42]), (64, [27]), (65, [17, 1, 44]), (68, [104]), (69, [28])]
set_option maxRecDepth 100000 in
theorem dk15eread_cX5_readTest_0_a : btA cX5_readTest dk15eread_cX5_readTest_0 = true := by decide +kernel
theorem dX5_readTest_0 : decode cX5_readTest 0 = .ok (.ldc 112, 2) := bd18 (a := 112) (btAt dk15eread_cX5_readTest_0_a 0 rfl)
theorem dX5_readTest_2 : decode cX5_readTest 2 = .ok (.aload_n 0, 1) := bd42 (btAt dk15eread_cX5_readTest_0_a 1 rfl)
theorem dX5_readTest_3 : decode cX5_readTest 3 = .ok (.invokevirtual 93, 3) := bd182 (a := 0) (b := 93) (btAt dk15eread_cX5_readTest_0_a 2 rfl)
theorem dX5_readTest_6 : decode cX5_readTest 6 = .ok (.i2c, 1) := bd146 (btAt dk15eread_cX5_readTest_0_a 3 rfl)
theorem dX5_readTest_7 : decode cX5_readTest 7 = .ok (.invokevirtual 114, 3) := bd182 (a := 0) (b := 114) (btAt dk15eread_cX5_readTest_0_a 4 rfl)
theorem dX5_readTest_10 : decode cX5_readTest 10 = .ok (.istore_n 1, 1) := bd60 (btAt dk15eread_cX5_readTest_0_a 5 rfl)
theorem dX5_readTest_11 : decode cX5_readTest 11 = .ok (.iload_n 1, 1) := bd27 (btAt dk15eread_cX5_readTest_0_a 6 rfl)
theorem dX5_readTest_12 : decode cX5_readTest 12 = .ok (.ifCond .ge 5, 3) := bd156 (a := 0) (b := 5) (btAt dk15eread_cX5_readTest_0_a 7 rfl)
theorem dX5_readTest_15 : decode cX5_readTest 15 = .ok (.iconst 0, 1) := bd3 (btAt dk15eread_cX5_readTest_0_a 8 rfl)
theorem dX5_readTest_16 : decode cX5_readTest 16 = .ok (.ireturn, 1) := bd172 (btAt dk15eread_cX5_readTest_0_a 9 rfl)
theorem dX5_readTest_17 : decode cX5_readTest 17 = .ok (.aload_n 0, 1) := bd42 (btAt dk15eread_cX5_readTest_0_a 10 rfl)
theorem dX5_readTest_18 : decode cX5_readTest 18 = .ok (.dup, 1) := bd89 (btAt dk15eread_cX5_readTest_0_a 11 rfl)
theorem dX5_readTest_19 : decode cX5_readTest 19 = .ok (.getfield 34, 3) := bd180 (a := 0) (b := 34) (btAt dk15eread_cX5_readTest_0_a 12 rfl)
theorem dX5_readTest_22 : decode cX5_readTest 22 = .ok (.iconst 1, 1) := bd4 (btAt dk15eread_cX5_readTest_0_a 13 rfl)
theorem dX5_readTest_23 : decode cX5_readTest 23 = .ok (.iadd, 1) := bd96 (btAt dk15eread_cX5_readTest_0_a 14 rfl)
theorem dX5_readTest_24 : decode cX5_readTest 24 = .ok (.putfield 34, 3) := bd181 (a := 0) (b := 34) (btAt dk15eread_cX5_readTest_0_a 15 rfl)
theorem dX5_readTest_27 : decode cX5_readTest 27 = .ok (.ldc 118, 2) := bd18 (a := 118) (btAt dk15eread_cX5_readTest_0_a 16 rfl)
theorem dX5_readTest_29 : decode cX5_readTest 29 = .ok (.aload_n 0, 1) := bd42 (btAt dk15eread_cX5_readTest_0_a 17 rfl)
theorem dX5_readTest_30 : decode cX5_readTest 30 = .ok (.invokevirtual 93, 3) := bd182 (a := 0) (b := 93) (btAt dk15eread_cX5_readTest_0_a 18 rfl)
theorem dX5_readTest_33 : decode cX5_readTest 33 = .ok (.i2c, 1) := bd146 (btAt dk15eread_cX5_readTest_0_a 19 rfl)
theorem dX5_readTest_34 : decode cX5_readTest 34 = .ok (.invokevirtual 114, 3) := bd182 (a := 0) (b := 114) (btAt dk15eread_cX5_readTest_0_a 20 rfl)
theorem dX5_readTest_37 : decode cX5_readTest 37 = .ok (.istore_n 2, 1) := bd61 (btAt dk15eread_cX5_readTest_0_a 21 rfl)
theorem dX5_readTest_38 : decode cX5_readTest 38 = .ok (.iload_n 2, 1) := bd28 (btAt dk15eread_cX5_readTest_0_a 22 rfl)
theorem dX5_readTest_39 : decode cX5_readTest 39 = .ok (.ifCond .ge 5, 3) := bd156 (a := 0) (b := 5) (btAt dk15eread_cX5_readTest_0_a 23 rfl)
theorem dX5_readTest_42 : decode cX5_readTest 42 = .ok (.iconst 0, 1) := bd3 (btAt dk15eread_cX5_readTest_0_a 24 rfl)
theorem dX5_readTest_43 : decode cX5_readTest 43 = .ok (.ireturn, 1) := bd172 (btAt dk15eread_cX5_readTest_0_a 25 rfl)
theorem dX5_readTest_44 : decode cX5_readTest 44 = .ok (.aload_n 0, 1) := bd42 (btAt dk15eread_cX5_readTest_0_a 26 rfl)
theorem dX5_readTest_45 : decode cX5_readTest 45 = .ok (.dup, 1) := bd89 (btAt dk15eread_cX5_readTest_0_a 27 rfl)
theorem dX5_readTest_46 : decode cX5_readTest 46 = .ok (.getfield 34, 3) := bd180 (a := 0) (b := 34) (btAt dk15eread_cX5_readTest_0_a 28 rfl)
theorem dX5_readTest_49 : decode cX5_readTest 49 = .ok (.iconst 1, 1) := bd4 (btAt dk15eread_cX5_readTest_0_a 29 rfl)
theorem dX5_readTest_50 : decode cX5_readTest 50 = .ok (.iadd, 1) := bd96 (btAt dk15eread_cX5_readTest_0_a 30 rfl)
theorem dX5_readTest_51 : decode cX5_readTest 51 = .ok (.putfield 34, 3) := bd181 (a := 0) (b := 34) (btAt dk15eread_cX5_readTest_0_a 31 rfl)
theorem dX5_readTest_54 : decode cX5_readTest 54 = .ok (.aload_n 0, 1) := bd42 (btAt dk15eread_cX5_readTest_0_a 32 rfl)
theorem dX5_readTest_55 : decode cX5_readTest 55 = .ok (.invokevirtual 44, 3) := bd182 (a := 0) (b := 44) (btAt dk15eread_cX5_readTest_0_a 33 rfl)
theorem dX5_readTest_58 : decode cX5_readTest 58 = .ok (.ifCond .ne 5, 3) := bd154 (a := 0) (b := 5) (btAt dk15eread_cX5_readTest_0_a 34 rfl)
theorem dX5_readTest_63 : decode cX5_readTest 63 = .ok (.aload_n 0, 1) := bd42 (btAt dk15eread_cX5_readTest_0_a 35 rfl)
theorem dX5_readTest_64 : decode cX5_readTest 64 = .ok (.iload_n 1, 1) := bd27 (btAt dk15eread_cX5_readTest_0_a 36 rfl)
theorem dX5_readTest_65 : decode cX5_readTest 65 = .ok (.sipush 300, 3) := bd17 (a := 1) (b := 44) (btAt dk15eread_cX5_readTest_0_a 37 rfl)
theorem dX5_readTest_68 : decode cX5_readTest 68 = .ok (.imul, 1) := bd104 (btAt dk15eread_cX5_readTest_0_a 38 rfl)
theorem dX5_readTest_69 : decode cX5_readTest 69 = .ok (.iload_n 2, 1) := bd28 (btAt dk15eread_cX5_readTest_0_a 39 rfl)
noncomputable def dk15eread_cX5_readTest_40 : List (Nat × List Nat) := [(61, [3]), (62, [172]), (70, [16, 100]), (72, [104]), (73, [96]), (74, [42]), (75, [180, 0, 48]), (78, [96]), (79, [182, 0, 102]), (82, [4]), (83, [172])]
set_option maxRecDepth 100000 in
theorem dk15eread_cX5_readTest_40_a : btA cX5_readTest dk15eread_cX5_readTest_40 = true := by decide +kernel
theorem dX5_readTest_61 : decode cX5_readTest 61 = .ok (.iconst 0, 1) := bd3 (btAt dk15eread_cX5_readTest_40_a 0 rfl)
theorem dX5_readTest_62 : decode cX5_readTest 62 = .ok (.ireturn, 1) := bd172 (btAt dk15eread_cX5_readTest_40_a 1 rfl)
theorem dX5_readTest_70 : decode cX5_readTest 70 = .ok (.bipush 100, 2) := bd16 (a := 100) (btAt dk15eread_cX5_readTest_40_a 2 rfl)
theorem dX5_readTest_72 : decode cX5_readTest 72 = .ok (.imul, 1) := bd104 (btAt dk15eread_cX5_readTest_40_a 3 rfl)
theorem dX5_readTest_73 : decode cX5_readTest 73 = .ok (.iadd, 1) := bd96 (btAt dk15eread_cX5_readTest_40_a 4 rfl)
theorem dX5_readTest_74 : decode cX5_readTest 74 = .ok (.aload_n 0, 1) := bd42 (btAt dk15eread_cX5_readTest_40_a 5 rfl)
theorem dX5_readTest_75 : decode cX5_readTest 75 = .ok (.getfield 48, 3) := bd180 (a := 0) (b := 48) (btAt dk15eread_cX5_readTest_40_a 6 rfl)
theorem dX5_readTest_78 : decode cX5_readTest 78 = .ok (.iadd, 1) := bd96 (btAt dk15eread_cX5_readTest_40_a 7 rfl)
theorem dX5_readTest_79 : decode cX5_readTest 79 = .ok (.invokevirtual 102, 3) := bd182 (a := 0) (b := 102) (btAt dk15eread_cX5_readTest_40_a 8 rfl)
theorem dX5_readTest_82 : decode cX5_readTest 82 = .ok (.iconst 1, 1) := bd4 (btAt dk15eread_cX5_readTest_40_a 9 rfl)
theorem dX5_readTest_83 : decode cX5_readTest 83 = .ok (.ireturn, 1) := bd172 (btAt dk15eread_cX5_readTest_40_a 10 rfl)
noncomputable def sgv (f : Nat → Int32) (p E : Nat) : Int32 := if p < E then f p else 0
theorem sg_lt {f : Nat → Int32} {p E : Nat} (h : ¬ sgv f p E = 0) : p < E := by
  rcases Nat.lt_or_ge p E with q | q
  · exact q
  · exact absurd (if_neg (Nat.not_lt.mpr q)) h
theorem nI_n0 {k : Nat} (h : 0 < k) (h2 : k < 2 ^ 31) : ¬ nI k = 0 := fun e => absurd ((nI_eq (a := k) (b := 0) h2 (by omega)).mp e) (by omega)
theorem okC_up {f : Nat → Int32} {k : Nat} {v : Int32} (h : ∀ k0, k0 < 100 → okC (f k0)) (hv : okC v) : ∀ k0, k0 < 100 → okC (upd f k v k0) := by
  intro k0 hk
  by_cases q : k0 = k
  · subst q; rw [pk_us]; exact hv
  · rw [pk_un q]; exact h k0 hk
theorem mx_eq {a b : Nat} (ha : a < 100) (hb : b < 100) : (if nI a < nI b then nI b else nI a) = nI (max a b) := by
  by_cases h : a < b
  · rw [if_pos (nI_lt h (by omega)), Nat.max_eq_right (by omega)]
  · rw [if_neg (nI_nlt (by omega) (by omega)), Nat.max_eq_left (by omega)]
noncomputable def TX (f : Nat → Int32) (E : Nat) (ss : Nat → Nat) : Prop := (∀ p, p < E → f p = nI (ss p)) ∧ (∀ p, E ≤ p → ss p = 0) ∧ ∀ p, ss p < 128
/-- the class's codes so far -/
noncomputable def XT (f : Nat → Int32) (n : Nat) (K : List Nat) (p : Nat) : Prop := K.length = n ∧ n ≤ p ∧ ∀ i, i < n → f i = ccd (K.getD i 0)
theorem XT.mono {f : Nat → Int32} {n p q : Nat} {K : List Nat} (h : XT f n K p) (hq : p ≤ q) : XT f n K q := ⟨h.1, Nat.le_trans h.2.1 hq, h.2.2⟩
theorem XT.as {f : Nat → Int32} {n p : Nat} {K L M : List Nat} (h : XT f n ((K ++ L) ++ M) p) : XT f n (K ++ (L ++ M)) p := by rw [← List.append_assoc]; exact h
theorem XT.add {f : Nat → Int32} {n p b : Nat} {K : List Nat} {x : Int32} (h : XT f n K p) (hx : x = ccd b) : ∀ i, i < n + 1 → upd f n x i = ccd ((K ++ [b]).getD i 0) := by
  obtain ⟨h1, h2, h3⟩ := h
  intro i hi
  by_cases q : i = n
  · subst q; rw [pk_us, ← h1, getD_r, hx]
  · rw [pk_un q, getD_l (by omega)]; exact h3 i (by omega)
theorem ccd_t {k : Nat} (h : k < 1800) : nI k = ccd k := (if_pos h).symm
noncomputable def pWord (s : Nat → Nat) (p : Nat) : Option Nat × Nat := if mlen s p (sTx 0) = 4 then (some 0, p + 4) else if mlen s p (sTx 1) = 5 then (some 1, p + 5) else if mlen s p (sTx 2) = 6 then (some 2, p + 6) else if mlen s p (sTx 3) = 6 then (some 3, p + 6) else (none, p + max (max (max (max 0 (mlen s p (sTx 0))) (mlen s p (sTx 1))) (mlen s p (sTx 2))) (mlen s p (sTx 3)))
section
variable {s : Nat → Nat} {p q w : Nat}
theorem wd_s (h : pWord s p = (some w, q)) : pCl s p = pRs s w q := by
  have t0 : sTx 0 = [115, 101, 101, 32] := rfl
  have t1 : sTx 1 = [104, 105, 100, 101, 32] := rfl
  have t2 : sTx 2 = [115, 105, 103, 104, 116, 32] := rfl
  have t3 : sTx 3 = [100, 114, 105, 102, 116, 32] := rfl
  rw [pWord, t0, t1, t2, t3] at h
  by_cases h0 : mlen s p [115, 101, 101, 32] = 4
  · rw [if_pos h0] at h
    have hp : s p = 115 := Decidable.byContradiction (fun z => by rw [ml_c0 z] at h0; omega)
    rw [ml_c1 hp] at h0
    have hp1 : s (p + 1) = 101 := Decidable.byContradiction (fun z => by rw [ml_c0 z] at h0; omega)
    obtain ⟨rfl, rfl⟩ : 0 = w ∧ p + 4 = q := ⟨Option.some.inj (congrArg Prod.fst h), congrArg Prod.snd h⟩
    rw [cl_s1 hp hp1, pm_rs (by omega) (by omega)]
  · rw [if_neg h0] at h
    by_cases h1 : mlen s p [104, 105, 100, 101, 32] = 5
    · rw [if_pos h1] at h
      have hp : s p = 104 := Decidable.byContradiction (fun z => by rw [ml_c0 z] at h1; omega)
      obtain ⟨rfl, rfl⟩ : 1 = w ∧ p + 5 = q := ⟨Option.some.inj (congrArg Prod.fst h), congrArg Prod.snd h⟩
      rw [cl_h hp, pm_rs h1 (by omega)]
    · rw [if_neg h1] at h
      by_cases h2 : mlen s p [115, 105, 103, 104, 116, 32] = 6
      · rw [if_pos h2] at h
        have hp : s p = 115 := Decidable.byContradiction (fun z => by rw [ml_c0 z] at h2; omega)
        rw [ml_c1 hp] at h2
        have hp1 : s (p + 1) = 105 := Decidable.byContradiction (fun z => by rw [ml_c0 z] at h2; omega)
        obtain ⟨rfl, rfl⟩ : 2 = w ∧ p + 6 = q := ⟨Option.some.inj (congrArg Prod.fst h), congrArg Prod.snd h⟩
        rw [cl_s2 hp (by omega), sg_rs (by omega)]
      · rw [if_neg h2] at h
        by_cases h3 : mlen s p [100, 114, 105, 102, 116, 32] = 6
        · rw [if_pos h3] at h
          have hp : s p = 100 := Decidable.byContradiction (fun z => by rw [ml_c0 z] at h3; omega)
          obtain ⟨rfl, rfl⟩ : 3 = w ∧ p + 6 = q := ⟨Option.some.inj (congrArg Prod.fst h), congrArg Prod.snd h⟩
          rw [cl_d hp, pm_rs h3 (by omega)]
        · rw [if_neg h3] at h
          exact absurd (congrArg Prod.fst h) (by simp)
theorem wd_n (h : pWord s p = (none, q)) : pCl s p = (none, q) := by
  have t0 : sTx 0 = [115, 101, 101, 32] := rfl
  have t1 : sTx 1 = [104, 105, 100, 101, 32] := rfl
  have t2 : sTx 2 = [115, 105, 103, 104, 116, 32] := rfl
  have t3 : sTx 3 = [100, 114, 105, 102, 116, 32] := rfl
  rw [pWord, t0, t1, t2, t3] at h
  by_cases h0 : mlen s p [115, 101, 101, 32] = 4
  · rw [if_pos h0] at h; exact absurd (congrArg Prod.fst h) (by simp)
  by_cases h1 : mlen s p [104, 105, 100, 101, 32] = 5
  · rw [if_neg h0, if_pos h1] at h; exact absurd (congrArg Prod.fst h) (by simp)
  by_cases h2 : mlen s p [115, 105, 103, 104, 116, 32] = 6
  · rw [if_neg h0, if_neg h1, if_pos h2] at h; exact absurd (congrArg Prod.fst h) (by simp)
  by_cases h3 : mlen s p [100, 114, 105, 102, 116, 32] = 6
  · rw [if_neg h0, if_neg h1, if_neg h2, if_pos h3] at h; exact absurd (congrArg Prod.fst h) (by simp)
  rw [if_neg h0, if_neg h1, if_neg h2, if_neg h3] at h
  have hq : p + max (max (max (max 0 (mlen s p [115, 101, 101, 32])) (mlen s p [104, 105, 100, 101, 32])) (mlen s p [115, 105, 103, 104, 116, 32])) (mlen s p [100, 114, 105, 102, 116, 32]) = q := congrArg Prod.snd h
  subst hq
  by_cases hp : s p = 115
  · rw [ml_c1 hp] at h0
    rw [ml_c1 hp] at h2
    rw [ml_c1 hp, ml_c0 (show ¬ s p = 104 by omega), ml_c1 hp, ml_c0 (show ¬ s p = 100 by omega)]
    by_cases hp1 : s (p + 1) = 101
    · rw [cl_s1 hp hp1, pm_1 (by omega), ml_c0 (show ¬ s (p + 1) = 105 by omega), ml_c1 hp1]
      congr 1
      omega
    · rw [cl_s2 hp hp1, sg_1 (by omega), ml_c0 hp1]
      congr 1
      omega
  · rw [ml_c0 hp, ml_c0 hp]
    by_cases hq : s p = 104
    · rw [cl_h hq, pm_1 h1, ml_c0 (show ¬ s p = 100 by omega)]
      congr 1
      omega
    · rw [ml_c0 hq]
      by_cases hr : s p = 100
      · rw [cl_d hr, pm_1 h3]
        congr 1
      · rw [cl_n hp hq hr, ml_c0 hr]
        rfl
end
theorem ax6_y {c j : Nat} (hj : j < 6) (e : (sTx 4).getD j 0 = c) : ix6 c = some j := by subst e; exact (by decide : ∀ j, j < 6 → ix6 ((sTx 4).getD j 0) = some j) j hj
theorem ax3_y {c j : Nat} (hj : j < 3) (e : (sTx 5).getD j 0 = c) : ix3 c = some j := by subst e; exact (by decide : ∀ j, j < 3 → ix3 ((sTx 5).getD j 0) = some j) j hj
theorem ax6_n {c : Nat} (h : ∀ q, q < 6 → ¬ (sTx 4).getD q 0 = c) : ix6 c = none := am6_n (fun q hq e => h q hq e.symm)
theorem ax3_n {c : Nat} (h : ∀ q, q < 3 → ¬ (sTx 5).getD q 0 = c) : ix3 c = none := am3_n (fun q hq e => h q hq e.symm)
theorem ix_step {i j k : Nat} (h : ∀ q, q < j → ¬ (sTx i).getD q 0 = k) (h2 : ¬ (sTx i).getD j 0 = k) : ∀ q, q < j + 1 → ¬ (sTx i).getD q 0 = k := by
  intro q hq
  by_cases z : q = j
  · rw [z]; exact h2
  · exact h q (by omega)
theorem end_up {f : Nat → Int32} {k e : Nat} (h : ∀ k0, k0 < 10 → ∃ e0 : Nat, e0 ≤ 100 ∧ f k0 = nI e0) (he : e ≤ 100) : ∀ k0, k0 < 10 → ∃ e0 : Nat, e0 ≤ 100 ∧ upd f k (nI e) k0 = nI e0 := by
  intro k0 hk
  by_cases q : k0 = k
  · subst q; exact ⟨e, he, pk_us⟩
  · rw [pk_un q]; exact h k0 hk

set_option maxHeartbeats 4000000 in
set_option maxRecDepth 100000 in
theorem c_canEnc (l : Launch) (dC : Nat → ClassId) (dI : Nat → Nat → Nat) (k : Nat) (hk8 : k < 128) : Met l yJ1_canEncode_9a6ad wsJ1_canEncode_9a6ad ({ frames := 0, cells := 0, slots := 0, locals := 0 } : Room) (va_Pc [.int (nI k)] (fun U => True)) (vp_Si (fun r => r = 1)) 0 0 (fun _ => False) := by
  refine met_ofQ (cc := cJ1_canEncode_9a6ad) (maxL := 1) (ret := (some .boolean)) (by decide) rfl ?_
  intro p e s m args below meth c s₁ Q B hml hv hQ
  obtain ⟨rfl, -⟩ := hv
  have hx := B.exec
  have hb := B.bytes
  have hr := B.returns
  have hts := atoms_spec (ws := wsJ1_canEncode_9a6ad) B.pre
  have hown : s.vm.findClass RJ1 = some m.cls := findClass_of_methodNamed B.named
  have hlocks := B.notSynchronized
  obtain ⟨A, hAe⟩ : ∃ A : Nat → Prop, A = fun _ => False := ⟨_, rfl⟩
  rw [← hAe] at hQ
  have hS : va_S A s.heap s.heap [] := va_S.rf
  have hl := lv_entry [.int (nI k)] (n := 1) (Nat.le_of_ble_eq_true rfl)
  rw [lg_entry_eq]
  generalize (lg_sl [.int (nI k)] ++ List.replicate (1 - (lg_sl [.int (nI k)]).length) Slot.unset).toArray = ls at hl ⊢
  generalize hag : ([.int (nI k)] : List Value).toArray = args at hts hQ ⊢
  have hl : lv_has ls 1 [(0, .int (nI k))] := hl
  refine lv_iload_n hx hb dJ1_canEncode_9a6ad_0 rfl (lv_at hl 0 rfl) ?_
  refine lv_if_lt (tgt := 15) hx hb dJ1_canEncode_9a6ad_1 (by decide) (fun c_1 => absurd c_1 (nI_pos (by omega))) (fun c_1 => ?_)
  have c_1 : ¬ k < 0 := fun q => c_1 ((nI_ltI (a := k) (b := 0) (by omega) (by omega)).mpr q)
  refine lv_iload_n hx hb dJ1_canEncode_9a6ad_4 rfl (lv_at hl 0 rfl) ?_
  refine lv_sipush (v := 255) hx hb dJ1_canEncode_9a6ad_5 (by decide) ?_
  refine lv_icmp_gt (tgt := 15) hx hb dJ1_canEncode_9a6ad_8 (by decide) (fun c_2 => ?_) (fun c_2 => ?_)
  · skip
    have c_2 : 255 < k := (nI_ltI (a := 255) (b := k) (by omega) (by omega)).mp c_2
    exfalso
    omega
  · skip
    have c_2 : ¬ 255 < k := fun q => c_2 ((nI_ltI (a := 255) (b := k) (by omega) (by omega)).mpr q)
    refine lv_iconst (v := 1) hx hb dJ1_canEncode_9a6ad_11 (by decide) ?_
    refine lv_goto (tgt := 16) hx hb dJ1_canEncode_9a6ad_12 (by decide) ?_
    rw [hQ]
    exact W.zret (v := 1) hx hb hr rfl (fun tQ htQ hWQ => ⟨1, rfl, rfl, by rw [htQ]⟩) (fun q hq => absurd hq List.not_mem_nil) dJ1_canEncode_9a6ad_16

set_option maxHeartbeats 4000000 in
set_option maxRecDepth 100000 in
theorem c_idxChar (l : Launch) (dC : Nat → ClassId) (dI : Nat → Nat → Nat) (sK sV : Nat → Nat) (i k : Nat) (hi12 : i < 12) (hk8 : k < 128) : Met l yJ1_indexOfChar_4cfef wsJ1_indexOfChar_4cfef ({ frames := 0, cells := 0, slots := 0, locals := 0 } : Room) (va_Pc [.ref (sV i), .int (nI k), .int 0, .int (nI (sLen i))] (fun U => Gs sK sV (fun _ => False) U)) (vp_Si (fun r => (r = -1 ∧ ∀ q, q < sLen i → ¬ (sTx i).getD q 0 = k) ∨ (∃ jq : Nat, jq < sLen i ∧ r = nI jq ∧ (sTx i).getD jq 0 = k))) 0 0 (fun _ => False) := by
  refine met_ofQ (cc := cJ1_indexOfChar_4cfef) (maxL := 6) (ret := (some .int)) (by decide) rfl ?_
  intro p e s m args below meth c s₁ Q B hml hv hQ
  obtain ⟨rfl, hE⟩ := hv
  have hx := B.exec
  have hb := B.bytes
  have hr := B.returns
  have hts := atoms_spec (ws := wsJ1_indexOfChar_4cfef) B.pre
  have hown : s.vm.findClass RJ1 = some m.cls := findClass_of_methodNamed B.named
  have hlocks := B.notSynchronized
  obtain ⟨A, hAe⟩ : ∃ A : Nat → Prop, A = fun _ => False := ⟨_, rfl⟩
  rw [← hAe] at hQ hE
  have hS : va_S A s.heap s.heap [] := va_S.rf
  have hl := lv_entry [.ref (sV i), .int (nI k), .int 0, .int (nI (sLen i))] (n := 6) (Nat.le_of_ble_eq_true rfl)
  rw [lg_entry_eq]
  generalize (lg_sl [.ref (sV i), .int (nI k), .int 0, .int (nI (sLen i))] ++ List.replicate (6 - (lg_sl [.ref (sV i), .int (nI k), .int 0, .int (nI (sLen i))]).length) Slot.unset).toArray = ls at hl ⊢
  generalize hag : ([.ref (sV i), .int (nI k), .int 0, .int (nI (sLen i))] : List Value).toArray = args at hts hQ ⊢
  have hl : lv_has ls 6 [(0, .ref (sV i)), (1, .int (nI k)), (2, .int 0), (3, .int (nI (sLen i)))] := hl
  have hs7 := sLen_lt hi12
  refine lv_iload_n hx hb dJ1_indexOfChar_4cfef_0 rfl (lv_at hl 1 rfl) ?_
  refine lv_i2b (v := nI k) hx hb dJ1_indexOfChar_4cfef_1 (by_sm (by omega)) ?_
  refine lv_istore (lv' := [(4, .int (nI k)), (0, .ref (sV i)), (1, .int (nI k)), (2, .int 0), (3, .int (nI (sLen i)))]) hx hb dJ1_indexOfChar_4cfef_2 hl (by decide) rfl (fun ls hl => ?_)
  refine lv_iload_n hx hb dJ1_indexOfChar_4cfef_4 rfl (lv_at hl 3 rfl) ?_
  refine lv_istore (lv' := [(5, .int 0), (4, .int (nI k)), (0, .ref (sV i)), (1, .int (nI k)), (2, .int 0), (3, .int (nI (sLen i)))]) hx hb dJ1_indexOfChar_4cfef_5 hl (by decide) rfl (fun ls hl => ?_)
  have L7 : ∀ (nF : Nat) (j : Nat), sLen i - j < nF → (j ≤ sLen i) → (∀ q, q < j → ¬ (sTx i).getD q 0 = k) → ∀ (ls : Array Slot), lv_has ls 6 [(0, .ref (sV i)), (3, .int (nI (sLen i))), (4, .int (nI k)), (5, .int (nI j))] → W p l e ({ frames := 0, cells := 0, slots := 0, locals := 0 } : Room) s m args below meth c s.heap [] 0 0 Q (F0 m 7 ls []) := by
    intro nF
    induction nF with
    | zero => intro j hm; exact absurd hm (Nat.not_lt_zero _)
    | succ nF ih7 =>
      intro j hm hj hq9 ls hl
      refine lv_iload hx hb dJ1_indexOfChar_4cfef_7 (lv_at hl 3 rfl) ?_
      refine lv_iload_n hx hb dJ1_indexOfChar_4cfef_9 rfl (lv_at hl 1 rfl) ?_
      refine lv_icmp_ge (tgt := 31) hx hb dJ1_indexOfChar_4cfef_10 (by decide) (fun c_1 => ?_) (fun c_1 => ?_)
      · skip
        have c_1 : (sLen i) ≤ j := (nI_leI (a := (sLen i)) (b := j) (by omega) (by omega)).mp c_1
        refine lv_iconst (v := (-1)) hx hb dJ1_indexOfChar_4cfef_31 (by decide) ?_
        rw [hQ]
        exact W.iret (v := (-1)) hx hb hr (fun tQ htQ hWQ => ⟨(-1), rfl, by first | exact Or.inr ⟨_, by omega, rfl, by assumption⟩ | exact Or.inl ⟨rfl, fun q hq => hq9 q (by omega)⟩, by rw [htQ]⟩) (fun q hq => absurd hq List.not_mem_nil) dJ1_indexOfChar_4cfef_32
      · skip
        have c_1 : ¬ (sLen i) ≤ j := fun q => c_1 ((nI_leI (a := (sLen i)) (b := j) (by omega) (by omega)).mpr q)
        refine lv_aload_n hx hb dJ1_indexOfChar_4cfef_13 rfl (lv_at hl 0 rfl) ?_
        refine lv_iload hx hb dJ1_indexOfChar_4cfef_14 (lv_at hl 3 rfl) ?_
        refine va_tb (v := .int (nI ((sTx i).getD j 0))) hx hb (hE.2.1 i hi12).2.2.2 hS (vp_in_nI (n := j) (N := sLen i) (by omega) (by have := sLen_lt hi12; omega)) (by rw [nI_clamp (by omega)]) dJ1_indexOfChar_4cfef_16 ?_
        have hch := sTx_ch hi12 (k := j) (by omega)
        refine lv_iload hx hb dJ1_indexOfChar_4cfef_17 (lv_at hl 2 rfl) ?_
        refine lv_icmp_ne (tgt := 25) hx hb dJ1_indexOfChar_4cfef_19 (by decide) (fun c_2 => ?_) (fun c_2 => ?_)
        · skip
          have c_2 : ¬ ((sTx i).getD j 0) = k := fun q => c_2 ((nI_eq (a := ((sTx i).getD j 0)) (b := k) (by omega) (by omega)).mpr q)
          refine lv_iinc (v := nI (j + 1)) (lv' := [(5, .int (nI (j + 1))), (0, .ref (sV i)), (3, .int (nI (sLen i))), (4, .int (nI k))]) hx hb dJ1_indexOfChar_4cfef_25 hl (k := 3) rfl (nI_add j 1) (by decide) rfl (fun ls hl => ?_)
          refine lv_goto (tgt := 7) hx hb dJ1_indexOfChar_4cfef_28 (by decide) ?_
          exact ih7 (j + 1) (by omega) (by omega) (ix_step hq9 (by assumption)) ls (lv_sub hl [1, 2, 3, 0] rfl)
        · skip
          have c_2 : ((sTx i).getD j 0) = k := (nI_eq (a := ((sTx i).getD j 0)) (b := k) (by omega) (by omega)).mp c_2
          refine lv_iload hx hb dJ1_indexOfChar_4cfef_22 (lv_at hl 3 rfl) ?_
          rw [hQ]
          exact W.iret (v := nI j) hx hb hr (fun tQ htQ hWQ => ⟨nI j, rfl, by first | exact Or.inr ⟨_, by omega, rfl, by assumption⟩ | exact Or.inl ⟨rfl, fun q hq => hq9 q (by omega)⟩, by rw [htQ]⟩) (fun q hq => absurd hq List.not_mem_nil) dJ1_indexOfChar_4cfef_24
  exact L7 _ (0) (Nat.lt_succ_self _) (by omega) (fun q hq => absurd hq (Nat.not_lt_zero q)) ls (lv_sub hl [2, 5, 1, 0] rfl)

theorem kc_idx1_0 : (.methodLink RJ1 92 Lib.Math.max.name : Cond) ∈ wsJ1_indexOf_4cfef := kc_of 475 rfl rfl rfl
theorem kc_idx1_1 : (.static Lib.Math.max.name : Cond) ∈ wsJ1_indexOf_4cfef := kc_of 426 rfl rfl rfl
theorem kc_idx1_2 : (.initialized "java/lang/Math" : Cond) ∈ wsJ1_indexOf_4cfef := kc_of 77 rfl rfl rfl
theorem kc_idx1_3 : (.code Lib.Math.max.name Lib.Math.max.code 2 (some .int) : Cond) ∈ wsJ1_indexOf_4cfef := kc_of 427 rfl rfl rfl
theorem kc_idx1_4 : (.methodLink RJ1 38 Lib.Math.min.name : Cond) ∈ wsJ1_indexOf_4cfef := kc_of 476 rfl rfl rfl
theorem kc_idx1_5 : (.static Lib.Math.min.name : Cond) ∈ wsJ1_indexOf_4cfef := kc_of 477 rfl rfl rfl
theorem kc_idx1_6 : (.code Lib.Math.min.name Lib.Math.min.code 2 (some .int) : Cond) ∈ wsJ1_indexOf_4cfef := kc_of 478 rfl rfl rfl
set_option maxHeartbeats 4000000 in
set_option maxRecDepth 100000 in
theorem c_idx1 (l : Launch) (dC : Nat → ClassId) (dI : Nat → Nat → Nat) (sK sV : Nat → Nat) (i k : Nat) (hi12 : i < 12) (hk8 : k < 128) : Met l yJ1_indexOf_4cfef wsJ1_indexOf_4cfef ({ frames := 1, cells := 0, slots := 0, locals := 25 } : Room) (va_Pc [.ref (sV i), .int (nI k), .int 0, .int (nI (sLen i))] (fun U => Gs sK sV (fun _ => False) U)) (vp_Si (fun r => (r = -1 ∧ ∀ q, q < sLen i → ¬ (sTx i).getD q 0 = k) ∨ (∃ jq : Nat, jq < sLen i ∧ r = nI jq ∧ (sTx i).getD jq 0 = k))) 0 0 (fun _ => False) := by
  refine met_ofQ (cc := cJ1_indexOf_4cfef) (maxL := 4) (ret := (some .int)) (by decide) rfl ?_
  intro p e s m args below meth c s₁ Q B hml hv hQ
  obtain ⟨rfl, hE⟩ := hv
  have hx := B.exec
  have hb := B.bytes
  have hr := B.returns
  have hts := atoms_spec (ws := wsJ1_indexOf_4cfef) B.pre
  have hown : s.vm.findClass RJ1 = some m.cls := findClass_of_methodNamed B.named
  have hlocks := B.notSynchronized
  obtain ⟨A, hAe⟩ : ∃ A : Nat → Prop, A = fun _ => False := ⟨_, rfl⟩
  rw [← hAe] at hQ hE
  have hS : va_S A s.heap s.heap [] := va_S.rf
  have hl := lv_entry [.ref (sV i), .int (nI k), .int 0, .int (nI (sLen i))] (n := 4) (Nat.le_of_ble_eq_true rfl)
  rw [lg_entry_eq]
  generalize (lg_sl [.ref (sV i), .int (nI k), .int 0, .int (nI (sLen i))] ++ List.replicate (4 - (lg_sl [.ref (sV i), .int (nI k), .int 0, .int (nI (sLen i))]).length) Slot.unset).toArray = ls at hl ⊢
  generalize hag : ([.ref (sV i), .int (nI k), .int 0, .int (nI (sLen i))] : List Value).toArray = args at hts hQ ⊢
  have hl : lv_has ls 4 [(0, .ref (sV i)), (1, .int (nI k)), (2, .int 0), (3, .int (nI (sLen i)))] := hl
  have hs7 := sLen_lt hi12
  refine lv_iload_n hx hb dJ1_indexOf_4cfef_0 rfl (lv_at hl 1 rfl) ?_
  refine vp_callSi (va_runS (As := [.int (nI k)]) (rest := []) ⟨hx, hb, hml, hown, hts⟩ (c_canEnc l dC dI k hk8) (va_cwS 1 hts gJ1_indexOf_4cfef_J1_canEncode_9a6ad rfl rfl rfl hd_yJ1_canEncode_9a6ad.2 ⟨Nat.le_of_ble_eq_true rfl, Nat.le_of_ble_eq_true rfl⟩) ⟨fun a U g mk q => ⟨q.1, trivial⟩, fun U hU hW => ⟨rfl, trivial⟩⟩ rfl rfl hl.1 rfl (lv_room (Nat.le_of_ble_eq_true rfl)) dJ1_indexOf_4cfef_1 ⟨Nat.le_of_ble_eq_true rfl, Nat.le_of_ble_eq_true rfl⟩).run (fun r_1 hw_2 => ?_)
  refine qi_as (y := 1) (hw_2) ?_
  refine lv_if_ne (tgt := 9) hx hb dJ1_indexOf_4cfef_4 (by decide) (fun _ => ?_) (fun c_3 => absurd c_3 (by decide))
  refine lv_iload_n hx hb dJ1_indexOf_4cfef_9 rfl (lv_at hl 2 rfl) ?_
  refine lv_iconst (v := 0) hx hb dJ1_indexOf_4cfef_10 (by decide) ?_
  refine va_mmax hx hb (by rw [hml]; exact hl.1.symm) hown (hts (.methodLink RJ1 92 Lib.Math.max.name) kc_idx1_0) (hts (.static Lib.Math.max.name) kc_idx1_1) (hts (.initialized "java/lang/Math") kc_idx1_2) (hts (.code Lib.Math.max.name Lib.Math.max.code 2 (some .int)) kc_idx1_3) (Nat.le_of_ble_eq_true rfl) (Nat.le_of_ble_eq_true rfl) (Nat.le_of_ble_eq_true rfl) (Nat.le_of_ble_eq_true rfl) dJ1_indexOf_4cfef_11 ?_
  refine qi_as (y := 0) (by decide) ?_
  refine lv_istore_n (lv' := [(2, .int 0), (0, .ref (sV i)), (1, .int (nI k)), (3, .int (nI (sLen i)))]) hx hb dJ1_indexOf_4cfef_14 rfl hl (by decide) rfl (fun ls hl => ?_)
  refine lv_iload_n hx hb dJ1_indexOf_4cfef_15 rfl (lv_at hl 3 rfl) ?_
  refine lv_aload_n hx hb dJ1_indexOf_4cfef_16 rfl (lv_at hl 1 rfl) ?_
  refine va_tlen (v := nI (sLen i)) hx hb (hE.2.1 i hi12).2.2.2 hS rfl dJ1_indexOf_4cfef_17 ?_
  refine va_mmin hx hb (by rw [hml]; exact hl.1.symm) hown (hts (.methodLink RJ1 38 Lib.Math.min.name) kc_idx1_4) (hts (.static Lib.Math.min.name) kc_idx1_5) (hts (.initialized "java/lang/Math") kc_idx1_2) (hts (.code Lib.Math.min.name Lib.Math.min.code 2 (some .int)) kc_idx1_6) (Nat.le_of_ble_eq_true rfl) (Nat.le_of_ble_eq_true rfl) (Nat.le_of_ble_eq_true rfl) (Nat.le_of_ble_eq_true rfl) dJ1_indexOf_4cfef_18 ?_
  refine qi_as (y := nI (sLen i)) (ite_self _) ?_
  refine lv_istore_n (lv' := [(3, .int (nI (sLen i))), (2, .int 0), (0, .ref (sV i)), (1, .int (nI k))]) hx hb dJ1_indexOf_4cfef_21 rfl hl (by decide) rfl (fun ls hl => ?_)
  refine lv_iload_n hx hb dJ1_indexOf_4cfef_22 rfl (lv_at hl 1 rfl) ?_
  refine lv_iload_n hx hb dJ1_indexOf_4cfef_23 rfl (lv_at hl 0 rfl) ?_
  refine lv_icmp_lt (tgt := 29) hx hb dJ1_indexOf_4cfef_24 (by decide) (fun c_4 => ?_) (fun c_4 => ?_)
  · skip
    have c_4 : 0 < (sLen i) := (nI_ltI (a := 0) (b := (sLen i)) (by omega) (by omega)).mp c_4
    refine lv_aload_n hx hb dJ1_indexOf_4cfef_29 rfl (lv_at hl 2 rfl) ?_
    refine lv_iload_n hx hb dJ1_indexOf_4cfef_30 rfl (lv_at hl 3 rfl) ?_
    refine lv_iload_n hx hb dJ1_indexOf_4cfef_31 rfl (lv_at hl 1 rfl) ?_
    refine lv_iload_n hx hb dJ1_indexOf_4cfef_32 rfl (lv_at hl 0 rfl) ?_
    refine vp_callSi (va_runS (As := [.ref (sV i), .int (nI k), .int 0, .int (nI (sLen i))]) (rest := []) ⟨hx, hb, hml, hown, hts⟩ (c_idxChar l dC dI sK sV i k hi12 hk8) (va_cwS 4 hts gJ1_indexOf_4cfef_J1_indexOfChar_4cfef rfl rfl rfl hd_yJ1_indexOfChar_4cfef.2 ⟨Nat.le_of_ble_eq_true rfl, Nat.le_of_ble_eq_true rfl⟩) ⟨fun a U g mk q => by obtain ⟨q0, qhE⟩ := q; exact ⟨q0, qhE.mv g mk a⟩, fun U hU hW => ⟨rfl, hE.callF hS hU hW⟩⟩ rfl rfl hl.1 rfl (lv_room (Nat.le_of_ble_eq_true rfl)) dJ1_indexOf_4cfef_33 ⟨Nat.le_of_ble_eq_true rfl, Nat.le_of_ble_eq_true rfl⟩).run (fun r_5 hw_6 => ?_)
    rw [hQ]
    exact W.iret (v := r_5) hx hb hr (fun tQ htQ hWQ => ⟨r_5, rfl, hw_6, by rw [htQ]⟩) (fun q hq => absurd hq List.not_mem_nil) dJ1_indexOf_4cfef_36
  · skip
    have c_4 : ¬ 0 < (sLen i) := fun q => c_4 ((nI_ltI (a := 0) (b := (sLen i)) (by omega) (by omega)).mpr q)
    refine lv_iconst (v := (-1)) hx hb dJ1_indexOf_4cfef_27 (by decide) ?_
    rw [hQ]
    exact W.iret (v := (-1)) hx hb hr (fun tQ htQ hWQ => ⟨(-1), rfl, Or.inl ⟨rfl, fun q hq => absurd hq (by omega)⟩, by rw [htQ]⟩) (fun q hq => absurd hq List.not_mem_nil) dJ1_indexOf_4cfef_28

theorem kc_idx2_0 : (.fieldLink RJ0 9 "java/lang/String" "value" "[B" : Cond) ∈ wsJ0_indexOf_7cf53 := kc_of 1576 rfl rfl rfl
set_option maxHeartbeats 4000000 in
set_option maxRecDepth 100000 in
theorem c_idx2 (l : Launch) (dC : Nat → ClassId) (dI : Nat → Nat → Nat) (sK sV : Nat → Nat) (i k : Nat) (hi12 : i < 12) (hk8 : k < 128) : Met l yJ0_indexOf_7cf53 wsJ0_indexOf_7cf53 ({ frames := 2, cells := 0, slots := 0, locals := 48 } : Room) (va_Pc [.ref (sK i), .int (nI k), .int 0] (fun U => Gs sK sV (fun _ => False) U)) (vp_Si (fun r => (r = -1 ∧ ∀ q, q < sLen i → ¬ (sTx i).getD q 0 = k) ∨ (∃ jq : Nat, jq < sLen i ∧ r = nI jq ∧ (sTx i).getD jq 0 = k))) 0 0 (fun _ => False) := by
  refine met_ofQ (cc := cJ0_indexOf_7cf53) (maxL := 3) (ret := (some .int)) (by decide) rfl ?_
  intro p e s m args below meth c s₁ Q B hml hv hQ
  obtain ⟨rfl, hE⟩ := hv
  have hx := B.exec
  have hb := B.bytes
  have hr := B.returns
  have hts := atoms_spec (ws := wsJ0_indexOf_7cf53) B.pre
  have hown : s.vm.findClass RJ0 = some m.cls := findClass_of_methodNamed B.named
  have hlocks := B.notSynchronized
  obtain ⟨A, hAe⟩ : ∃ A : Nat → Prop, A = fun _ => False := ⟨_, rfl⟩
  rw [← hAe] at hQ hE
  have hS : va_S A s.heap s.heap [] := va_S.rf
  have hl := lv_entry [.ref (sK i), .int (nI k), .int 0] (n := 3) (Nat.le_of_ble_eq_true rfl)
  rw [lg_entry_eq]
  generalize (lg_sl [.ref (sK i), .int (nI k), .int 0] ++ List.replicate (3 - (lg_sl [.ref (sK i), .int (nI k), .int 0]).length) Slot.unset).toArray = ls at hl ⊢
  generalize hag : ([.ref (sK i), .int (nI k), .int 0] : List Value).toArray = args at hts hQ ⊢
  have hl : lv_has ls 3 [(0, .ref (sK i)), (1, .int (nI k)), (2, .int 0)] := hl
  refine lv_aload_n hx hb dJ0_indexOf_7cf53_0 rfl (lv_at hl 0 rfl) ?_
  refine vp_callSi (va_runV (As := []) (rest := []) ⟨hx, hb, hml, hown, hts⟩ (c_latin l dC dI sK sV i hi12) (cwV 0 hts gJ0_indexOf_7cf53_J0_isLatin1_aae02 rfl rfl rfl hd_yJ0_isLatin1_aae02 ⟨Nat.le_of_ble_eq_true rfl, Nat.le_of_ble_eq_true rfl⟩) ⟨fun a U g mk q => by obtain ⟨q0, qhE⟩ := q; exact ⟨q0, qhE.mv g mk a⟩, va_Orecv (hE.2.1 i hi12).1 hS, fun U hU hW => ⟨rfl, hE.callF hS hU hW⟩⟩ rfl rfl hl.1 rfl (lv_room (Nat.le_of_ble_eq_true rfl)) dJ0_indexOf_7cf53_1 ⟨Nat.le_of_ble_eq_true rfl, Nat.le_of_ble_eq_true rfl⟩).run (fun r_1 hw_2 => ?_)
  refine qi_as (y := 1) (hw_2) ?_
  refine lv_if_eq (tgt := 23) hx hb dJ0_indexOf_7cf53_4 (by decide) (fun c_3 => absurd c_3 (by decide)) (fun _ => ?_)
  refine lv_aload_n hx hb dJ0_indexOf_7cf53_7 rfl (lv_at hl 0 rfl) ?_
  refine vk_getf (o := "java/lang/String") (n := "value") (d := "[B") (v := .ref (sV i)) hx hb (hE.2.1 i hi12).2.2.1 hS hown (hts (.fieldLink RJ0 9 "java/lang/String" "value" "[B") kc_idx2_0) (fun _ h9 => h9) dJ0_indexOf_7cf53_8 ?_
  refine lv_iload_n hx hb dJ0_indexOf_7cf53_11 rfl (lv_at hl 1 rfl) ?_
  refine lv_iload_n hx hb dJ0_indexOf_7cf53_12 rfl (lv_at hl 2 rfl) ?_
  refine lv_aload_n hx hb dJ0_indexOf_7cf53_13 rfl (lv_at hl 0 rfl) ?_
  refine vp_callSi (va_runV (As := []) (rest := [.int 0, .int (nI k), .ref (sV i)]) ⟨hx, hb, hml, hown, hts⟩ (c_len l dC dI sK sV i hi12) (cwV 0 hts gJ0_indexOf_7cf53_J0_length_8abf5 rfl rfl rfl hd_yJ0_length_8abf5 ⟨Nat.le_of_ble_eq_true rfl, Nat.le_of_ble_eq_true rfl⟩) ⟨fun a U g mk q => by obtain ⟨q0, qhE⟩ := q; exact ⟨q0, qhE.mv g mk a⟩, va_Orecv (hE.2.1 i hi12).1 hS, fun U hU hW => ⟨rfl, hE.callF hS hU hW⟩⟩ rfl rfl hl.1 rfl (lv_room (Nat.le_of_ble_eq_true rfl)) dJ0_indexOf_7cf53_14 ⟨Nat.le_of_ble_eq_true rfl, Nat.le_of_ble_eq_true rfl⟩).run (fun r_4 hw_5 => ?_)
  refine qi_as (y := nI (sLen i)) (hw_5) ?_
  refine vp_callSi (va_runS (As := [.ref (sV i), .int (nI k), .int 0, .int (nI (sLen i))]) (rest := []) ⟨hx, hb, hml, hown, hts⟩ (c_idx1 l dC dI sK sV i k hi12 hk8) (va_cwS 4 hts gJ0_indexOf_7cf53_J1_indexOf_4cfef rfl rfl rfl hd_yJ1_indexOf_4cfef.2 ⟨Nat.le_of_ble_eq_true rfl, Nat.le_of_ble_eq_true rfl⟩) ⟨fun a U g mk q => by obtain ⟨q0, qhE⟩ := q; exact ⟨q0, qhE.mv g mk a⟩, fun U hU hW => ⟨rfl, hE.callF hS hU hW⟩⟩ rfl rfl hl.1 rfl (lv_room (Nat.le_of_ble_eq_true rfl)) dJ0_indexOf_7cf53_17 ⟨Nat.le_of_ble_eq_true rfl, Nat.le_of_ble_eq_true rfl⟩).run (fun r_6 hw_7 => ?_)
  refine lv_goto (tgt := 36) hx hb dJ0_indexOf_7cf53_20 (by decide) ?_
  rw [hQ]
  exact W.iret (v := r_6) hx hb hr (fun tQ htQ hWQ => ⟨r_6, rfl, hw_7, by rw [htQ]⟩) (fun q hq => absurd hq List.not_mem_nil) dJ0_indexOf_7cf53_36

set_option maxHeartbeats 4000000 in
set_option maxRecDepth 100000 in
theorem c_idx3 (l : Launch) (dC : Nat → ClassId) (dI : Nat → Nat → Nat) (sK sV : Nat → Nat) (i k : Nat) (hi12 : i < 12) (hk8 : k < 128) : Met l yJ0_indexOf_0f7a4 wsJ0_indexOf_0f7a4 ({ frames := 3, cells := 0, slots := 0, locals := 70 } : Room) (va_Pc [.ref (sK i), .int (nI k)] (fun U => Gs sK sV (fun _ => False) U)) (vp_Si (fun r => (r = -1 ∧ ∀ q, q < sLen i → ¬ (sTx i).getD q 0 = k) ∨ (∃ jq : Nat, jq < sLen i ∧ r = nI jq ∧ (sTx i).getD jq 0 = k))) 0 0 (fun _ => False) := by
  refine met_ofQ (cc := cJ0_indexOf_0f7a4) (maxL := 2) (ret := (some .int)) (by decide) rfl ?_
  intro p e s m args below meth c s₁ Q B hml hv hQ
  obtain ⟨rfl, hE⟩ := hv
  have hx := B.exec
  have hb := B.bytes
  have hr := B.returns
  have hts := atoms_spec (ws := wsJ0_indexOf_0f7a4) B.pre
  have hown : s.vm.findClass RJ0 = some m.cls := findClass_of_methodNamed B.named
  have hlocks := B.notSynchronized
  obtain ⟨A, hAe⟩ : ∃ A : Nat → Prop, A = fun _ => False := ⟨_, rfl⟩
  rw [← hAe] at hQ hE
  have hS : va_S A s.heap s.heap [] := va_S.rf
  have hl := lv_entry [.ref (sK i), .int (nI k)] (n := 2) (Nat.le_of_ble_eq_true rfl)
  rw [lg_entry_eq]
  generalize (lg_sl [.ref (sK i), .int (nI k)] ++ List.replicate (2 - (lg_sl [.ref (sK i), .int (nI k)]).length) Slot.unset).toArray = ls at hl ⊢
  generalize hag : ([.ref (sK i), .int (nI k)] : List Value).toArray = args at hts hQ ⊢
  have hl : lv_has ls 2 [(0, .ref (sK i)), (1, .int (nI k))] := hl
  refine lv_aload_n hx hb dJ0_indexOf_0f7a4_0 rfl (lv_at hl 0 rfl) ?_
  refine lv_iload_n hx hb dJ0_indexOf_0f7a4_1 rfl (lv_at hl 1 rfl) ?_
  refine lv_iconst (v := 0) hx hb dJ0_indexOf_0f7a4_2 (by decide) ?_
  refine vp_callSi (va_runV (As := [.int (nI k), .int 0]) (rest := []) ⟨hx, hb, hml, hown, hts⟩ (c_idx2 l dC dI sK sV i k hi12 hk8) (cwV 2 hts gJ0_indexOf_0f7a4_J0_indexOf_7cf53 rfl rfl rfl hd_yJ0_indexOf_7cf53 ⟨Nat.le_of_ble_eq_true rfl, Nat.le_of_ble_eq_true rfl⟩) ⟨fun a U g mk q => by obtain ⟨q0, qhE⟩ := q; exact ⟨q0, qhE.mv g mk a⟩, va_Orecv (hE.2.1 i hi12).1 hS, fun U hU hW => ⟨rfl, hE.callF hS hU hW⟩⟩ rfl rfl hl.1 rfl (lv_room (Nat.le_of_ble_eq_true rfl)) dJ0_indexOf_0f7a4_3 ⟨Nat.le_of_ble_eq_true rfl, Nat.le_of_ble_eq_true rfl⟩).run (fun r_1 hw_2 => ?_)
  rw [hQ]
  exact W.iret (v := r_1) hx hb hr (fun tQ htQ hWQ => ⟨r_1, rfl, hw_2, by rw [htQ]⟩) (fun q hq => absurd hq List.not_mem_nil) dJ0_indexOf_0f7a4_6

set_option maxHeartbeats 4000000 in
set_option maxRecDepth 100000 in
theorem c_text0 (l : Launch) (dC : Nat → ClassId) (dI : Nat → Nat → Nat) (sK sV : Nat → Nat) : Met l yX5_textOf wsX5_textOf ({ frames := 0, cells := 0, slots := 0, locals := 0 } : Room) (va_Pc [.int 0] (fun U => Gs sK sV (fun _ => False) U)) (va_Sq (fun r => r = some (sK 0))) 0 0 (fun _ => False) := by
  refine met_ofQ (cc := cX5_textOf) (maxL := 1) (ret := (some (.object "java/lang/String"))) (by decide) rfl ?_
  intro p e s m args below meth c s₁ Q B hml hv hQ
  obtain ⟨rfl, hE⟩ := hv
  have hx := B.exec
  have hb := B.bytes
  have hr := B.returns
  have hts := atoms_spec (ws := wsX5_textOf) B.pre
  have hown : s.vm.findClass RX5 = some m.cls := findClass_of_methodNamed B.named
  have hlocks := B.notSynchronized
  obtain ⟨A, hAe⟩ : ∃ A : Nat → Prop, A = fun _ => False := ⟨_, rfl⟩
  rw [← hAe] at hQ hE
  have hS : va_S A s.heap s.heap [] := va_S.rf
  have hl := lv_entry [.int 0] (n := 1) (Nat.le_of_ble_eq_true rfl)
  rw [lg_entry_eq]
  generalize (lg_sl [.int 0] ++ List.replicate (1 - (lg_sl [.int 0]).length) Slot.unset).toArray = ls at hl ⊢
  generalize hag : ([.int 0] : List Value).toArray = args at hts hQ ⊢
  have hl : lv_has ls 1 [(0, .int 0)] := hl
  refine lv_iload_n hx hb dX5_textOf_0 rfl (lv_at hl 0 rfl) ?_
  refine lv_tableIn (tgt := 28) hx hb dX5_textOf_1 (by decide) (by decide) rfl (by decide) ?_
  refine va_ldcS hx hb hown (show vk_R RX5 81 "see " (sK 0) s from hE.1 0 (by decide)) dX5_textOf_28 ?_
  rw [hQ]
  exact W.aret (v := .ref (sK 0)) hx hb hr (Or.inl ⟨_, rfl⟩) (Or.inr ⟨_, rfl⟩) (fun tQ htQ hWQ => ⟨some (sK 0), rfl, rfl, by rw [htQ]⟩) (fun q hq => absurd hq List.not_mem_nil) dX5_textOf_30

set_option maxHeartbeats 4000000 in
set_option maxRecDepth 100000 in
theorem c_text1 (l : Launch) (dC : Nat → ClassId) (dI : Nat → Nat → Nat) (sK sV : Nat → Nat) : Met l yX5_textOf wsX5_textOf ({ frames := 0, cells := 0, slots := 0, locals := 0 } : Room) (va_Pc [.int 1] (fun U => Gs sK sV (fun _ => False) U)) (va_Sq (fun r => r = some (sK 1))) 0 0 (fun _ => False) := by
  refine met_ofQ (cc := cX5_textOf) (maxL := 1) (ret := (some (.object "java/lang/String"))) (by decide) rfl ?_
  intro p e s m args below meth c s₁ Q B hml hv hQ
  obtain ⟨rfl, hE⟩ := hv
  have hx := B.exec
  have hb := B.bytes
  have hr := B.returns
  have hts := atoms_spec (ws := wsX5_textOf) B.pre
  have hown : s.vm.findClass RX5 = some m.cls := findClass_of_methodNamed B.named
  have hlocks := B.notSynchronized
  obtain ⟨A, hAe⟩ : ∃ A : Nat → Prop, A = fun _ => False := ⟨_, rfl⟩
  rw [← hAe] at hQ hE
  have hS : va_S A s.heap s.heap [] := va_S.rf
  have hl := lv_entry [.int 1] (n := 1) (Nat.le_of_ble_eq_true rfl)
  rw [lg_entry_eq]
  generalize (lg_sl [.int 1] ++ List.replicate (1 - (lg_sl [.int 1]).length) Slot.unset).toArray = ls at hl ⊢
  generalize hag : ([.int 1] : List Value).toArray = args at hts hQ ⊢
  have hl : lv_has ls 1 [(0, .int 1)] := hl
  refine lv_iload_n hx hb dX5_textOf_0 rfl (lv_at hl 0 rfl) ?_
  refine lv_tableIn (tgt := 31) hx hb dX5_textOf_1 (by decide) (by decide) rfl (by decide) ?_
  refine va_ldcS hx hb hown (show vk_R RX5 83 "hide " (sK 1) s from hE.1 1 (by decide)) dX5_textOf_31 ?_
  rw [hQ]
  exact W.aret (v := .ref (sK 1)) hx hb hr (Or.inl ⟨_, rfl⟩) (Or.inr ⟨_, rfl⟩) (fun tQ htQ hWQ => ⟨some (sK 1), rfl, rfl, by rw [htQ]⟩) (fun q hq => absurd hq List.not_mem_nil) dX5_textOf_33

set_option maxHeartbeats 4000000 in
set_option maxRecDepth 100000 in
theorem c_text2 (l : Launch) (dC : Nat → ClassId) (dI : Nat → Nat → Nat) (sK sV : Nat → Nat) : Met l yX5_textOf wsX5_textOf ({ frames := 0, cells := 0, slots := 0, locals := 0 } : Room) (va_Pc [.int 2] (fun U => Gs sK sV (fun _ => False) U)) (va_Sq (fun r => r = some (sK 2))) 0 0 (fun _ => False) := by
  refine met_ofQ (cc := cX5_textOf) (maxL := 1) (ret := (some (.object "java/lang/String"))) (by decide) rfl ?_
  intro p e s m args below meth c s₁ Q B hml hv hQ
  obtain ⟨rfl, hE⟩ := hv
  have hx := B.exec
  have hb := B.bytes
  have hr := B.returns
  have hts := atoms_spec (ws := wsX5_textOf) B.pre
  have hown : s.vm.findClass RX5 = some m.cls := findClass_of_methodNamed B.named
  have hlocks := B.notSynchronized
  obtain ⟨A, hAe⟩ : ∃ A : Nat → Prop, A = fun _ => False := ⟨_, rfl⟩
  rw [← hAe] at hQ hE
  have hS : va_S A s.heap s.heap [] := va_S.rf
  have hl := lv_entry [.int 2] (n := 1) (Nat.le_of_ble_eq_true rfl)
  rw [lg_entry_eq]
  generalize (lg_sl [.int 2] ++ List.replicate (1 - (lg_sl [.int 2]).length) Slot.unset).toArray = ls at hl ⊢
  generalize hag : ([.int 2] : List Value).toArray = args at hts hQ ⊢
  have hl : lv_has ls 1 [(0, .int 2)] := hl
  refine lv_iload_n hx hb dX5_textOf_0 rfl (lv_at hl 0 rfl) ?_
  refine lv_tableIn (tgt := 34) hx hb dX5_textOf_1 (by decide) (by decide) rfl (by decide) ?_
  refine va_ldcS hx hb hown (show vk_R RX5 85 "sight " (sK 2) s from hE.1 2 (by decide)) dX5_textOf_34 ?_
  rw [hQ]
  exact W.aret (v := .ref (sK 2)) hx hb hr (Or.inl ⟨_, rfl⟩) (Or.inr ⟨_, rfl⟩) (fun tQ htQ hWQ => ⟨some (sK 2), rfl, rfl, by rw [htQ]⟩) (fun q hq => absurd hq List.not_mem_nil) dX5_textOf_36

set_option maxHeartbeats 4000000 in
set_option maxRecDepth 100000 in
theorem c_text3 (l : Launch) (dC : Nat → ClassId) (dI : Nat → Nat → Nat) (sK sV : Nat → Nat) : Met l yX5_textOf wsX5_textOf ({ frames := 0, cells := 0, slots := 0, locals := 0 } : Room) (va_Pc [.int 3] (fun U => Gs sK sV (fun _ => False) U)) (va_Sq (fun r => r = some (sK 3))) 0 0 (fun _ => False) := by
  refine met_ofQ (cc := cX5_textOf) (maxL := 1) (ret := (some (.object "java/lang/String"))) (by decide) rfl ?_
  intro p e s m args below meth c s₁ Q B hml hv hQ
  obtain ⟨rfl, hE⟩ := hv
  have hx := B.exec
  have hb := B.bytes
  have hr := B.returns
  have hts := atoms_spec (ws := wsX5_textOf) B.pre
  have hown : s.vm.findClass RX5 = some m.cls := findClass_of_methodNamed B.named
  have hlocks := B.notSynchronized
  obtain ⟨A, hAe⟩ : ∃ A : Nat → Prop, A = fun _ => False := ⟨_, rfl⟩
  rw [← hAe] at hQ hE
  have hS : va_S A s.heap s.heap [] := va_S.rf
  have hl := lv_entry [.int 3] (n := 1) (Nat.le_of_ble_eq_true rfl)
  rw [lg_entry_eq]
  generalize (lg_sl [.int 3] ++ List.replicate (1 - (lg_sl [.int 3]).length) Slot.unset).toArray = ls at hl ⊢
  generalize hag : ([.int 3] : List Value).toArray = args at hts hQ ⊢
  have hl : lv_has ls 1 [(0, .int 3)] := hl
  refine lv_iload_n hx hb dX5_textOf_0 rfl (lv_at hl 0 rfl) ?_
  refine lv_tableOut (tgt := 37) hx hb dX5_textOf_1 (by decide) (by decide) ?_
  refine va_ldcS hx hb hown (show vk_R RX5 87 "drift " (sK 3) s from hE.1 3 (by decide)) dX5_textOf_37 ?_
  rw [hQ]
  exact W.aret (v := .ref (sK 3)) hx hb hr (Or.inl ⟨_, rfl⟩) (Or.inr ⟨_, rfl⟩) (fun tQ htQ hWQ => ⟨some (sK 3), rfl, rfl, by rw [htQ]⟩) (fun q hq => absurd hq List.not_mem_nil) dX5_textOf_39

theorem kc_xSign_0 : ∀ w ∈ wsX50, w ∈ wsX5_sign := fun w h => List.mem_cons_of_mem _ (gin_wsX50 w h)
theorem kc_xSign_1 : (.fieldLink RX5 34 "MistHeaps$Hill" "at" "I" : Cond) ∈ wsX5_sign := kc_of 124 rfl rfl rfl
theorem kc_xSign_2 : (.fieldLink RX5 31 "MistHeaps$Hill" "size" "I" : Cond) ∈ wsX5_sign := kc_of 123 rfl rfl rfl
theorem kc_xSign_3 : (.fieldLink RX5 28 "MistHeaps$Hill" "tape" "[I" : Cond) ∈ wsX5_sign := kc_of 122 rfl rfl rfl
set_option maxHeartbeats 4000000 in
set_option maxRecDepth 100000 in
theorem c_xSign (l : Launch) (dC : Nat → ClassId) (dI : Nat → Nat → Nat) (bl : Nat) (aTp : Nat) (eW : Nat) (eA : Nat) (eE : Nat) (eC : Nat) (ecl : Nat) (ecd : Nat) (esg : Int32) (cTp : ClassId) (fTp : Nat → Int32) (ez : Nat) (ep : Nat) (em : Nat) (ss : Nat → Nat) (hez : ez ≤ 100) (hep : ep ≤ 200) (gX : TX fTp ez ss) : Met l yX5_sign wsX5_sign ({ frames := 0, cells := 0, slots := 0, locals := 0 } : Room) (va_Pc [.ref bl] (fun U => va_P (dC, dI) vwCl [(zo7iirrrririii bl esg (nI ecl) eW eA eE eC (nI ecd) aTp (nI ez) (nI ep) (nI em)), (zaI aTp cTp 100 fTp)] U.heap ∧ va_K (dC, dI) vwCl [(cTp, .int)] U)) (vp_Si (fun r => r = nI (ss ep))) 0 0 (fun _ => False) := by
  refine met_ofQ (cc := cX5_sign) (maxL := 1) (ret := (some .int)) (by decide) rfl ?_
  intro p e s m args below meth c s₁ Q B hml hv hQ
  obtain ⟨rfl, hP, hK⟩ := hv
  have hx := B.exec
  have hb := B.bytes
  have hr := B.returns
  have hts := atoms_spec (ws := wsX5_sign) B.pre
  have hown : s.vm.findClass RX5 = some m.cls := findClass_of_methodNamed B.named
  have hlocks := B.notSynchronized
  obtain ⟨A, hAe⟩ : ∃ A : Nat → Prop, A = fun _ => False := ⟨_, rfl⟩
  rw [← hAe] at hQ
  have hS : va_S A s.heap s.heap [] := va_S.rf
  have hl := lv_entry [.ref bl] (n := 1) (Nat.le_of_ble_eq_true rfl)
  rw [lg_entry_eq]
  generalize (lg_sl [.ref bl] ++ List.replicate (1 - (lg_sl [.ref bl]).length) Slot.unset).toArray = ls at hl ⊢
  generalize hag : ([.ref bl] : List Value).toArray = args at hts hQ ⊢
  have hl : lv_has ls 1 [(0, .ref bl)] := hl
  refine lv_aload_n hx hb dX5_sign_0 rfl (lv_at hl 0 rfl) ?_
  refine va_get (D := (dC, dI)) (ci := 7) (v := .int (nI ep)) (C := RX5) (T := TX5) (N := 11) hx hb hts kc_xSign_0 hown hK hP 0 rfl rfl 9 (by decide) (hts (.fieldLink RX5 34 "MistHeaps$Hill" "at" "I") kc_xSign_1) (fun _ h9 => h9) rfl dX5_sign_1 ?_
  refine lv_aload_n hx hb dX5_sign_4 rfl (lv_at hl 0 rfl) ?_
  refine va_get (D := (dC, dI)) (ci := 7) (v := .int (nI ez)) (C := RX5) (T := TX5) (N := 11) hx hb hts kc_xSign_0 hown hK hP 0 rfl rfl 8 (by decide) (hts (.fieldLink RX5 31 "MistHeaps$Hill" "size" "I") kc_xSign_2) (fun _ h9 => h9) rfl dX5_sign_5 ?_
  refine lv_icmp_ge (tgt := 23) hx hb dX5_sign_8 (by decide) (fun c_1 => ?_) (fun c_1 => ?_)
  · skip
    have c_1 : ez ≤ ep := (nI_leI (a := ez) (b := ep) (by omega) (by omega)).mp c_1
    refine lv_iconst (v := 0) hx hb dX5_sign_23 (by decide) ?_
    rw [hQ]
    exact W.iret (v := 0) hx hb hr (fun tQ htQ hWQ => ⟨0, rfl, by first | rfl | (rw [gX.2.1 ep (by omega)]; rfl), by rw [htQ]⟩) (fun q hq => absurd hq List.not_mem_nil) dX5_sign_24
  · skip
    have c_1 : ¬ ez ≤ ep := fun q => c_1 ((nI_leI (a := ez) (b := ep) (by omega) (by omega)).mpr q)
    refine lv_aload_n hx hb dX5_sign_11 rfl (lv_at hl 0 rfl) ?_
    refine va_get (D := (dC, dI)) (ci := 7) (v := .ref aTp) (C := RX5) (T := TX5) (N := 11) hx hb hts kc_xSign_0 hown hK hP 0 rfl rfl 7 (by decide) (hts (.fieldLink RX5 28 "MistHeaps$Hill" "tape" "[I") kc_xSign_3) (fun _ h9 => h9) rfl dX5_sign_12 ?_
    refine lv_aload_n hx hb dX5_sign_15 rfl (lv_at hl 0 rfl) ?_
    refine va_get (D := (dC, dI)) (ci := 7) (v := .int (nI ep)) (C := RX5) (T := TX5) (N := 11) hx hb hts kc_xSign_0 hown hK hP 0 rfl rfl 9 (by decide) (hts (.fieldLink RX5 34 "MistHeaps$Hill" "at" "I") kc_xSign_1) (fun _ h9 => h9) rfl dX5_sign_16 ?_
    refine va_iald hx hb hK hP 1 0 rfl rfl (vp_in_nI (n := ep) (N := 100) (by omega) (by omega)) dX5_sign_19 ?_
    refine qi_as (y := nI (ss ep)) ((show fTp (nI ep : Int32).toNatClampNeg = fTp ep from by rw [nI_clamp (by omega)]).trans (gX.1 ep (by omega))) ?_
    refine lv_goto (tgt := 24) hx hb dX5_sign_20 (by decide) ?_
    rw [hQ]
    exact W.iret (v := nI (ss ep)) hx hb hr (fun tQ htQ hWQ => ⟨nI (ss ep), rfl, by first | rfl | (rw [gX.2.1 ep (by omega)]; rfl), by rw [htQ]⟩) (fun q hq => absurd hq List.not_mem_nil) dX5_sign_24

set_option maxHeartbeats 4000000 in
set_option maxRecDepth 100000 in
theorem c_xDigit (l : Launch) (dC : Nat → ClassId) (dI : Nat → Nat → Nat) (k : Nat) (hk8 : k < 128) : Met l yX5_isDigit wsX5_isDigit ({ frames := 0, cells := 0, slots := 0, locals := 0 } : Room) (va_Pc [.int (nI k)] (fun U => True)) (vp_Si (fun r => (r = 1 ∧ isD k) ∨ (r = 0 ∧ ¬ isD k))) 0 0 (fun _ => False) := by
  refine met_ofQ (cc := cX5_isDigit) (maxL := 1) (ret := (some .boolean)) (by decide) rfl ?_
  intro p e s m args below meth c s₁ Q B hml hv hQ
  obtain ⟨rfl, -⟩ := hv
  have hx := B.exec
  have hb := B.bytes
  have hr := B.returns
  have hts := atoms_spec (ws := wsX5_isDigit) B.pre
  have hown : s.vm.findClass RX5 = some m.cls := findClass_of_methodNamed B.named
  have hlocks := B.notSynchronized
  obtain ⟨A, hAe⟩ : ∃ A : Nat → Prop, A = fun _ => False := ⟨_, rfl⟩
  rw [← hAe] at hQ
  have hS : va_S A s.heap s.heap [] := va_S.rf
  have hl := lv_entry [.int (nI k)] (n := 1) (Nat.le_of_ble_eq_true rfl)
  rw [lg_entry_eq]
  generalize (lg_sl [.int (nI k)] ++ List.replicate (1 - (lg_sl [.int (nI k)]).length) Slot.unset).toArray = ls at hl ⊢
  generalize hag : ([.int (nI k)] : List Value).toArray = args at hts hQ ⊢
  have hl : lv_has ls 1 [(0, .int (nI k))] := hl
  refine lv_iload_n hx hb dX5_isDigit_0 rfl (lv_at hl 0 rfl) ?_
  refine lv_bipush (v := 48) hx hb dX5_isDigit_1 (by decide) ?_
  refine lv_icmp_lt (tgt := 16) hx hb dX5_isDigit_3 (by decide) (fun c_1 => ?_) (fun c_1 => ?_)
  · skip
    have c_1 : k < 48 := (nI_ltI (a := k) (b := 48) (by omega) (by omega)).mp c_1
    refine lv_iconst (v := 0) hx hb dX5_isDigit_16 (by decide) ?_
    rw [hQ]
    exact W.zret (v := 0) hx hb hr rfl (fun tQ htQ hWQ => ⟨0, rfl, by first | exact Or.inl ⟨rfl, by omega, by omega⟩ | exact Or.inr ⟨rfl, by omega⟩, by rw [htQ]⟩) (fun q hq => absurd hq List.not_mem_nil) dX5_isDigit_17
  · skip
    have c_1 : ¬ k < 48 := fun q => c_1 ((nI_ltI (a := k) (b := 48) (by omega) (by omega)).mpr q)
    refine lv_iload_n hx hb dX5_isDigit_6 rfl (lv_at hl 0 rfl) ?_
    refine lv_bipush (v := 57) hx hb dX5_isDigit_7 (by decide) ?_
    refine lv_icmp_gt (tgt := 16) hx hb dX5_isDigit_9 (by decide) (fun c_2 => ?_) (fun c_2 => ?_)
    · skip
      have c_2 : 57 < k := (nI_ltI (a := 57) (b := k) (by omega) (by omega)).mp c_2
      refine lv_iconst (v := 0) hx hb dX5_isDigit_16 (by decide) ?_
      rw [hQ]
      exact W.zret (v := 0) hx hb hr rfl (fun tQ htQ hWQ => ⟨0, rfl, by first | exact Or.inl ⟨rfl, by omega, by omega⟩ | exact Or.inr ⟨rfl, by omega⟩, by rw [htQ]⟩) (fun q hq => absurd hq List.not_mem_nil) dX5_isDigit_17
    · skip
      have c_2 : ¬ 57 < k := fun q => c_2 ((nI_ltI (a := 57) (b := k) (by omega) (by omega)).mpr q)
      refine lv_iconst (v := 1) hx hb dX5_isDigit_12 (by decide) ?_
      refine lv_goto (tgt := 17) hx hb dX5_isDigit_13 (by decide) ?_
      rw [hQ]
      exact W.zret (v := 1) hx hb hr rfl (fun tQ htQ hWQ => ⟨1, rfl, by first | exact Or.inl ⟨rfl, by omega, by omega⟩ | exact Or.inr ⟨rfl, by omega⟩, by rw [htQ]⟩) (fun q hq => absurd hq List.not_mem_nil) dX5_isDigit_17

theorem kc_xReadSign_0 : ∀ w ∈ wsX50, w ∈ wsX5_readSign := fun w h => List.mem_cons_of_mem _ (gin_wsX50 w h)
theorem kc_xReadSign_1 : (.fieldLink RX5 34 "MistHeaps$Hill" "at" "I" : Cond) ∈ wsX5_readSign := kc_of 124 rfl rfl rfl
set_option maxHeartbeats 4000000 in
set_option maxRecDepth 100000 in
theorem c_xReadSign (l : Launch) (dC : Nat → ClassId) (dI : Nat → Nat → Nat) (bl : Nat) (aTp : Nat) (eW : Nat) (eA : Nat) (eE : Nat) (eC : Nat) (k : Nat) (ecl : Nat) (ecd : Nat) (esg : Int32) (cTp : ClassId) (fTp : Nat → Int32) (ez : Nat) (ep : Nat) (em : Nat) (ss : Nat → Nat) (sz : Nat) (hez : ez ≤ 100) (hep : ep ≤ 200) (hk0 : 0 < k) (hk9 : k < 1000) (gX : TX fTp ez ss) : Met l yX5_readSign wsX5_readSign ({ frames := 1, cells := 0, slots := 0, locals := 20 } : Room) (va_Pc [.ref bl, .int (nI k)] (fun U => U.heap.size = sz ∧ va_P (dC, dI) vwCl [(zo7iirrrririii bl esg (nI ecl) eW eA eE eC (nI ecd) aTp (nI ez) (nI ep) (nI em)), (zaI aTp cTp 100 fTp)] U.heap ∧ va_K (dC, dI) vwCl [(cTp, .int)] U ∧ va_D (fun _ => True) [(zo7iirrrririii bl esg (nI ecl) eW eA eE eC (nI ecd) aTp (nI ez) (nI ep) (nI em)), (zaI aTp cTp 100 fTp)])) (va_Qi (fun (r : Int32) (u : Nat) => match u with | ep9 => (r = 1 ∧ ss ep = k ∧ ep < ez ∧ ep9 = ep + 1) ∨ (r = 0 ∧ ¬ ss ep = k ∧ ep9 = ep)) (fun (u : Nat) (t : State) => match u with | ep9 => va_P (dC, dI) vwCl [(zo7iirrrririii bl esg (nI ecl) eW eA eE eC (nI ecd) aTp (nI ez) (nI ep9) (nI em)), (zaI aTp cTp 100 fTp)] t.heap ∧ va_K (dC, dI) vwCl [(cTp, .int)] t ∧ va_D (va_A [(zo7iirrrririii bl esg (nI ecl) eW eA eE eC (nI ecd) aTp (nI ez) (nI ep) (nI em)), (zaI aTp cTp 100 fTp)] sz) [(zo7iirrrririii bl esg (nI ecl) eW eA eE eC (nI ecd) aTp (nI ez) (nI ep9) (nI em)), (zaI aTp cTp 100 fTp)]) (va_A [(zo7iirrrririii bl esg (nI ecl) eW eA eE eC (nI ecd) aTp (nI ez) (nI ep) (nI em)), (zaI aTp cTp 100 fTp)] sz)) 0 0 (va_A [(zo7iirrrririii bl esg (nI ecl) eW eA eE eC (nI ecd) aTp (nI ez) (nI ep) (nI em)), (zaI aTp cTp 100 fTp)] sz) := by
  refine met_ofQ (cc := cX5_readSign) (maxL := 2) (ret := (some .boolean)) (by decide) rfl ?_
  intro p e s m args below meth c s₁ Q B hml hv hQ
  obtain ⟨rfl, hsz, hP, hK, hD0⟩ := hv
  have hx := B.exec
  have hb := B.bytes
  have hr := B.returns
  have hts := atoms_spec (ws := wsX5_readSign) B.pre
  have hown : s.vm.findClass RX5 = some m.cls := findClass_of_methodNamed B.named
  have hlocks := B.notSynchronized
  subst hsz
  have hD := hD0.self (sz := s.heap.size)
  generalize hAe : va_A [(zo7iirrrririii bl esg (nI ecl) eW eA eE eC (nI ecd) aTp (nI ez) (nI ep) (nI em)), (zaI aTp cTp 100 fTp)] s.heap.size = A at hD hQ ⊢
  have hA : ∀ q : Nat, s.heap.size ≤ q → A q := fun q h => by rw [← hAe]; exact Or.inr h
  have hS : va_S A s.heap s.heap [] := va_S.rf
  have hl := lv_entry [.ref bl, .int (nI k)] (n := 2) (Nat.le_of_ble_eq_true rfl)
  rw [lg_entry_eq]
  generalize (lg_sl [.ref bl, .int (nI k)] ++ List.replicate (2 - (lg_sl [.ref bl, .int (nI k)]).length) Slot.unset).toArray = ls at hl ⊢
  generalize hag : ([.ref bl, .int (nI k)] : List Value).toArray = args at hts hQ ⊢
  have hl : lv_has ls 2 [(0, .ref bl), (1, .int (nI k))] := hl
  obtain ⟨H, hH⟩ : ∃ H : Heap, H = s.heap := ⟨_, rfl⟩
  rw [← hH] at hP
  rw [← hH]
  have hS : va_S A s.heap H [] := by rw [hH]; exact hS
  obtain ⟨locs, hlo⟩ : ∃ L : List Loc, L = [] := ⟨_, rfl⟩
  rw [← hlo] at hS
  rw [← hlo]
  clear hH hlo
  refine lv_aload_n hx hb dX5_readSign_0 rfl (lv_at hl 0 rfl) ?_
  have hPc := hP.sub (ws' := [(zo7iirrrririii bl esg (nI ecl) eW eA eE eC (nI ecd) aTp (nI ez) (nI ep) (nI em)), (zaI aTp cTp 100 fTp)]) [0, 1] rfl
  have hKc := hK.sub (tys' := [(cTp, .int)]) [0] rfl
  refine vp_callSi (va_runV (As := []) (rest := []) ⟨hx, hb, hml, hown, hts⟩ (c_xSign l dC dI bl aTp eW eA eE eC ecl ecd esg cTp fTp ez ep em ss (hez) (by omega) (gX)) (cwV 0 hts gX5_readSign_X5_sign rfl rfl rfl hd_yX5_sign ⟨Nat.le_of_ble_eq_true rfl, Nat.le_of_ble_eq_true rfl⟩) ⟨fun a U g mk q => by obtain ⟨q0, qP, qK⟩ := q; exact ⟨q0, mvP g mk a qP, mvK g mk a qK⟩, va_recv hK hP (ci := 7) (q := (RX5, TX5, 11)) (q0 := 0) rfl rfl, fun U hU hW => ⟨rfl, by rw [hU]; exact hPc, va_K.moved hW.alike hKc⟩⟩ rfl rfl hl.1 rfl (lv_room (Nat.le_of_ble_eq_true rfl)) dX5_readSign_1 ⟨Nat.le_of_ble_eq_true rfl, Nat.le_of_ble_eq_true rfl⟩).run (fun r_1 hw_2 => ?_)
  obtain rfl := hw_2
  have hs8 := gX.2.2 (ep)
  refine lv_iload_n hx hb dX5_readSign_4 rfl (lv_at hl 1 rfl) ?_
  refine lv_icmp_eq (tgt := 10) hx hb dX5_readSign_5 (by decide) (fun c_3 => ?_) (fun c_3 => ?_)
  · skip
    have c_3 : (ss ep) = k := (nI_eq (a := (ss ep)) (b := k) (by omega) (by omega)).mp c_3
    refine lv_aload_n hx hb dX5_readSign_10 rfl (lv_at hl 0 rfl) ?_
    refine lv_dup hx hb dX5_readSign_11 rfl ?_
    refine va_get (D := (dC, dI)) (ci := 7) (v := .int (nI ep)) (C := RX5) (T := TX5) (N := 11) hx hb hts kc_xReadSign_0 hown hK hP 0 rfl rfl 9 (by decide) (hts (.fieldLink RX5 34 "MistHeaps$Hill" "at" "I") kc_xReadSign_1) (fun _ h9 => h9) rfl dX5_readSign_12 ?_
    refine lv_iconst (v := 1) hx hb dX5_readSign_15 (by decide) ?_
    refine lv_iadd hx hb dX5_readSign_16 ?_
    refine qi_as (y := nI (ep + 1)) (nI_add ep 1) ?_
    refine va_put (D := (dC, dI)) (ci := 7) (v := .int (nI (ep + 1))) (ty := .int) (C := RX5) (T := TX5) (N := 11) hx hb hts kc_xReadSign_0 tyX5 tyX5_ok nmX5 hown hK hP hD hS 0 rfl rfl 9 (by decide) (hts (.fieldLink RX5 34 "MistHeaps$Hill" "at" "I") kc_xReadSign_1) (fun _ h9 => h9) rfl (by decide +kernel) rfl rfl (Nat.le_of_ble_eq_true rfl) dX5_readSign_17 (fun H locs hP hD hS => ?_)
    have hP : va_P (dC, dI) vwCl [(zo7iirrrririii bl esg (nI ecl) eW eA eE eC (nI ecd) aTp (nI ez) (nI (ep + 1)) (nI em)), (zaI aTp cTp 100 fTp)] H := hP
    have hD : va_D A [(zo7iirrrririii bl esg (nI ecl) eW eA eE eC (nI ecd) aTp (nI ez) (nI (ep + 1)) (nI em)), (zaI aTp cTp 100 fTp)] := hD
    refine lv_iconst (v := 1) hx hb dX5_readSign_20 (by decide) ?_
    rw [hQ]
    have hP9 := hP.sub (ws' := [(zo7iirrrririii bl esg (nI ecl) eW eA eE eC (nI ecd) aTp (nI ez) (nI (ep + 1)) (nI em)), (zaI aTp cTp 100 fTp)]) [0, 1] rfl
    have hD9 := hD.sub (ws' := [(zo7iirrrririii bl esg (nI ecl) eW eA eE eC (nI ecd) aTp (nI ez) (nI (ep + 1)) (nI em)), (zaI aTp cTp 100 fTp)]) [0, 1] (by decide) rfl
    have hK9 := hK.sub (tys' := [(cTp, .int)]) [0] rfl
    exact W.zret (v := 1) hx hb hr rfl (fun tQ htQ hWQ => ⟨⟨1, (ep + 1), rfl, by first | exact Or.inr ⟨rfl, by assumption, rfl⟩ | exact Or.inl ⟨rfl, by assumption, Nat.lt_of_not_le (fun z => by have := gX.2.1 ep z; omega), rfl⟩, by rw [htQ]; exact hP9, va_K.moved hWQ.alike hK9, hD9⟩, hS.F htQ⟩) hS.2.2 dX5_readSign_21
  · skip
    have c_3 : ¬ (ss ep) = k := fun q => c_3 ((nI_eq (a := (ss ep)) (b := k) (by omega) (by omega)).mpr q)
    refine lv_iconst (v := 0) hx hb dX5_readSign_8 (by decide) ?_
    rw [hQ]
    have hP9 := hP.sub (ws' := [(zo7iirrrririii bl esg (nI ecl) eW eA eE eC (nI ecd) aTp (nI ez) (nI ep) (nI em)), (zaI aTp cTp 100 fTp)]) [0, 1] rfl
    have hD9 := hD.sub (ws' := [(zo7iirrrririii bl esg (nI ecl) eW eA eE eC (nI ecd) aTp (nI ez) (nI ep) (nI em)), (zaI aTp cTp 100 fTp)]) [0, 1] (by decide) rfl
    have hK9 := hK.sub (tys' := [(cTp, .int)]) [0] rfl
    exact W.zret (v := 0) hx hb hr rfl (fun tQ htQ hWQ => ⟨⟨0, ep, rfl, by first | exact Or.inr ⟨rfl, by assumption, rfl⟩ | exact Or.inl ⟨rfl, by assumption, Nat.lt_of_not_le (fun z => by have := gX.2.1 ep z; omega), rfl⟩, by rw [htQ]; exact hP9, va_K.moved hWQ.alike hK9, hD9⟩, hS.F htQ⟩) hS.2.2 dX5_readSign_9

theorem kc_xReadNumber_0 : ∀ w ∈ wsX50, w ∈ wsX5_readNumber := fun w h => List.mem_cons_of_mem _ (gin_wsX50 w h)
theorem kc_xReadNumber_1 : (.fieldLink RX5 48 "MistHeaps$Hill" "number" "I" : Cond) ∈ wsX5_readNumber := kc_of 125 rfl rfl rfl
theorem kc_xReadNumber_2 : (.fieldLink RX5 34 "MistHeaps$Hill" "at" "I" : Cond) ∈ wsX5_readNumber := kc_of 124 rfl rfl rfl
set_option maxHeartbeats 4000000 in
set_option maxRecDepth 100000 in
theorem c_xReadNumber (l : Launch) (dC : Nat → ClassId) (dI : Nat → Nat → Nat) (bl : Nat) (aTp : Nat) (eW : Nat) (eA : Nat) (eE : Nat) (eC : Nat) (ecl : Nat) (ecd : Nat) (esg : Int32) (cTp : ClassId) (fTp : Nat → Int32) (ez : Nat) (ep : Nat) (em : Nat) (ss : Nat → Nat) (sz : Nat) (hez : ez ≤ 100) (hep : ep ≤ ez + 2) (gX : TX fTp ez ss) : Met l yX5_readNumber wsX5_readNumber ({ frames := 1, cells := 0, slots := 0, locals := 20 } : Room) (va_Pc [.ref bl] (fun U => U.heap.size = sz ∧ va_P (dC, dI) vwCl [(zo7iirrrririii bl esg (nI ecl) eW eA eE eC (nI ecd) aTp (nI ez) (nI ep) (nI em)), (zaI aTp cTp 100 fTp)] U.heap ∧ va_K (dC, dI) vwCl [(cTp, .int)] U ∧ va_D (fun _ => True) [(zo7iirrrririii bl esg (nI ecl) eW eA eE eC (nI ecd) aTp (nI ez) (nI ep) (nI em)), (zaI aTp cTp 100 fTp)])) (va_Qi (fun (r : Int32) (u : (Nat) × (Nat)) => match u with | (ep9, em9) => (r = 1 ∧ pNum ss ep = (some em9, ep9) ∧ ep < ep9 ∧ ep9 ≤ ez ∧ em9 ≤ 99) ∨ (r = 0 ∧ pNum ss ep = (none, ep) ∧ ep9 = ep ∧ em9 = em)) (fun (u : (Nat) × (Nat)) (t : State) => match u with | (ep9, em9) => va_P (dC, dI) vwCl [(zo7iirrrririii bl esg (nI ecl) eW eA eE eC (nI ecd) aTp (nI ez) (nI ep9) (nI em9)), (zaI aTp cTp 100 fTp)] t.heap ∧ va_K (dC, dI) vwCl [(cTp, .int)] t ∧ va_D (va_A [(zo7iirrrririii bl esg (nI ecl) eW eA eE eC (nI ecd) aTp (nI ez) (nI ep) (nI em)), (zaI aTp cTp 100 fTp)] sz) [(zo7iirrrririii bl esg (nI ecl) eW eA eE eC (nI ecd) aTp (nI ez) (nI ep9) (nI em9)), (zaI aTp cTp 100 fTp)]) (va_A [(zo7iirrrririii bl esg (nI ecl) eW eA eE eC (nI ecd) aTp (nI ez) (nI ep) (nI em)), (zaI aTp cTp 100 fTp)] sz)) 0 0 (va_A [(zo7iirrrririii bl esg (nI ecl) eW eA eE eC (nI ecd) aTp (nI ez) (nI ep) (nI em)), (zaI aTp cTp 100 fTp)] sz) := by
  refine met_ofQ (cc := cX5_readNumber) (maxL := 1) (ret := (some .boolean)) (by decide) rfl ?_
  intro p e s m args below meth c s₁ Q B hml hv hQ
  obtain ⟨rfl, hsz, hP, hK, hD0⟩ := hv
  have hx := B.exec
  have hb := B.bytes
  have hr := B.returns
  have hts := atoms_spec (ws := wsX5_readNumber) B.pre
  have hown : s.vm.findClass RX5 = some m.cls := findClass_of_methodNamed B.named
  have hlocks := B.notSynchronized
  subst hsz
  have hD := hD0.self (sz := s.heap.size)
  generalize hAe : va_A [(zo7iirrrririii bl esg (nI ecl) eW eA eE eC (nI ecd) aTp (nI ez) (nI ep) (nI em)), (zaI aTp cTp 100 fTp)] s.heap.size = A at hD hQ ⊢
  have hA : ∀ q : Nat, s.heap.size ≤ q → A q := fun q h => by rw [← hAe]; exact Or.inr h
  have hS : va_S A s.heap s.heap [] := va_S.rf
  have hl := lv_entry [.ref bl] (n := 1) (Nat.le_of_ble_eq_true rfl)
  rw [lg_entry_eq]
  generalize (lg_sl [.ref bl] ++ List.replicate (1 - (lg_sl [.ref bl]).length) Slot.unset).toArray = ls at hl ⊢
  generalize hag : ([.ref bl] : List Value).toArray = args at hts hQ ⊢
  have hl : lv_has ls 1 [(0, .ref bl)] := hl
  obtain ⟨H, hH⟩ : ∃ H : Heap, H = s.heap := ⟨_, rfl⟩
  rw [← hH] at hP
  rw [← hH]
  have hS : va_S A s.heap H [] := by rw [hH]; exact hS
  obtain ⟨locs, hlo⟩ : ∃ L : List Loc, L = [] := ⟨_, rfl⟩
  rw [← hlo] at hS
  rw [← hlo]
  clear hH hlo
  refine lv_aload_n hx hb dX5_readNumber_0 rfl (lv_at hl 0 rfl) ?_
  have hPc := hP.sub (ws' := [(zo7iirrrririii bl esg (nI ecl) eW eA eE eC (nI ecd) aTp (nI ez) (nI ep) (nI em)), (zaI aTp cTp 100 fTp)]) [0, 1] rfl
  have hKc := hK.sub (tys' := [(cTp, .int)]) [0] rfl
  refine vp_callSi (va_runV (As := []) (rest := []) ⟨hx, hb, hml, hown, hts⟩ (c_xSign l dC dI bl aTp eW eA eE eC ecl ecd esg cTp fTp ez ep em ss (hez) (by omega) (gX)) (cwV 0 hts gX5_readNumber_X5_sign rfl rfl rfl hd_yX5_sign ⟨Nat.le_of_ble_eq_true rfl, Nat.le_of_ble_eq_true rfl⟩) ⟨fun a U g mk q => by obtain ⟨q0, qP, qK⟩ := q; exact ⟨q0, mvP g mk a qP, mvK g mk a qK⟩, va_recv hK hP (ci := 7) (q := (RX5, TX5, 11)) (q0 := 0) rfl rfl, fun U hU hW => ⟨rfl, by rw [hU]; exact hPc, va_K.moved hW.alike hKc⟩⟩ rfl rfl hl.1 rfl (lv_room (Nat.le_of_ble_eq_true rfl)) dX5_readNumber_1 ⟨Nat.le_of_ble_eq_true rfl, Nat.le_of_ble_eq_true rfl⟩).run (fun r_1 hw_2 => ?_)
  obtain rfl := hw_2
  have hs8 := gX.2.2 (ep)
  refine vp_callSi (va_runS (As := [.int (nI (ss ep))]) (rest := []) ⟨hx, hb, hml, hown, hts⟩ (c_xDigit l dC dI (ss ep) (by omega)) (va_cwS 1 hts gX5_readNumber_X5_isDigit rfl rfl rfl hd_yX5_isDigit.2 ⟨Nat.le_of_ble_eq_true rfl, Nat.le_of_ble_eq_true rfl⟩) ⟨fun a U g mk q => ⟨q.1, trivial⟩, fun U hU hW => ⟨rfl, trivial⟩⟩ rfl rfl hl.1 rfl (lv_room (Nat.le_of_ble_eq_true rfl)) dX5_readNumber_4 ⟨Nat.le_of_ble_eq_true rfl, Nat.le_of_ble_eq_true rfl⟩).run (fun r_3 hw_4 => ?_)
  rcases hw_4 with ⟨rfl, hd1⟩ | ⟨rfl, hd1⟩
  · skip
    have hl1 : ep < ez := Nat.lt_of_not_le (fun z => by have := gX.2.1 _ z; omega)
    refine lv_if_ne (tgt := 12) hx hb dX5_readNumber_7 (by decide) (fun _ => ?_) (fun c_5 => absurd c_5 (by decide))
    refine lv_aload_n hx hb dX5_readNumber_12 rfl (lv_at hl 0 rfl) ?_
    refine lv_aload_n hx hb dX5_readNumber_13 rfl (lv_at hl 0 rfl) ?_
    have hPc := hP.sub (ws' := [(zo7iirrrririii bl esg (nI ecl) eW eA eE eC (nI ecd) aTp (nI ez) (nI ep) (nI em)), (zaI aTp cTp 100 fTp)]) [0, 1] rfl
    have hKc := hK.sub (tys' := [(cTp, .int)]) [0] rfl
    refine vp_callSi (va_runV (As := []) (rest := [.ref bl]) ⟨hx, hb, hml, hown, hts⟩ (c_xSign l dC dI bl aTp eW eA eE eC ecl ecd esg cTp fTp ez ep em ss (hez) (by omega) (gX)) (cwV 0 hts gX5_readNumber_X5_sign rfl rfl rfl hd_yX5_sign ⟨Nat.le_of_ble_eq_true rfl, Nat.le_of_ble_eq_true rfl⟩) ⟨fun a U g mk q => by obtain ⟨q0, qP, qK⟩ := q; exact ⟨q0, mvP g mk a qP, mvK g mk a qK⟩, va_recv hK hP (ci := 7) (q := (RX5, TX5, 11)) (q0 := 0) rfl rfl, fun U hU hW => ⟨rfl, by rw [hU]; exact hPc, va_K.moved hW.alike hKc⟩⟩ rfl rfl hl.1 rfl (lv_room (Nat.le_of_ble_eq_true rfl)) dX5_readNumber_14 ⟨Nat.le_of_ble_eq_true rfl, Nat.le_of_ble_eq_true rfl⟩).run (fun r_6 hw_7 => ?_)
    obtain rfl := hw_7
    have hs8 := gX.2.2 (ep)
    refine lv_bipush (v := 48) hx hb dX5_readNumber_17 (by decide) ?_
    refine lv_isub hx hb dX5_readNumber_19 ?_
    refine qi_as (y := nI ((ss ep) - 48)) (pk_sub (a := ss ep) (b := 48) (by omega)) ?_
    refine va_put (D := (dC, dI)) (ci := 7) (v := .int (nI ((ss ep) - 48))) (ty := .int) (C := RX5) (T := TX5) (N := 11) hx hb hts kc_xReadNumber_0 tyX5 tyX5_ok nmX5 hown hK hP hD hS 0 rfl rfl 10 (by decide) (hts (.fieldLink RX5 48 "MistHeaps$Hill" "number" "I") kc_xReadNumber_1) (fun _ h9 => h9) rfl (by decide +kernel) rfl rfl (Nat.le_of_ble_eq_true rfl) dX5_readNumber_20 (fun H locs hP hD hS => ?_)
    have hP : va_P (dC, dI) vwCl [(zo7iirrrririii bl esg (nI ecl) eW eA eE eC (nI ecd) aTp (nI ez) (nI ep) (nI ((ss ep) - 48))), (zaI aTp cTp 100 fTp)] H := hP
    have hD : va_D A [(zo7iirrrririii bl esg (nI ecl) eW eA eE eC (nI ecd) aTp (nI ez) (nI ep) (nI ((ss ep) - 48))), (zaI aTp cTp 100 fTp)] := hD
    refine lv_aload_n hx hb dX5_readNumber_23 rfl (lv_at hl 0 rfl) ?_
    refine lv_dup hx hb dX5_readNumber_24 rfl ?_
    refine va_get (D := (dC, dI)) (ci := 7) (v := .int (nI ep)) (C := RX5) (T := TX5) (N := 11) hx hb hts kc_xReadNumber_0 hown hK hP 0 rfl rfl 9 (by decide) (hts (.fieldLink RX5 34 "MistHeaps$Hill" "at" "I") kc_xReadNumber_2) (fun _ h9 => h9) rfl dX5_readNumber_25 ?_
    refine lv_iconst (v := 1) hx hb dX5_readNumber_28 (by decide) ?_
    refine lv_iadd hx hb dX5_readNumber_29 ?_
    refine qi_as (y := nI (ep + 1)) (nI_add ep 1) ?_
    refine va_put (D := (dC, dI)) (ci := 7) (v := .int (nI (ep + 1))) (ty := .int) (C := RX5) (T := TX5) (N := 11) hx hb hts kc_xReadNumber_0 tyX5 tyX5_ok nmX5 hown hK hP hD hS 0 rfl rfl 9 (by decide) (hts (.fieldLink RX5 34 "MistHeaps$Hill" "at" "I") kc_xReadNumber_2) (fun _ h9 => h9) rfl (by decide +kernel) rfl rfl (Nat.le_of_ble_eq_true rfl) dX5_readNumber_30 (fun H locs hP hD hS => ?_)
    have hP : va_P (dC, dI) vwCl [(zo7iirrrririii bl esg (nI ecl) eW eA eE eC (nI ecd) aTp (nI ez) (nI (ep + 1)) (nI ((ss ep) - 48))), (zaI aTp cTp 100 fTp)] H := hP
    have hD : va_D A [(zo7iirrrririii bl esg (nI ecl) eW eA eE eC (nI ecd) aTp (nI ez) (nI (ep + 1)) (nI ((ss ep) - 48))), (zaI aTp cTp 100 fTp)] := hD
    refine lv_aload_n hx hb dX5_readNumber_33 rfl (lv_at hl 0 rfl) ?_
    refine va_get (D := (dC, dI)) (ci := 7) (v := .int (nI ((ss ep) - 48))) (C := RX5) (T := TX5) (N := 11) hx hb hts kc_xReadNumber_0 hown hK hP 0 rfl rfl 10 (by decide) (hts (.fieldLink RX5 48 "MistHeaps$Hill" "number" "I") kc_xReadNumber_1) (fun _ h9 => h9) rfl dX5_readNumber_34 ?_
    refine lv_if_le (tgt := 79) hx hb dX5_readNumber_37 (by decide) (fun c_8 => ?_) (fun c_8 => ?_)
    · skip
      have c_8 : ((ss ep) - 48) ≤ 0 := (nI_leI (a := ((ss ep) - 48)) (b := 0) (by omega) (by omega)).mp c_8
      refine lv_iconst (v := 1) hx hb dX5_readNumber_79 (by decide) ?_
      rw [hQ]
      have hP9 := hP.sub (ws' := [(zo7iirrrririii bl esg (nI ecl) eW eA eE eC (nI ecd) aTp (nI ez) (nI (ep + 1)) (nI ((ss ep) - 48))), (zaI aTp cTp 100 fTp)]) [0, 1] rfl
      have hD9 := hD.sub (ws' := [(zo7iirrrririii bl esg (nI ecl) eW eA eE eC (nI ecd) aTp (nI ez) (nI (ep + 1)) (nI ((ss ep) - 48))), (zaI aTp cTp 100 fTp)]) [0, 1] (by decide) rfl
      have hK9 := hK.sub (tys' := [(cTp, .int)]) [0] rfl
      exact W.zret (v := 1) hx hb hr rfl (fun tQ htQ hWQ => ⟨⟨1, ((ep + 1), ((ss ep) - 48)), rfl, Or.inl ⟨rfl, pn_t1 hd1 (by omega) (by omega) (by omega), by omega, by omega, by omega⟩, by rw [htQ]; exact hP9, va_K.moved hWQ.alike hK9, hD9⟩, hS.F htQ⟩) hS.2.2 dX5_readNumber_80
    · skip
      have c_8 : ¬ ((ss ep) - 48) ≤ 0 := fun q => c_8 ((nI_leI (a := ((ss ep) - 48)) (b := 0) (by omega) (by omega)).mpr q)
      refine lv_aload_n hx hb dX5_readNumber_40 rfl (lv_at hl 0 rfl) ?_
      have hPc := hP.sub (ws' := [(zo7iirrrririii bl esg (nI ecl) eW eA eE eC (nI ecd) aTp (nI ez) (nI (ep + 1)) (nI ((ss ep) - 48))), (zaI aTp cTp 100 fTp)]) [0, 1] rfl
      have hKc := hK.sub (tys' := [(cTp, .int)]) [0] rfl
      refine vp_callSi (va_runV (As := []) (rest := []) ⟨hx, hb, hml, hown, hts⟩ (c_xSign l dC dI bl aTp eW eA eE eC ecl ecd esg cTp fTp ez (ep + 1) ((ss ep) - 48) ss (hez) (by omega) (gX)) (cwV 0 hts gX5_readNumber_X5_sign rfl rfl rfl hd_yX5_sign ⟨Nat.le_of_ble_eq_true rfl, Nat.le_of_ble_eq_true rfl⟩) ⟨fun a U g mk q => by obtain ⟨q0, qP, qK⟩ := q; exact ⟨q0, mvP g mk a qP, mvK g mk a qK⟩, va_recv hK hP (ci := 7) (q := (RX5, TX5, 11)) (q0 := 0) rfl rfl, fun U hU hW => ⟨rfl, by rw [hU]; exact hPc, va_K.moved hW.alike hKc⟩⟩ rfl rfl hl.1 rfl (lv_room (Nat.le_of_ble_eq_true rfl)) dX5_readNumber_41 ⟨Nat.le_of_ble_eq_true rfl, Nat.le_of_ble_eq_true rfl⟩).run (fun r_9 hw_10 => ?_)
      obtain rfl := hw_10
      have hs8 := gX.2.2 (ep + 1)
      refine vp_callSi (va_runS (As := [.int (nI (ss (ep + 1)))]) (rest := []) ⟨hx, hb, hml, hown, hts⟩ (c_xDigit l dC dI (ss (ep + 1)) (by omega)) (va_cwS 1 hts gX5_readNumber_X5_isDigit rfl rfl rfl hd_yX5_isDigit.2 ⟨Nat.le_of_ble_eq_true rfl, Nat.le_of_ble_eq_true rfl⟩) ⟨fun a U g mk q => ⟨q.1, trivial⟩, fun U hU hW => ⟨rfl, trivial⟩⟩ rfl rfl hl.1 rfl (lv_room (Nat.le_of_ble_eq_true rfl)) dX5_readNumber_44 ⟨Nat.le_of_ble_eq_true rfl, Nat.le_of_ble_eq_true rfl⟩).run (fun r_11 hw_12 => ?_)
      rcases hw_12 with ⟨rfl, hd2⟩ | ⟨rfl, hd2⟩
      · skip
        have hl2 : ep + 1 < ez := Nat.lt_of_not_le (fun z => by have := gX.2.1 _ z; omega)
        refine lv_if_eq (tgt := 79) hx hb dX5_readNumber_47 (by decide) (fun c_13 => absurd c_13 (by decide)) (fun _ => ?_)
        refine lv_aload_n hx hb dX5_readNumber_50 rfl (lv_at hl 0 rfl) ?_
        refine lv_aload_n hx hb dX5_readNumber_51 rfl (lv_at hl 0 rfl) ?_
        refine va_get (D := (dC, dI)) (ci := 7) (v := .int (nI ((ss ep) - 48))) (C := RX5) (T := TX5) (N := 11) hx hb hts kc_xReadNumber_0 hown hK hP 0 rfl rfl 10 (by decide) (hts (.fieldLink RX5 48 "MistHeaps$Hill" "number" "I") kc_xReadNumber_1) (fun _ h9 => h9) rfl dX5_readNumber_52 ?_
        refine lv_bipush (v := 10) hx hb dX5_readNumber_55 (by decide) ?_
        refine lv_imul hx hb dX5_readNumber_57 ?_
        refine qi_as (y := nI (((ss ep) - 48) * 10)) (pk_mul ((ss ep) - 48) 10) ?_
        refine lv_aload_n hx hb dX5_readNumber_58 rfl (lv_at hl 0 rfl) ?_
        have hPc := hP.sub (ws' := [(zo7iirrrririii bl esg (nI ecl) eW eA eE eC (nI ecd) aTp (nI ez) (nI (ep + 1)) (nI ((ss ep) - 48))), (zaI aTp cTp 100 fTp)]) [0, 1] rfl
        have hKc := hK.sub (tys' := [(cTp, .int)]) [0] rfl
        refine vp_callSi (va_runV (As := []) (rest := [.int (nI (((ss ep) - 48) * 10)), .ref bl]) ⟨hx, hb, hml, hown, hts⟩ (c_xSign l dC dI bl aTp eW eA eE eC ecl ecd esg cTp fTp ez (ep + 1) ((ss ep) - 48) ss (hez) (by omega) (gX)) (cwV 0 hts gX5_readNumber_X5_sign rfl rfl rfl hd_yX5_sign ⟨Nat.le_of_ble_eq_true rfl, Nat.le_of_ble_eq_true rfl⟩) ⟨fun a U g mk q => by obtain ⟨q0, qP, qK⟩ := q; exact ⟨q0, mvP g mk a qP, mvK g mk a qK⟩, va_recv hK hP (ci := 7) (q := (RX5, TX5, 11)) (q0 := 0) rfl rfl, fun U hU hW => ⟨rfl, by rw [hU]; exact hPc, va_K.moved hW.alike hKc⟩⟩ rfl rfl hl.1 rfl (lv_room (Nat.le_of_ble_eq_true rfl)) dX5_readNumber_59 ⟨Nat.le_of_ble_eq_true rfl, Nat.le_of_ble_eq_true rfl⟩).run (fun r_14 hw_15 => ?_)
        obtain rfl := hw_15
        have hs8 := gX.2.2 (ep + 1)
        refine lv_iadd hx hb dX5_readNumber_62 ?_
        refine qi_as (y := nI ((((ss ep) - 48) * 10) + (ss (ep + 1)))) (nI_add (((ss ep) - 48) * 10) (ss (ep + 1))) ?_
        refine lv_bipush (v := 48) hx hb dX5_readNumber_63 (by decide) ?_
        refine lv_isub hx hb dX5_readNumber_65 ?_
        refine qi_as (y := nI (((((ss ep) - 48) * 10) + (ss (ep + 1))) - 48)) (pk_sub (a := (((ss ep) - 48) * 10) + (ss (ep + 1))) (b := 48) (by omega)) ?_
        refine va_put (D := (dC, dI)) (ci := 7) (v := .int (nI (((((ss ep) - 48) * 10) + (ss (ep + 1))) - 48))) (ty := .int) (C := RX5) (T := TX5) (N := 11) hx hb hts kc_xReadNumber_0 tyX5 tyX5_ok nmX5 hown hK hP hD hS 0 rfl rfl 10 (by decide) (hts (.fieldLink RX5 48 "MistHeaps$Hill" "number" "I") kc_xReadNumber_1) (fun _ h9 => h9) rfl (by decide +kernel) rfl rfl (Nat.le_of_ble_eq_true rfl) dX5_readNumber_66 (fun H locs hP hD hS => ?_)
        have hP : va_P (dC, dI) vwCl [(zo7iirrrririii bl esg (nI ecl) eW eA eE eC (nI ecd) aTp (nI ez) (nI (ep + 1)) (nI (((((ss ep) - 48) * 10) + (ss (ep + 1))) - 48))), (zaI aTp cTp 100 fTp)] H := hP
        have hD : va_D A [(zo7iirrrririii bl esg (nI ecl) eW eA eE eC (nI ecd) aTp (nI ez) (nI (ep + 1)) (nI (((((ss ep) - 48) * 10) + (ss (ep + 1))) - 48))), (zaI aTp cTp 100 fTp)] := hD
        refine lv_aload_n hx hb dX5_readNumber_69 rfl (lv_at hl 0 rfl) ?_
        refine lv_dup hx hb dX5_readNumber_70 rfl ?_
        refine va_get (D := (dC, dI)) (ci := 7) (v := .int (nI (ep + 1))) (C := RX5) (T := TX5) (N := 11) hx hb hts kc_xReadNumber_0 hown hK hP 0 rfl rfl 9 (by decide) (hts (.fieldLink RX5 34 "MistHeaps$Hill" "at" "I") kc_xReadNumber_2) (fun _ h9 => h9) rfl dX5_readNumber_71 ?_
        refine lv_iconst (v := 1) hx hb dX5_readNumber_74 (by decide) ?_
        refine lv_iadd hx hb dX5_readNumber_75 ?_
        refine qi_as (y := nI ((ep + 1) + 1)) (nI_add (ep + 1) 1) ?_
        refine va_put (D := (dC, dI)) (ci := 7) (v := .int (nI ((ep + 1) + 1))) (ty := .int) (C := RX5) (T := TX5) (N := 11) hx hb hts kc_xReadNumber_0 tyX5 tyX5_ok nmX5 hown hK hP hD hS 0 rfl rfl 9 (by decide) (hts (.fieldLink RX5 34 "MistHeaps$Hill" "at" "I") kc_xReadNumber_2) (fun _ h9 => h9) rfl (by decide +kernel) rfl rfl (Nat.le_of_ble_eq_true rfl) dX5_readNumber_76 (fun H locs hP hD hS => ?_)
        have hP : va_P (dC, dI) vwCl [(zo7iirrrririii bl esg (nI ecl) eW eA eE eC (nI ecd) aTp (nI ez) (nI ((ep + 1) + 1)) (nI (((((ss ep) - 48) * 10) + (ss (ep + 1))) - 48))), (zaI aTp cTp 100 fTp)] H := hP
        have hD : va_D A [(zo7iirrrririii bl esg (nI ecl) eW eA eE eC (nI ecd) aTp (nI ez) (nI ((ep + 1) + 1)) (nI (((((ss ep) - 48) * 10) + (ss (ep + 1))) - 48))), (zaI aTp cTp 100 fTp)] := hD
        refine lv_iconst (v := 1) hx hb dX5_readNumber_79 (by decide) ?_
        rw [hQ]
        have hP9 := hP.sub (ws' := [(zo7iirrrririii bl esg (nI ecl) eW eA eE eC (nI ecd) aTp (nI ez) (nI ((ep + 1) + 1)) (nI (((((ss ep) - 48) * 10) + (ss (ep + 1))) - 48))), (zaI aTp cTp 100 fTp)]) [0, 1] rfl
        have hD9 := hD.sub (ws' := [(zo7iirrrririii bl esg (nI ecl) eW eA eE eC (nI ecd) aTp (nI ez) (nI ((ep + 1) + 1)) (nI (((((ss ep) - 48) * 10) + (ss (ep + 1))) - 48))), (zaI aTp cTp 100 fTp)]) [0, 1] (by decide) rfl
        have hK9 := hK.sub (tys' := [(cTp, .int)]) [0] rfl
        exact W.zret (v := 1) hx hb hr rfl (fun tQ htQ hWQ => ⟨⟨1, (((ep + 1) + 1), (((((ss ep) - 48) * 10) + (ss (ep + 1))) - 48)), rfl, Or.inl ⟨rfl, pn_t2 hd1 ⟨by omega, hd2⟩ (by omega) (by omega), by omega, by omega, by omega⟩, by rw [htQ]; exact hP9, va_K.moved hWQ.alike hK9, hD9⟩, hS.F htQ⟩) hS.2.2 dX5_readNumber_80
      · skip
        refine lv_if_eq (tgt := 79) hx hb dX5_readNumber_47 (by decide) (fun _ => ?_) (fun c_16 => absurd c_16 (by decide))
        refine lv_iconst (v := 1) hx hb dX5_readNumber_79 (by decide) ?_
        rw [hQ]
        have hP9 := hP.sub (ws' := [(zo7iirrrririii bl esg (nI ecl) eW eA eE eC (nI ecd) aTp (nI ez) (nI (ep + 1)) (nI ((ss ep) - 48))), (zaI aTp cTp 100 fTp)]) [0, 1] rfl
        have hD9 := hD.sub (ws' := [(zo7iirrrririii bl esg (nI ecl) eW eA eE eC (nI ecd) aTp (nI ez) (nI (ep + 1)) (nI ((ss ep) - 48))), (zaI aTp cTp 100 fTp)]) [0, 1] (by decide) rfl
        have hK9 := hK.sub (tys' := [(cTp, .int)]) [0] rfl
        exact W.zret (v := 1) hx hb hr rfl (fun tQ htQ hWQ => ⟨⟨1, ((ep + 1), ((ss ep) - 48)), rfl, Or.inl ⟨rfl, pn_t1 hd1 (fun z => hd2 z.2) (by omega) (by omega), by omega, by omega, by omega⟩, by rw [htQ]; exact hP9, va_K.moved hWQ.alike hK9, hD9⟩, hS.F htQ⟩) hS.2.2 dX5_readNumber_80
  · skip
    refine lv_if_ne (tgt := 12) hx hb dX5_readNumber_7 (by decide) (fun c_17 => absurd c_17 (by decide)) (fun _ => ?_)
    refine lv_iconst (v := 0) hx hb dX5_readNumber_10 (by decide) ?_
    rw [hQ]
    have hP9 := hP.sub (ws' := [(zo7iirrrririii bl esg (nI ecl) eW eA eE eC (nI ecd) aTp (nI ez) (nI ep) (nI em)), (zaI aTp cTp 100 fTp)]) [0, 1] rfl
    have hD9 := hD.sub (ws' := [(zo7iirrrririii bl esg (nI ecl) eW eA eE eC (nI ecd) aTp (nI ez) (nI ep) (nI em)), (zaI aTp cTp 100 fTp)]) [0, 1] (by decide) rfl
    have hK9 := hK.sub (tys' := [(cTp, .int)]) [0] rfl
    exact W.zret (v := 0) hx hb hr rfl (fun tQ htQ hWQ => ⟨⟨0, (ep, em), rfl, Or.inr ⟨rfl, pn_no hd1, rfl, rfl⟩, by rw [htQ]; exact hP9, va_K.moved hWQ.alike hK9, hD9⟩, hS.F htQ⟩) hS.2.2 dX5_readNumber_11

theorem kc_sameSigns_0 : ∀ w ∈ wsX50, w ∈ wsX5_sameSigns := fun w h => List.mem_cons_of_mem _ (gin_wsX50 w h)
theorem kc_sameSigns_1 : (.fieldLink RX5 34 "MistHeaps$Hill" "at" "I" : Cond) ∈ wsX5_sameSigns := kc_of 124 rfl rfl rfl
theorem kc_sameSigns_2 : (.fieldLink RX5 31 "MistHeaps$Hill" "size" "I" : Cond) ∈ wsX5_sameSigns := kc_of 123 rfl rfl rfl
theorem kc_sameSigns_3 : (.fieldLink RX5 28 "MistHeaps$Hill" "tape" "[I" : Cond) ∈ wsX5_sameSigns := kc_of 122 rfl rfl rfl
set_option maxHeartbeats 4000000 in
set_option maxRecDepth 100000 in
theorem c_sameSigns (l : Launch) (dC : Nat → ClassId) (dI : Nat → Nat → Nat) (sK sV : Nat → Nat) (bl : Nat) (aTp : Nat) (eW : Nat) (eA : Nat) (eE : Nat) (eC : Nat) (i : Nat) (ecl : Nat) (ecd : Nat) (esg : Int32) (cTp : ClassId) (fTp : Nat → Int32) (ez : Nat) (ep : Nat) (em : Nat) (ss : Nat → Nat) (hez : ez ≤ 100) (hep : ep ≤ ez) (hi12 : i < 12) (gX : TX fTp ez ss) : Met l yX5_sameSigns wsX5_sameSigns ({ frames := 4, cells := 0, slots := 0, locals := 85 } : Room) (va_Pc [.ref bl, .ref (sK i)] (fun U => va_P (dC, dI) vwCl [(zo7iirrrririii bl esg (nI ecl) eW eA eE eC (nI ecd) aTp (nI ez) (nI ep) (nI em)), (zaI aTp cTp 100 fTp)] U.heap ∧ va_K (dC, dI) vwCl [(cTp, .int)] U ∧ Gs sK sV (fun _ => False) U)) (vp_Si (fun r => r = nI (mlen ss ep (sTx i)) ∧ mlen ss ep (sTx i) ≤ sLen i ∧ ep + mlen ss ep (sTx i) ≤ ez)) 0 0 (fun _ => False) := by
  refine met_ofQ (cc := cX5_sameSigns) (maxL := 3) (ret := (some .int)) (by decide) rfl ?_
  intro p e s m args below meth c s₁ Q B hml hv hQ
  obtain ⟨rfl, hP, hK, hE⟩ := hv
  have hx := B.exec
  have hb := B.bytes
  have hr := B.returns
  have hts := atoms_spec (ws := wsX5_sameSigns) B.pre
  have hown : s.vm.findClass RX5 = some m.cls := findClass_of_methodNamed B.named
  have hlocks := B.notSynchronized
  obtain ⟨A, hAe⟩ : ∃ A : Nat → Prop, A = fun _ => False := ⟨_, rfl⟩
  rw [← hAe] at hQ hE
  have hS : va_S A s.heap s.heap [] := va_S.rf
  have hl := lv_entry [.ref bl, .ref (sK i)] (n := 3) (Nat.le_of_ble_eq_true rfl)
  rw [lg_entry_eq]
  generalize (lg_sl [.ref bl, .ref (sK i)] ++ List.replicate (3 - (lg_sl [.ref bl, .ref (sK i)]).length) Slot.unset).toArray = ls at hl ⊢
  generalize hag : ([.ref bl, .ref (sK i)] : List Value).toArray = args at hts hQ ⊢
  have hl : lv_has ls 3 [(0, .ref bl), (1, .ref (sK i))] := hl
  have hs7 := sLen_lt hi12
  refine lv_iconst (v := 0) hx hb dX5_sameSigns_0 (by decide) ?_
  refine lv_istore_n (lv' := [(2, .int 0), (0, .ref bl), (1, .ref (sK i))]) hx hb dX5_sameSigns_1 rfl hl (by decide) rfl (fun ls hl => ?_)
  have L2 : ∀ (nF : Nat) (j : Nat), sLen i - j < nF → (j ≤ sLen i ∧ ep + j ≤ ez) → (mlen ss ep (sTx i) = j + mlen ss (ep + j) ((sTx i).drop j)) → ∀ (ls : Array Slot), lv_has ls 3 [(0, .ref bl), (1, .ref (sK i)), (2, .int (nI j))] → W p l e ({ frames := 4, cells := 0, slots := 0, locals := 85 } : Room) s m args below meth c s.heap [] 0 0 Q (F0 m 2 ls []) := by
    intro nF
    induction nF with
    | zero => intro j hm; exact absurd hm (Nat.not_lt_zero _)
    | succ nF ih2 =>
      intro j hm hj hML ls hl
      obtain ⟨hja, hjb⟩ := hj
      refine lv_iload_n hx hb dX5_sameSigns_2 rfl (lv_at hl 2 rfl) ?_
      refine lv_aload_n hx hb dX5_sameSigns_3 rfl (lv_at hl 1 rfl) ?_
      refine vp_callSi (va_runV (As := []) (rest := [.int (nI j)]) ⟨hx, hb, hml, hown, hts⟩ (c_len l dC dI sK sV i hi12) (cwV 0 hts gX5_sameSigns_J0_length_8abf5 rfl rfl rfl hd_yJ0_length_8abf5 ⟨Nat.le_of_ble_eq_true rfl, Nat.le_of_ble_eq_true rfl⟩) ⟨fun a U g mk q => by obtain ⟨q0, qhE⟩ := q; exact ⟨q0, qhE.mv g mk a⟩, va_Orecv (hE.2.1 i hi12).1 hS, fun U hU hW => ⟨rfl, hE.callF hS hU hW⟩⟩ rfl rfl hl.1 rfl (lv_room (Nat.le_of_ble_eq_true rfl)) dX5_sameSigns_4 ⟨Nat.le_of_ble_eq_true rfl, Nat.le_of_ble_eq_true rfl⟩).run (fun r_1 hw_2 => ?_)
      refine qi_as (y := nI (sLen i)) (hw_2) ?_
      refine lv_icmp_ge (tgt := 48) hx hb dX5_sameSigns_7 (by decide) (fun c_3 => ?_) (fun c_3 => ?_)
      · skip
        have c_3 : (sLen i) ≤ j := (nI_leI (a := (sLen i)) (b := j) (by omega) (by omega)).mp c_3
        refine lv_iload_n hx hb dX5_sameSigns_48 rfl (lv_at hl 2 rfl) ?_
        rw [hQ]
        exact W.iret (v := nI j) hx hb hr (fun tQ htQ hWQ => ⟨nI j, rfl, by have e9 := ml_all hML (by rw [sTx_len hi12]; omega); exact ⟨by rw [e9], by omega, by omega⟩, by rw [htQ]⟩) (fun q hq => absurd hq List.not_mem_nil) dX5_sameSigns_49
      · skip
        have c_3 : ¬ (sLen i) ≤ j := fun q => c_3 ((nI_leI (a := (sLen i)) (b := j) (by omega) (by omega)).mpr q)
        refine lv_aload_n hx hb dX5_sameSigns_10 rfl (lv_at hl 0 rfl) ?_
        refine va_get (D := (dC, dI)) (ci := 7) (v := .int (nI ep)) (C := RX5) (T := TX5) (N := 11) hx hb hts kc_sameSigns_0 hown hK hP 0 rfl rfl 9 (by decide) (hts (.fieldLink RX5 34 "MistHeaps$Hill" "at" "I") kc_sameSigns_1) (fun _ h9 => h9) rfl dX5_sameSigns_11 ?_
        refine lv_iload_n hx hb dX5_sameSigns_14 rfl (lv_at hl 2 rfl) ?_
        refine lv_iadd hx hb dX5_sameSigns_15 ?_
        refine qi_as (y := nI (ep + j)) (nI_add ep j) ?_
        refine lv_aload_n hx hb dX5_sameSigns_16 rfl (lv_at hl 0 rfl) ?_
        refine va_get (D := (dC, dI)) (ci := 7) (v := .int (nI ez)) (C := RX5) (T := TX5) (N := 11) hx hb hts kc_sameSigns_0 hown hK hP 0 rfl rfl 8 (by decide) (hts (.fieldLink RX5 31 "MistHeaps$Hill" "size" "I") kc_sameSigns_2) (fun _ h9 => h9) rfl dX5_sameSigns_17 ?_
        refine lv_icmp_ge (tgt := 48) hx hb dX5_sameSigns_20 (by decide) (fun c_4 => ?_) (fun c_4 => ?_)
        · skip
          have c_4 : ez ≤ (ep + j) := (nI_leI (a := ez) (b := (ep + j)) (by omega) (by omega)).mp c_4
          refine lv_iload_n hx hb dX5_sameSigns_48 rfl (lv_at hl 2 rfl) ?_
          rw [hQ]
          exact W.iret (v := nI j) hx hb hr (fun tQ htQ hWQ => ⟨nI j, rfl, by have e9 := ml_miss hML (by rw [sTx_len hi12]; omega) (fun z => by have h1 := gX.2.1 (ep + j) (by omega); have h2 := sTx_ch hi12 (k := j) (by omega); omega); exact ⟨by rw [e9], by omega, by omega⟩, by rw [htQ]⟩) (fun q hq => absurd hq List.not_mem_nil) dX5_sameSigns_49
        · skip
          have c_4 : ¬ ez ≤ (ep + j) := fun q => c_4 ((nI_leI (a := ez) (b := (ep + j)) (by omega) (by omega)).mpr q)
          refine lv_aload_n hx hb dX5_sameSigns_23 rfl (lv_at hl 0 rfl) ?_
          refine va_get (D := (dC, dI)) (ci := 7) (v := .ref aTp) (C := RX5) (T := TX5) (N := 11) hx hb hts kc_sameSigns_0 hown hK hP 0 rfl rfl 7 (by decide) (hts (.fieldLink RX5 28 "MistHeaps$Hill" "tape" "[I") kc_sameSigns_3) (fun _ h9 => h9) rfl dX5_sameSigns_24 ?_
          refine lv_aload_n hx hb dX5_sameSigns_27 rfl (lv_at hl 0 rfl) ?_
          refine va_get (D := (dC, dI)) (ci := 7) (v := .int (nI ep)) (C := RX5) (T := TX5) (N := 11) hx hb hts kc_sameSigns_0 hown hK hP 0 rfl rfl 9 (by decide) (hts (.fieldLink RX5 34 "MistHeaps$Hill" "at" "I") kc_sameSigns_1) (fun _ h9 => h9) rfl dX5_sameSigns_28 ?_
          refine lv_iload_n hx hb dX5_sameSigns_31 rfl (lv_at hl 2 rfl) ?_
          refine lv_iadd hx hb dX5_sameSigns_32 ?_
          refine qi_as (y := nI (ep + j)) (nI_add ep j) ?_
          refine va_iald hx hb hK hP 1 0 rfl rfl (vp_in_nI (n := ep + j) (N := 100) (by omega) (by omega)) dX5_sameSigns_33 ?_
          have hs8 := gX.2.2 (ep + j)
          refine qi_as (y := nI (ss (ep + j))) ((show fTp (nI (ep + j) : Int32).toNatClampNeg = fTp (ep + j) from by rw [nI_clamp (by omega)]).trans (gX.1 _ (by omega))) ?_
          refine lv_aload_n hx hb dX5_sameSigns_34 rfl (lv_at hl 1 rfl) ?_
          refine lv_iload_n hx hb dX5_sameSigns_35 rfl (lv_at hl 2 rfl) ?_
          refine vp_callSi (va_runV (As := [.int (nI j)]) (rest := [.int (nI (ss (ep + j)))]) ⟨hx, hb, hml, hown, hts⟩ (c_charAt l dC dI sK sV i j hi12 (by omega)) (cwV 1 hts gX5_sameSigns_J0_charAt_5068e rfl rfl rfl hd_yJ0_charAt_5068e ⟨Nat.le_of_ble_eq_true rfl, Nat.le_of_ble_eq_true rfl⟩) ⟨fun a U g mk q => by obtain ⟨q0, qhE⟩ := q; exact ⟨q0, qhE.mv g mk a⟩, va_Orecv (hE.2.1 i hi12).1 hS, fun U hU hW => ⟨rfl, hE.callF hS hU hW⟩⟩ rfl rfl hl.1 rfl (lv_room (Nat.le_of_ble_eq_true rfl)) dX5_sameSigns_36 ⟨Nat.le_of_ble_eq_true rfl, Nat.le_of_ble_eq_true rfl⟩).run (fun r_5 hw_6 => ?_)
          obtain rfl := hw_6
          have hch := sTx_ch hi12 (k := j) (by omega)
          refine lv_icmp_ne (tgt := 48) hx hb dX5_sameSigns_39 (by decide) (fun c_7 => ?_) (fun c_7 => ?_)
          · skip
            have c_7 : ¬ (ss (ep + j)) = ((sTx i).getD j 0) := fun q => c_7 ((nI_eq (a := (ss (ep + j))) (b := ((sTx i).getD j 0)) (by omega) (by omega)).mpr q)
            refine lv_iload_n hx hb dX5_sameSigns_48 rfl (lv_at hl 2 rfl) ?_
            rw [hQ]
            exact W.iret (v := nI j) hx hb hr (fun tQ htQ hWQ => ⟨nI j, rfl, by have e9 := ml_miss hML (by rw [sTx_len hi12]; omega) c_7; exact ⟨by rw [e9], by omega, by omega⟩, by rw [htQ]⟩) (fun q hq => absurd hq List.not_mem_nil) dX5_sameSigns_49
          · skip
            have c_7 : (ss (ep + j)) = ((sTx i).getD j 0) := (nI_eq (a := (ss (ep + j))) (b := ((sTx i).getD j 0)) (by omega) (by omega)).mp c_7
            refine lv_iinc (v := nI (j + 1)) (lv' := [(2, .int (nI (j + 1))), (0, .ref bl), (1, .ref (sK i))]) hx hb dX5_sameSigns_42 hl (k := 2) rfl (nI_add j 1) (by decide) rfl (fun ls hl => ?_)
            refine lv_goto (tgt := 2) hx hb dX5_sameSigns_45 (by decide) ?_
            exact ih2 (j + 1) (by omega) (by omega) (ml_hit hML (by rw [sTx_len hi12]; omega) c_7) ls (lv_sub hl [1, 2, 0] rfl)
  exact L2 _ (0) (Nat.lt_succ_self _) (by omega) (ml_0) ls (lv_sub hl [1, 2, 0] rfl)

theorem kc_readWord_0 : (.methodLink RX5 70 Lib.Math.max.name : Cond) ∈ wsX5_readWord := kc_of 425 rfl rfl rfl
theorem kc_readWord_1 : (.static Lib.Math.max.name : Cond) ∈ wsX5_readWord := kc_of 426 rfl rfl rfl
theorem kc_readWord_2 : (.initialized "java/lang/Math" : Cond) ∈ wsX5_readWord := kc_of 77 rfl rfl rfl
theorem kc_readWord_3 : (.code Lib.Math.max.name Lib.Math.max.code 2 (some .int) : Cond) ∈ wsX5_readWord := kc_of 427 rfl rfl rfl
theorem kc_readWord_4 : ∀ w ∈ wsX50, w ∈ wsX5_readWord := fun w h => List.mem_cons_of_mem _ (gin_wsX50 w h)
theorem kc_readWord_5 : (.fieldLink RX5 34 "MistHeaps$Hill" "at" "I" : Cond) ∈ wsX5_readWord := kc_of 124 rfl rfl rfl
set_option maxHeartbeats 4000000 in
set_option maxRecDepth 100000 in
theorem c_readWord (l : Launch) (dC : Nat → ClassId) (dI : Nat → Nat → Nat) (sK sV : Nat → Nat) (bl : Nat) (aTp : Nat) (eW : Nat) (eA : Nat) (eE : Nat) (eC : Nat) (ecl : Nat) (ecd : Nat) (esg : Int32) (cTp : ClassId) (fTp : Nat → Int32) (ez : Nat) (ep : Nat) (em : Nat) (ss : Nat → Nat) (sz : Nat) (hez : ez ≤ 100) (hep : ep ≤ ez) (gX : TX fTp ez ss) : Met l yX5_readWord wsX5_readWord ({ frames := 5, cells := 0, slots := 0, locals := 107 } : Room) (va_Pc [.ref bl] (fun U => U.heap.size = sz ∧ va_P (dC, dI) vwCl [(zo7iirrrririii bl esg (nI ecl) eW eA eE eC (nI ecd) aTp (nI ez) (nI ep) (nI em)), (zaI aTp cTp 100 fTp)] U.heap ∧ va_K (dC, dI) vwCl [(cTp, .int)] U ∧ va_D (fun _ => True) [(zo7iirrrririii bl esg (nI ecl) eW eA eE eC (nI ecd) aTp (nI ez) (nI ep) (nI em)), (zaI aTp cTp 100 fTp)] ∧ Gs sK sV (va_A [(zo7iirrrririii bl esg (nI ecl) eW eA eE eC (nI ecd) aTp (nI ez) (nI ep) (nI em)), (zaI aTp cTp 100 fTp)] sz) U)) (va_Qi (fun (r : Int32) (u : Nat) => match u with | ep9 => ep ≤ ep9 ∧ ep9 ≤ ez ∧ ((r = -1 ∧ pWord ss ep = (none, ep9)) ∨ ∃ jq : Nat, jq < 4 ∧ r = nI jq ∧ pWord ss ep = (some jq, ep9))) (fun (u : Nat) (t : State) => match u with | ep9 => va_P (dC, dI) vwCl [(zo7iirrrririii bl esg (nI ecl) eW eA eE eC (nI ecd) aTp (nI ez) (nI ep9) (nI em)), (zaI aTp cTp 100 fTp)] t.heap ∧ va_K (dC, dI) vwCl [(cTp, .int)] t ∧ va_D (va_A [(zo7iirrrririii bl esg (nI ecl) eW eA eE eC (nI ecd) aTp (nI ez) (nI ep) (nI em)), (zaI aTp cTp 100 fTp)] sz) [(zo7iirrrririii bl esg (nI ecl) eW eA eE eC (nI ecd) aTp (nI ez) (nI ep9) (nI em)), (zaI aTp cTp 100 fTp)]) (va_A [(zo7iirrrririii bl esg (nI ecl) eW eA eE eC (nI ecd) aTp (nI ez) (nI ep) (nI em)), (zaI aTp cTp 100 fTp)] sz)) 0 0 (va_A [(zo7iirrrririii bl esg (nI ecl) eW eA eE eC (nI ecd) aTp (nI ez) (nI ep) (nI em)), (zaI aTp cTp 100 fTp)] sz) := by
  refine met_ofQ (cc := cX5_readWord) (maxL := 5) (ret := (some .int)) (by decide) rfl ?_
  intro p e s m args below meth c s₁ Q B hml hv hQ
  obtain ⟨rfl, hsz, hP, hK, hD0, hE⟩ := hv
  have hx := B.exec
  have hb := B.bytes
  have hr := B.returns
  have hts := atoms_spec (ws := wsX5_readWord) B.pre
  have hown : s.vm.findClass RX5 = some m.cls := findClass_of_methodNamed B.named
  have hlocks := B.notSynchronized
  subst hsz
  have hD := hD0.self (sz := s.heap.size)
  generalize hAe : va_A [(zo7iirrrririii bl esg (nI ecl) eW eA eE eC (nI ecd) aTp (nI ez) (nI ep) (nI em)), (zaI aTp cTp 100 fTp)] s.heap.size = A at hD hQ hE ⊢
  have hA : ∀ q : Nat, s.heap.size ≤ q → A q := fun q h => by rw [← hAe]; exact Or.inr h
  have hS : va_S A s.heap s.heap [] := va_S.rf
  have hl := lv_entry [.ref bl] (n := 5) (Nat.le_of_ble_eq_true rfl)
  rw [lg_entry_eq]
  generalize (lg_sl [.ref bl] ++ List.replicate (5 - (lg_sl [.ref bl]).length) Slot.unset).toArray = ls at hl ⊢
  generalize hag : ([.ref bl] : List Value).toArray = args at hts hQ ⊢
  have hl : lv_has ls 5 [(0, .ref bl)] := hl
  obtain ⟨H, hH⟩ : ∃ H : Heap, H = s.heap := ⟨_, rfl⟩
  rw [← hH] at hP
  rw [← hH]
  have hS : va_S A s.heap H [] := by rw [hH]; exact hS
  obtain ⟨locs, hlo⟩ : ∃ L : List Loc, L = [] := ⟨_, rfl⟩
  rw [← hlo] at hS
  rw [← hlo]
  clear hH hlo
  refine lv_iconst (v := 0) hx hb dX5_readWord_0 (by decide) ?_
  refine lv_istore_n (lv' := [(1, .int 0), (0, .ref bl)]) hx hb dX5_readWord_1 rfl hl (by decide) rfl (fun ls hl => ?_)
  refine lv_iconst (v := 0) hx hb dX5_readWord_2 (by decide) ?_
  refine lv_istore_n (lv' := [(2, .int 0), (1, .int 0), (0, .ref bl)]) hx hb dX5_readWord_3 rfl hl (by decide) rfl (fun ls hl => ?_)
  refine lv_iload_n hx hb dX5_readWord_4 rfl (lv_at hl 0 rfl) ?_
  refine lv_iconst (v := 4) hx hb dX5_readWord_5 (by decide) ?_
  refine lv_icmp_ge (tgt := 56) hx hb dX5_readWord_6 (by decide) (fun c_1 => absurd c_1 (by decide)) (fun _ => ?_)
  refine lv_iload_n hx hb dX5_readWord_9 rfl (lv_at hl 0 rfl) ?_
  refine va_csq (va_runS (As := [.int 0]) (rest := []) ⟨hx, hb, hml, hown, hts⟩ (c_text0 l dC dI sK sV) (va_cwS 1 hts gX5_readWord_X5_textOf rfl rfl rfl hd_yX5_textOf.2 ⟨Nat.le_of_ble_eq_true rfl, Nat.le_of_ble_eq_true rfl⟩) ⟨fun a U g mk q => by obtain ⟨q0, qhE⟩ := q; exact ⟨q0, qhE.mv g mk a⟩, fun U hU hW => ⟨rfl, hE.callF hS hU hW⟩⟩ rfl rfl hl.1 rfl (lv_room (Nat.le_of_ble_eq_true rfl)) dX5_readWord_10 ⟨Nat.le_of_ble_eq_true rfl, Nat.le_of_ble_eq_true rfl⟩).run (fun r_2 hw_3 => ?_)
  refine qq_as (v := .ref (sK 0)) (by rw [hw_3]; rfl) ?_
  refine lv_astore_n (lv' := [(3, .ref (sK 0)), (2, .int 0), (1, .int 0), (0, .ref bl)]) hx hb dX5_readWord_13 rfl hl (by decide) rfl (fun ls hl => ?_)
  refine lv_aload_n hx hb dX5_readWord_14 rfl (lv_at hl 3 rfl) ?_
  refine lv_aload_n hx hb dX5_readWord_15 rfl (lv_at hl 0 rfl) ?_
  have hPc := hP.sub (ws' := [(zo7iirrrririii bl esg (nI ecl) eW eA eE eC (nI ecd) aTp (nI ez) (nI ep) (nI em)), (zaI aTp cTp 100 fTp)]) [0, 1] rfl
  have hKc := hK.sub (tys' := [(cTp, .int)]) [0] rfl
  refine vp_callSi (va_runV (As := [.ref (sK 0)]) (rest := []) ⟨hx, hb, hml, hown, hts⟩ (c_sameSigns l dC dI sK sV bl aTp eW eA eE eC 0 ecl ecd esg cTp fTp ez ep em ss (hez) (hep) (by decide) (gX)) (cwV 1 hts gX5_readWord_X5_sameSigns rfl rfl rfl hd_yX5_sameSigns ⟨Nat.le_of_ble_eq_true rfl, Nat.le_of_ble_eq_true rfl⟩) ⟨fun a U g mk q => by obtain ⟨q0, qP, qK, qhE⟩ := q; exact ⟨q0, mvP g mk a qP, mvK g mk a qK, qhE.mv g mk a⟩, va_recv hK hP (ci := 7) (q := (RX5, TX5, 11)) (q0 := 0) rfl rfl, fun U hU hW => ⟨rfl, by rw [hU]; exact hPc, va_K.moved hW.alike hKc, hE.callF hS hU hW⟩⟩ rfl rfl hl.1 rfl (lv_room (Nat.le_of_ble_eq_true rfl)) dX5_readWord_16 ⟨Nat.le_of_ble_eq_true rfl, Nat.le_of_ble_eq_true rfl⟩).run (fun r_4 hw_5 => ?_)
  obtain ⟨rfl, hm0a, hm0b⟩ := hw_5
  have hm0a : mlen ss ep (sTx 0) ≤ 4 := hm0a
  refine lv_istore (lv' := [(4, .int (nI (mlen ss ep (sTx 0)))), (3, .ref (sK 0)), (2, .int 0), (1, .int 0), (0, .ref bl)]) hx hb dX5_readWord_19 hl (by decide) rfl (fun ls hl => ?_)
  refine lv_iload_n hx hb dX5_readWord_21 rfl (lv_at hl 3 rfl) ?_
  refine lv_iload hx hb dX5_readWord_22 (lv_at hl 0 rfl) ?_
  refine va_mmax hx hb (by rw [hml]; exact hl.1.symm) hown (hts (.methodLink RX5 70 Lib.Math.max.name) kc_readWord_0) (hts (.static Lib.Math.max.name) kc_readWord_1) (hts (.initialized "java/lang/Math") kc_readWord_2) (hts (.code Lib.Math.max.name Lib.Math.max.code 2 (some .int)) kc_readWord_3) (Nat.le_of_ble_eq_true rfl) (Nat.le_of_ble_eq_true rfl) (Nat.le_of_ble_eq_true rfl) (Nat.le_of_ble_eq_true rfl) dX5_readWord_24 ?_
  refine qi_as (y := nI (max 0 (mlen ss ep (sTx 0)))) (mx_eq (a := 0) (b := mlen ss ep (sTx 0)) (by omega) (by omega)) ?_
  refine lv_istore_n (lv' := [(1, .int (nI (max 0 (mlen ss ep (sTx 0))))), (4, .int (nI (mlen ss ep (sTx 0)))), (3, .ref (sK 0)), (2, .int 0), (0, .ref bl)]) hx hb dX5_readWord_27 rfl hl (by decide) rfl (fun ls hl => ?_)
  refine lv_iload hx hb dX5_readWord_28 (lv_at hl 1 rfl) ?_
  refine lv_aload_n hx hb dX5_readWord_30 rfl (lv_at hl 2 rfl) ?_
  refine vp_callSi (va_runV (As := []) (rest := [.int (nI (mlen ss ep (sTx 0)))]) ⟨hx, hb, hml, hown, hts⟩ (c_len l dC dI sK sV 0 (by decide)) (cwV 0 hts gX5_readWord_J0_length_8abf5 rfl rfl rfl hd_yJ0_length_8abf5 ⟨Nat.le_of_ble_eq_true rfl, Nat.le_of_ble_eq_true rfl⟩) ⟨fun a U g mk q => by obtain ⟨q0, qhE⟩ := q; exact ⟨q0, qhE.mv g mk a⟩, va_Orecv (hE.2.1 0 (by decide)).1 hS, fun U hU hW => ⟨rfl, hE.callF hS hU hW⟩⟩ rfl rfl hl.1 rfl (lv_room (Nat.le_of_ble_eq_true rfl)) dX5_readWord_31 ⟨Nat.le_of_ble_eq_true rfl, Nat.le_of_ble_eq_true rfl⟩).run (fun r_6 hw_7 => ?_)
  refine qi_as (y := nI 4) (hw_7.trans rfl) ?_
  refine lv_icmp_ne (tgt := 50) hx hb dX5_readWord_34 (by decide) (fun c_8 => ?_) (fun c_8 => ?_)
  · skip
    have c_8 : ¬ (mlen ss ep (sTx 0)) = 4 := fun q => c_8 ((nI_eq (a := (mlen ss ep (sTx 0))) (b := 4) (by omega) (by omega)).mpr q)
    refine lv_iinc (v := 1) (lv' := [(2, .int 1), (1, .int (nI (max 0 (mlen ss ep (sTx 0))))), (4, .int (nI (mlen ss ep (sTx 0)))), (3, .ref (sK 0)), (0, .ref bl)]) hx hb dX5_readWord_50 hl (k := 3) rfl (by decide) (by decide) rfl (fun ls hl => ?_)
    refine lv_goto (tgt := 4) hx hb dX5_readWord_53 (by decide) ?_
    refine lv_iload_n hx hb dX5_readWord_4 rfl (lv_at hl 0 rfl) ?_
    refine lv_iconst (v := 4) hx hb dX5_readWord_5 (by decide) ?_
    refine lv_icmp_ge (tgt := 56) hx hb dX5_readWord_6 (by decide) (fun c_9 => absurd c_9 (by decide)) (fun _ => ?_)
    refine lv_iload_n hx hb dX5_readWord_9 rfl (lv_at hl 0 rfl) ?_
    refine va_csq (va_runS (As := [.int 1]) (rest := []) ⟨hx, hb, hml, hown, hts⟩ (c_text1 l dC dI sK sV) (va_cwS 1 hts gX5_readWord_X5_textOf rfl rfl rfl hd_yX5_textOf.2 ⟨Nat.le_of_ble_eq_true rfl, Nat.le_of_ble_eq_true rfl⟩) ⟨fun a U g mk q => by obtain ⟨q0, qhE⟩ := q; exact ⟨q0, qhE.mv g mk a⟩, fun U hU hW => ⟨rfl, hE.callF hS hU hW⟩⟩ rfl rfl hl.1 rfl (lv_room (Nat.le_of_ble_eq_true rfl)) dX5_readWord_10 ⟨Nat.le_of_ble_eq_true rfl, Nat.le_of_ble_eq_true rfl⟩).run (fun r_10 hw_11 => ?_)
    refine qq_as (v := .ref (sK 1)) (by rw [hw_11]; rfl) ?_
    refine lv_astore_n (lv' := [(3, .ref (sK 1)), (2, .int 1), (1, .int (nI (max 0 (mlen ss ep (sTx 0))))), (4, .int (nI (mlen ss ep (sTx 0)))), (0, .ref bl)]) hx hb dX5_readWord_13 rfl hl (by decide) rfl (fun ls hl => ?_)
    refine lv_aload_n hx hb dX5_readWord_14 rfl (lv_at hl 4 rfl) ?_
    refine lv_aload_n hx hb dX5_readWord_15 rfl (lv_at hl 0 rfl) ?_
    have hPc := hP.sub (ws' := [(zo7iirrrririii bl esg (nI ecl) eW eA eE eC (nI ecd) aTp (nI ez) (nI ep) (nI em)), (zaI aTp cTp 100 fTp)]) [0, 1] rfl
    have hKc := hK.sub (tys' := [(cTp, .int)]) [0] rfl
    refine vp_callSi (va_runV (As := [.ref (sK 1)]) (rest := []) ⟨hx, hb, hml, hown, hts⟩ (c_sameSigns l dC dI sK sV bl aTp eW eA eE eC 1 ecl ecd esg cTp fTp ez ep em ss (hez) (hep) (by decide) (gX)) (cwV 1 hts gX5_readWord_X5_sameSigns rfl rfl rfl hd_yX5_sameSigns ⟨Nat.le_of_ble_eq_true rfl, Nat.le_of_ble_eq_true rfl⟩) ⟨fun a U g mk q => by obtain ⟨q0, qP, qK, qhE⟩ := q; exact ⟨q0, mvP g mk a qP, mvK g mk a qK, qhE.mv g mk a⟩, va_recv hK hP (ci := 7) (q := (RX5, TX5, 11)) (q0 := 0) rfl rfl, fun U hU hW => ⟨rfl, by rw [hU]; exact hPc, va_K.moved hW.alike hKc, hE.callF hS hU hW⟩⟩ rfl rfl hl.1 rfl (lv_room (Nat.le_of_ble_eq_true rfl)) dX5_readWord_16 ⟨Nat.le_of_ble_eq_true rfl, Nat.le_of_ble_eq_true rfl⟩).run (fun r_12 hw_13 => ?_)
    obtain ⟨rfl, hm1a, hm1b⟩ := hw_13
    have hm1a : mlen ss ep (sTx 1) ≤ 5 := hm1a
    refine lv_istore (lv' := [(4, .int (nI (mlen ss ep (sTx 1)))), (3, .ref (sK 1)), (2, .int 1), (1, .int (nI (max 0 (mlen ss ep (sTx 0))))), (0, .ref bl)]) hx hb dX5_readWord_19 hl (by decide) rfl (fun ls hl => ?_)
    refine lv_iload_n hx hb dX5_readWord_21 rfl (lv_at hl 3 rfl) ?_
    refine lv_iload hx hb dX5_readWord_22 (lv_at hl 0 rfl) ?_
    refine va_mmax hx hb (by rw [hml]; exact hl.1.symm) hown (hts (.methodLink RX5 70 Lib.Math.max.name) kc_readWord_0) (hts (.static Lib.Math.max.name) kc_readWord_1) (hts (.initialized "java/lang/Math") kc_readWord_2) (hts (.code Lib.Math.max.name Lib.Math.max.code 2 (some .int)) kc_readWord_3) (Nat.le_of_ble_eq_true rfl) (Nat.le_of_ble_eq_true rfl) (Nat.le_of_ble_eq_true rfl) (Nat.le_of_ble_eq_true rfl) dX5_readWord_24 ?_
    refine qi_as (y := nI (max (max 0 (mlen ss ep (sTx 0))) (mlen ss ep (sTx 1)))) (mx_eq (a := max 0 (mlen ss ep (sTx 0))) (b := mlen ss ep (sTx 1)) (by omega) (by omega)) ?_
    refine lv_istore_n (lv' := [(1, .int (nI (max (max 0 (mlen ss ep (sTx 0))) (mlen ss ep (sTx 1))))), (4, .int (nI (mlen ss ep (sTx 1)))), (3, .ref (sK 1)), (2, .int 1), (0, .ref bl)]) hx hb dX5_readWord_27 rfl hl (by decide) rfl (fun ls hl => ?_)
    refine lv_iload hx hb dX5_readWord_28 (lv_at hl 1 rfl) ?_
    refine lv_aload_n hx hb dX5_readWord_30 rfl (lv_at hl 2 rfl) ?_
    refine vp_callSi (va_runV (As := []) (rest := [.int (nI (mlen ss ep (sTx 1)))]) ⟨hx, hb, hml, hown, hts⟩ (c_len l dC dI sK sV 1 (by decide)) (cwV 0 hts gX5_readWord_J0_length_8abf5 rfl rfl rfl hd_yJ0_length_8abf5 ⟨Nat.le_of_ble_eq_true rfl, Nat.le_of_ble_eq_true rfl⟩) ⟨fun a U g mk q => by obtain ⟨q0, qhE⟩ := q; exact ⟨q0, qhE.mv g mk a⟩, va_Orecv (hE.2.1 1 (by decide)).1 hS, fun U hU hW => ⟨rfl, hE.callF hS hU hW⟩⟩ rfl rfl hl.1 rfl (lv_room (Nat.le_of_ble_eq_true rfl)) dX5_readWord_31 ⟨Nat.le_of_ble_eq_true rfl, Nat.le_of_ble_eq_true rfl⟩).run (fun r_14 hw_15 => ?_)
    refine qi_as (y := nI 5) (hw_15.trans rfl) ?_
    refine lv_icmp_ne (tgt := 50) hx hb dX5_readWord_34 (by decide) (fun c_16 => ?_) (fun c_16 => ?_)
    · skip
      have c_16 : ¬ (mlen ss ep (sTx 1)) = 5 := fun q => c_16 ((nI_eq (a := (mlen ss ep (sTx 1))) (b := 5) (by omega) (by omega)).mpr q)
      refine lv_iinc (v := 2) (lv' := [(2, .int 2), (1, .int (nI (max (max 0 (mlen ss ep (sTx 0))) (mlen ss ep (sTx 1))))), (4, .int (nI (mlen ss ep (sTx 1)))), (3, .ref (sK 1)), (0, .ref bl)]) hx hb dX5_readWord_50 hl (k := 3) rfl (by decide) (by decide) rfl (fun ls hl => ?_)
      refine lv_goto (tgt := 4) hx hb dX5_readWord_53 (by decide) ?_
      refine lv_iload_n hx hb dX5_readWord_4 rfl (lv_at hl 0 rfl) ?_
      refine lv_iconst (v := 4) hx hb dX5_readWord_5 (by decide) ?_
      refine lv_icmp_ge (tgt := 56) hx hb dX5_readWord_6 (by decide) (fun c_17 => absurd c_17 (by decide)) (fun _ => ?_)
      refine lv_iload_n hx hb dX5_readWord_9 rfl (lv_at hl 0 rfl) ?_
      refine va_csq (va_runS (As := [.int 2]) (rest := []) ⟨hx, hb, hml, hown, hts⟩ (c_text2 l dC dI sK sV) (va_cwS 1 hts gX5_readWord_X5_textOf rfl rfl rfl hd_yX5_textOf.2 ⟨Nat.le_of_ble_eq_true rfl, Nat.le_of_ble_eq_true rfl⟩) ⟨fun a U g mk q => by obtain ⟨q0, qhE⟩ := q; exact ⟨q0, qhE.mv g mk a⟩, fun U hU hW => ⟨rfl, hE.callF hS hU hW⟩⟩ rfl rfl hl.1 rfl (lv_room (Nat.le_of_ble_eq_true rfl)) dX5_readWord_10 ⟨Nat.le_of_ble_eq_true rfl, Nat.le_of_ble_eq_true rfl⟩).run (fun r_18 hw_19 => ?_)
      refine qq_as (v := .ref (sK 2)) (by rw [hw_19]; rfl) ?_
      refine lv_astore_n (lv' := [(3, .ref (sK 2)), (2, .int 2), (1, .int (nI (max (max 0 (mlen ss ep (sTx 0))) (mlen ss ep (sTx 1))))), (4, .int (nI (mlen ss ep (sTx 1)))), (0, .ref bl)]) hx hb dX5_readWord_13 rfl hl (by decide) rfl (fun ls hl => ?_)
      refine lv_aload_n hx hb dX5_readWord_14 rfl (lv_at hl 4 rfl) ?_
      refine lv_aload_n hx hb dX5_readWord_15 rfl (lv_at hl 0 rfl) ?_
      have hPc := hP.sub (ws' := [(zo7iirrrririii bl esg (nI ecl) eW eA eE eC (nI ecd) aTp (nI ez) (nI ep) (nI em)), (zaI aTp cTp 100 fTp)]) [0, 1] rfl
      have hKc := hK.sub (tys' := [(cTp, .int)]) [0] rfl
      refine vp_callSi (va_runV (As := [.ref (sK 2)]) (rest := []) ⟨hx, hb, hml, hown, hts⟩ (c_sameSigns l dC dI sK sV bl aTp eW eA eE eC 2 ecl ecd esg cTp fTp ez ep em ss (hez) (hep) (by decide) (gX)) (cwV 1 hts gX5_readWord_X5_sameSigns rfl rfl rfl hd_yX5_sameSigns ⟨Nat.le_of_ble_eq_true rfl, Nat.le_of_ble_eq_true rfl⟩) ⟨fun a U g mk q => by obtain ⟨q0, qP, qK, qhE⟩ := q; exact ⟨q0, mvP g mk a qP, mvK g mk a qK, qhE.mv g mk a⟩, va_recv hK hP (ci := 7) (q := (RX5, TX5, 11)) (q0 := 0) rfl rfl, fun U hU hW => ⟨rfl, by rw [hU]; exact hPc, va_K.moved hW.alike hKc, hE.callF hS hU hW⟩⟩ rfl rfl hl.1 rfl (lv_room (Nat.le_of_ble_eq_true rfl)) dX5_readWord_16 ⟨Nat.le_of_ble_eq_true rfl, Nat.le_of_ble_eq_true rfl⟩).run (fun r_20 hw_21 => ?_)
      obtain ⟨rfl, hm2a, hm2b⟩ := hw_21
      have hm2a : mlen ss ep (sTx 2) ≤ 6 := hm2a
      refine lv_istore (lv' := [(4, .int (nI (mlen ss ep (sTx 2)))), (3, .ref (sK 2)), (2, .int 2), (1, .int (nI (max (max 0 (mlen ss ep (sTx 0))) (mlen ss ep (sTx 1))))), (0, .ref bl)]) hx hb dX5_readWord_19 hl (by decide) rfl (fun ls hl => ?_)
      refine lv_iload_n hx hb dX5_readWord_21 rfl (lv_at hl 3 rfl) ?_
      refine lv_iload hx hb dX5_readWord_22 (lv_at hl 0 rfl) ?_
      refine va_mmax hx hb (by rw [hml]; exact hl.1.symm) hown (hts (.methodLink RX5 70 Lib.Math.max.name) kc_readWord_0) (hts (.static Lib.Math.max.name) kc_readWord_1) (hts (.initialized "java/lang/Math") kc_readWord_2) (hts (.code Lib.Math.max.name Lib.Math.max.code 2 (some .int)) kc_readWord_3) (Nat.le_of_ble_eq_true rfl) (Nat.le_of_ble_eq_true rfl) (Nat.le_of_ble_eq_true rfl) (Nat.le_of_ble_eq_true rfl) dX5_readWord_24 ?_
      refine qi_as (y := nI (max (max (max 0 (mlen ss ep (sTx 0))) (mlen ss ep (sTx 1))) (mlen ss ep (sTx 2)))) (mx_eq (a := max (max 0 (mlen ss ep (sTx 0))) (mlen ss ep (sTx 1))) (b := mlen ss ep (sTx 2)) (by omega) (by omega)) ?_
      refine lv_istore_n (lv' := [(1, .int (nI (max (max (max 0 (mlen ss ep (sTx 0))) (mlen ss ep (sTx 1))) (mlen ss ep (sTx 2))))), (4, .int (nI (mlen ss ep (sTx 2)))), (3, .ref (sK 2)), (2, .int 2), (0, .ref bl)]) hx hb dX5_readWord_27 rfl hl (by decide) rfl (fun ls hl => ?_)
      refine lv_iload hx hb dX5_readWord_28 (lv_at hl 1 rfl) ?_
      refine lv_aload_n hx hb dX5_readWord_30 rfl (lv_at hl 2 rfl) ?_
      refine vp_callSi (va_runV (As := []) (rest := [.int (nI (mlen ss ep (sTx 2)))]) ⟨hx, hb, hml, hown, hts⟩ (c_len l dC dI sK sV 2 (by decide)) (cwV 0 hts gX5_readWord_J0_length_8abf5 rfl rfl rfl hd_yJ0_length_8abf5 ⟨Nat.le_of_ble_eq_true rfl, Nat.le_of_ble_eq_true rfl⟩) ⟨fun a U g mk q => by obtain ⟨q0, qhE⟩ := q; exact ⟨q0, qhE.mv g mk a⟩, va_Orecv (hE.2.1 2 (by decide)).1 hS, fun U hU hW => ⟨rfl, hE.callF hS hU hW⟩⟩ rfl rfl hl.1 rfl (lv_room (Nat.le_of_ble_eq_true rfl)) dX5_readWord_31 ⟨Nat.le_of_ble_eq_true rfl, Nat.le_of_ble_eq_true rfl⟩).run (fun r_22 hw_23 => ?_)
      refine qi_as (y := nI 6) (hw_23.trans rfl) ?_
      refine lv_icmp_ne (tgt := 50) hx hb dX5_readWord_34 (by decide) (fun c_24 => ?_) (fun c_24 => ?_)
      · skip
        have c_24 : ¬ (mlen ss ep (sTx 2)) = 6 := fun q => c_24 ((nI_eq (a := (mlen ss ep (sTx 2))) (b := 6) (by omega) (by omega)).mpr q)
        refine lv_iinc (v := 3) (lv' := [(2, .int 3), (1, .int (nI (max (max (max 0 (mlen ss ep (sTx 0))) (mlen ss ep (sTx 1))) (mlen ss ep (sTx 2))))), (4, .int (nI (mlen ss ep (sTx 2)))), (3, .ref (sK 2)), (0, .ref bl)]) hx hb dX5_readWord_50 hl (k := 3) rfl (by decide) (by decide) rfl (fun ls hl => ?_)
        refine lv_goto (tgt := 4) hx hb dX5_readWord_53 (by decide) ?_
        refine lv_iload_n hx hb dX5_readWord_4 rfl (lv_at hl 0 rfl) ?_
        refine lv_iconst (v := 4) hx hb dX5_readWord_5 (by decide) ?_
        refine lv_icmp_ge (tgt := 56) hx hb dX5_readWord_6 (by decide) (fun c_25 => absurd c_25 (by decide)) (fun _ => ?_)
        refine lv_iload_n hx hb dX5_readWord_9 rfl (lv_at hl 0 rfl) ?_
        refine va_csq (va_runS (As := [.int 3]) (rest := []) ⟨hx, hb, hml, hown, hts⟩ (c_text3 l dC dI sK sV) (va_cwS 1 hts gX5_readWord_X5_textOf rfl rfl rfl hd_yX5_textOf.2 ⟨Nat.le_of_ble_eq_true rfl, Nat.le_of_ble_eq_true rfl⟩) ⟨fun a U g mk q => by obtain ⟨q0, qhE⟩ := q; exact ⟨q0, qhE.mv g mk a⟩, fun U hU hW => ⟨rfl, hE.callF hS hU hW⟩⟩ rfl rfl hl.1 rfl (lv_room (Nat.le_of_ble_eq_true rfl)) dX5_readWord_10 ⟨Nat.le_of_ble_eq_true rfl, Nat.le_of_ble_eq_true rfl⟩).run (fun r_26 hw_27 => ?_)
        refine qq_as (v := .ref (sK 3)) (by rw [hw_27]; rfl) ?_
        refine lv_astore_n (lv' := [(3, .ref (sK 3)), (2, .int 3), (1, .int (nI (max (max (max 0 (mlen ss ep (sTx 0))) (mlen ss ep (sTx 1))) (mlen ss ep (sTx 2))))), (4, .int (nI (mlen ss ep (sTx 2)))), (0, .ref bl)]) hx hb dX5_readWord_13 rfl hl (by decide) rfl (fun ls hl => ?_)
        refine lv_aload_n hx hb dX5_readWord_14 rfl (lv_at hl 4 rfl) ?_
        refine lv_aload_n hx hb dX5_readWord_15 rfl (lv_at hl 0 rfl) ?_
        have hPc := hP.sub (ws' := [(zo7iirrrririii bl esg (nI ecl) eW eA eE eC (nI ecd) aTp (nI ez) (nI ep) (nI em)), (zaI aTp cTp 100 fTp)]) [0, 1] rfl
        have hKc := hK.sub (tys' := [(cTp, .int)]) [0] rfl
        refine vp_callSi (va_runV (As := [.ref (sK 3)]) (rest := []) ⟨hx, hb, hml, hown, hts⟩ (c_sameSigns l dC dI sK sV bl aTp eW eA eE eC 3 ecl ecd esg cTp fTp ez ep em ss (hez) (hep) (by decide) (gX)) (cwV 1 hts gX5_readWord_X5_sameSigns rfl rfl rfl hd_yX5_sameSigns ⟨Nat.le_of_ble_eq_true rfl, Nat.le_of_ble_eq_true rfl⟩) ⟨fun a U g mk q => by obtain ⟨q0, qP, qK, qhE⟩ := q; exact ⟨q0, mvP g mk a qP, mvK g mk a qK, qhE.mv g mk a⟩, va_recv hK hP (ci := 7) (q := (RX5, TX5, 11)) (q0 := 0) rfl rfl, fun U hU hW => ⟨rfl, by rw [hU]; exact hPc, va_K.moved hW.alike hKc, hE.callF hS hU hW⟩⟩ rfl rfl hl.1 rfl (lv_room (Nat.le_of_ble_eq_true rfl)) dX5_readWord_16 ⟨Nat.le_of_ble_eq_true rfl, Nat.le_of_ble_eq_true rfl⟩).run (fun r_28 hw_29 => ?_)
        obtain ⟨rfl, hm3a, hm3b⟩ := hw_29
        have hm3a : mlen ss ep (sTx 3) ≤ 6 := hm3a
        refine lv_istore (lv' := [(4, .int (nI (mlen ss ep (sTx 3)))), (3, .ref (sK 3)), (2, .int 3), (1, .int (nI (max (max (max 0 (mlen ss ep (sTx 0))) (mlen ss ep (sTx 1))) (mlen ss ep (sTx 2))))), (0, .ref bl)]) hx hb dX5_readWord_19 hl (by decide) rfl (fun ls hl => ?_)
        refine lv_iload_n hx hb dX5_readWord_21 rfl (lv_at hl 3 rfl) ?_
        refine lv_iload hx hb dX5_readWord_22 (lv_at hl 0 rfl) ?_
        refine va_mmax hx hb (by rw [hml]; exact hl.1.symm) hown (hts (.methodLink RX5 70 Lib.Math.max.name) kc_readWord_0) (hts (.static Lib.Math.max.name) kc_readWord_1) (hts (.initialized "java/lang/Math") kc_readWord_2) (hts (.code Lib.Math.max.name Lib.Math.max.code 2 (some .int)) kc_readWord_3) (Nat.le_of_ble_eq_true rfl) (Nat.le_of_ble_eq_true rfl) (Nat.le_of_ble_eq_true rfl) (Nat.le_of_ble_eq_true rfl) dX5_readWord_24 ?_
        refine qi_as (y := nI (max (max (max (max 0 (mlen ss ep (sTx 0))) (mlen ss ep (sTx 1))) (mlen ss ep (sTx 2))) (mlen ss ep (sTx 3)))) (mx_eq (a := max (max (max 0 (mlen ss ep (sTx 0))) (mlen ss ep (sTx 1))) (mlen ss ep (sTx 2))) (b := mlen ss ep (sTx 3)) (by omega) (by omega)) ?_
        refine lv_istore_n (lv' := [(1, .int (nI (max (max (max (max 0 (mlen ss ep (sTx 0))) (mlen ss ep (sTx 1))) (mlen ss ep (sTx 2))) (mlen ss ep (sTx 3))))), (4, .int (nI (mlen ss ep (sTx 3)))), (3, .ref (sK 3)), (2, .int 3), (0, .ref bl)]) hx hb dX5_readWord_27 rfl hl (by decide) rfl (fun ls hl => ?_)
        refine lv_iload hx hb dX5_readWord_28 (lv_at hl 1 rfl) ?_
        refine lv_aload_n hx hb dX5_readWord_30 rfl (lv_at hl 2 rfl) ?_
        refine vp_callSi (va_runV (As := []) (rest := [.int (nI (mlen ss ep (sTx 3)))]) ⟨hx, hb, hml, hown, hts⟩ (c_len l dC dI sK sV 3 (by decide)) (cwV 0 hts gX5_readWord_J0_length_8abf5 rfl rfl rfl hd_yJ0_length_8abf5 ⟨Nat.le_of_ble_eq_true rfl, Nat.le_of_ble_eq_true rfl⟩) ⟨fun a U g mk q => by obtain ⟨q0, qhE⟩ := q; exact ⟨q0, qhE.mv g mk a⟩, va_Orecv (hE.2.1 3 (by decide)).1 hS, fun U hU hW => ⟨rfl, hE.callF hS hU hW⟩⟩ rfl rfl hl.1 rfl (lv_room (Nat.le_of_ble_eq_true rfl)) dX5_readWord_31 ⟨Nat.le_of_ble_eq_true rfl, Nat.le_of_ble_eq_true rfl⟩).run (fun r_30 hw_31 => ?_)
        refine qi_as (y := nI 6) (hw_31.trans rfl) ?_
        refine lv_icmp_ne (tgt := 50) hx hb dX5_readWord_34 (by decide) (fun c_32 => ?_) (fun c_32 => ?_)
        · skip
          have c_32 : ¬ (mlen ss ep (sTx 3)) = 6 := fun q => c_32 ((nI_eq (a := (mlen ss ep (sTx 3))) (b := 6) (by omega) (by omega)).mpr q)
          refine lv_iinc (v := 4) (lv' := [(2, .int 4), (1, .int (nI (max (max (max (max 0 (mlen ss ep (sTx 0))) (mlen ss ep (sTx 1))) (mlen ss ep (sTx 2))) (mlen ss ep (sTx 3))))), (4, .int (nI (mlen ss ep (sTx 3)))), (3, .ref (sK 3)), (0, .ref bl)]) hx hb dX5_readWord_50 hl (k := 3) rfl (by decide) (by decide) rfl (fun ls hl => ?_)
          refine lv_goto (tgt := 4) hx hb dX5_readWord_53 (by decide) ?_
          refine lv_iload_n hx hb dX5_readWord_4 rfl (lv_at hl 0 rfl) ?_
          refine lv_iconst (v := 4) hx hb dX5_readWord_5 (by decide) ?_
          refine lv_icmp_ge (tgt := 56) hx hb dX5_readWord_6 (by decide) (fun _ => ?_) (fun c_33 => absurd c_33 (by decide))
          refine lv_aload_n hx hb dX5_readWord_56 rfl (lv_at hl 4 rfl) ?_
          refine lv_dup hx hb dX5_readWord_57 rfl ?_
          refine va_get (D := (dC, dI)) (ci := 7) (v := .int (nI ep)) (C := RX5) (T := TX5) (N := 11) hx hb hts kc_readWord_4 hown hK hP 0 rfl rfl 9 (by decide) (hts (.fieldLink RX5 34 "MistHeaps$Hill" "at" "I") kc_readWord_5) (fun _ h9 => h9) rfl dX5_readWord_58 ?_
          refine lv_iload_n hx hb dX5_readWord_61 rfl (lv_at hl 1 rfl) ?_
          refine lv_iadd hx hb dX5_readWord_62 ?_
          refine qi_as (y := nI (ep + (max (max (max (max 0 (mlen ss ep (sTx 0))) (mlen ss ep (sTx 1))) (mlen ss ep (sTx 2))) (mlen ss ep (sTx 3))))) (nI_add ep (max (max (max (max 0 (mlen ss ep (sTx 0))) (mlen ss ep (sTx 1))) (mlen ss ep (sTx 2))) (mlen ss ep (sTx 3)))) ?_
          refine va_put (D := (dC, dI)) (ci := 7) (v := .int (nI (ep + (max (max (max (max 0 (mlen ss ep (sTx 0))) (mlen ss ep (sTx 1))) (mlen ss ep (sTx 2))) (mlen ss ep (sTx 3)))))) (ty := .int) (C := RX5) (T := TX5) (N := 11) hx hb hts kc_readWord_4 tyX5 tyX5_ok nmX5 hown hK hP hD hS 0 rfl rfl 9 (by decide) (hts (.fieldLink RX5 34 "MistHeaps$Hill" "at" "I") kc_readWord_5) (fun _ h9 => h9) rfl (by decide +kernel) rfl rfl (Nat.le_of_ble_eq_true rfl) dX5_readWord_63 (fun H locs hP hD hS => ?_)
          have hP : va_P (dC, dI) vwCl [(zo7iirrrririii bl esg (nI ecl) eW eA eE eC (nI ecd) aTp (nI ez) (nI (ep + (max (max (max (max 0 (mlen ss ep (sTx 0))) (mlen ss ep (sTx 1))) (mlen ss ep (sTx 2))) (mlen ss ep (sTx 3))))) (nI em)), (zaI aTp cTp 100 fTp)] H := hP
          have hD : va_D A [(zo7iirrrririii bl esg (nI ecl) eW eA eE eC (nI ecd) aTp (nI ez) (nI (ep + (max (max (max (max 0 (mlen ss ep (sTx 0))) (mlen ss ep (sTx 1))) (mlen ss ep (sTx 2))) (mlen ss ep (sTx 3))))) (nI em)), (zaI aTp cTp 100 fTp)] := hD
          refine lv_iconst (v := (-1)) hx hb dX5_readWord_66 (by decide) ?_
          rw [hQ]
          have hP9 := hP.sub (ws' := [(zo7iirrrririii bl esg (nI ecl) eW eA eE eC (nI ecd) aTp (nI ez) (nI (ep + (max (max (max (max 0 (mlen ss ep (sTx 0))) (mlen ss ep (sTx 1))) (mlen ss ep (sTx 2))) (mlen ss ep (sTx 3))))) (nI em)), (zaI aTp cTp 100 fTp)]) [0, 1] rfl
          have hD9 := hD.sub (ws' := [(zo7iirrrririii bl esg (nI ecl) eW eA eE eC (nI ecd) aTp (nI ez) (nI (ep + (max (max (max (max 0 (mlen ss ep (sTx 0))) (mlen ss ep (sTx 1))) (mlen ss ep (sTx 2))) (mlen ss ep (sTx 3))))) (nI em)), (zaI aTp cTp 100 fTp)]) [0, 1] (by decide) rfl
          have hK9 := hK.sub (tys' := [(cTp, .int)]) [0] rfl
          exact W.iret (v := (-1)) hx hb hr (fun tQ htQ hWQ => ⟨⟨(-1), (ep + (max (max (max (max 0 (mlen ss ep (sTx 0))) (mlen ss ep (sTx 1))) (mlen ss ep (sTx 2))) (mlen ss ep (sTx 3)))), rfl, ⟨by omega, by omega, Or.inl ⟨rfl, by rw [pWord, if_neg c_8, if_neg c_16, if_neg c_24, if_neg c_32]⟩⟩, by rw [htQ]; exact hP9, va_K.moved hWQ.alike hK9, hD9⟩, hS.F htQ⟩) hS.2.2 dX5_readWord_67
        · skip
          have c_32 : (mlen ss ep (sTx 3)) = 6 := (nI_eq (a := (mlen ss ep (sTx 3))) (b := 6) (by omega) (by omega)).mp c_32
          refine lv_aload_n hx hb dX5_readWord_37 rfl (lv_at hl 4 rfl) ?_
          refine lv_dup hx hb dX5_readWord_38 rfl ?_
          refine va_get (D := (dC, dI)) (ci := 7) (v := .int (nI ep)) (C := RX5) (T := TX5) (N := 11) hx hb hts kc_readWord_4 hown hK hP 0 rfl rfl 9 (by decide) (hts (.fieldLink RX5 34 "MistHeaps$Hill" "at" "I") kc_readWord_5) (fun _ h9 => h9) rfl dX5_readWord_39 ?_
          refine lv_iload hx hb dX5_readWord_42 (lv_at hl 1 rfl) ?_
          refine lv_iadd hx hb dX5_readWord_44 ?_
          refine qi_as (y := nI (ep + (mlen ss ep (sTx 3)))) (nI_add ep (mlen ss ep (sTx 3))) ?_
          refine va_put (D := (dC, dI)) (ci := 7) (v := .int (nI (ep + (mlen ss ep (sTx 3))))) (ty := .int) (C := RX5) (T := TX5) (N := 11) hx hb hts kc_readWord_4 tyX5 tyX5_ok nmX5 hown hK hP hD hS 0 rfl rfl 9 (by decide) (hts (.fieldLink RX5 34 "MistHeaps$Hill" "at" "I") kc_readWord_5) (fun _ h9 => h9) rfl (by decide +kernel) rfl rfl (Nat.le_of_ble_eq_true rfl) dX5_readWord_45 (fun H locs hP hD hS => ?_)
          have hP : va_P (dC, dI) vwCl [(zo7iirrrririii bl esg (nI ecl) eW eA eE eC (nI ecd) aTp (nI ez) (nI (ep + (mlen ss ep (sTx 3)))) (nI em)), (zaI aTp cTp 100 fTp)] H := hP
          have hD : va_D A [(zo7iirrrririii bl esg (nI ecl) eW eA eE eC (nI ecd) aTp (nI ez) (nI (ep + (mlen ss ep (sTx 3)))) (nI em)), (zaI aTp cTp 100 fTp)] := hD
          refine lv_iload_n hx hb dX5_readWord_48 rfl (lv_at hl 3 rfl) ?_
          rw [hQ]
          have hP9 := hP.sub (ws' := [(zo7iirrrririii bl esg (nI ecl) eW eA eE eC (nI ecd) aTp (nI ez) (nI (ep + (mlen ss ep (sTx 3)))) (nI em)), (zaI aTp cTp 100 fTp)]) [0, 1] rfl
          have hD9 := hD.sub (ws' := [(zo7iirrrririii bl esg (nI ecl) eW eA eE eC (nI ecd) aTp (nI ez) (nI (ep + (mlen ss ep (sTx 3)))) (nI em)), (zaI aTp cTp 100 fTp)]) [0, 1] (by decide) rfl
          have hK9 := hK.sub (tys' := [(cTp, .int)]) [0] rfl
          exact W.iret (v := 3) hx hb hr (fun tQ htQ hWQ => ⟨⟨3, (ep + (mlen ss ep (sTx 3))), rfl, ⟨by omega, by omega, Or.inr ⟨3, by omega, rfl, by rw [pWord, if_neg c_8, if_neg c_16, if_neg c_24, if_pos c_32, c_32]⟩⟩, by rw [htQ]; exact hP9, va_K.moved hWQ.alike hK9, hD9⟩, hS.F htQ⟩) hS.2.2 dX5_readWord_49
      · skip
        have c_24 : (mlen ss ep (sTx 2)) = 6 := (nI_eq (a := (mlen ss ep (sTx 2))) (b := 6) (by omega) (by omega)).mp c_24
        refine lv_aload_n hx hb dX5_readWord_37 rfl (lv_at hl 4 rfl) ?_
        refine lv_dup hx hb dX5_readWord_38 rfl ?_
        refine va_get (D := (dC, dI)) (ci := 7) (v := .int (nI ep)) (C := RX5) (T := TX5) (N := 11) hx hb hts kc_readWord_4 hown hK hP 0 rfl rfl 9 (by decide) (hts (.fieldLink RX5 34 "MistHeaps$Hill" "at" "I") kc_readWord_5) (fun _ h9 => h9) rfl dX5_readWord_39 ?_
        refine lv_iload hx hb dX5_readWord_42 (lv_at hl 1 rfl) ?_
        refine lv_iadd hx hb dX5_readWord_44 ?_
        refine qi_as (y := nI (ep + (mlen ss ep (sTx 2)))) (nI_add ep (mlen ss ep (sTx 2))) ?_
        refine va_put (D := (dC, dI)) (ci := 7) (v := .int (nI (ep + (mlen ss ep (sTx 2))))) (ty := .int) (C := RX5) (T := TX5) (N := 11) hx hb hts kc_readWord_4 tyX5 tyX5_ok nmX5 hown hK hP hD hS 0 rfl rfl 9 (by decide) (hts (.fieldLink RX5 34 "MistHeaps$Hill" "at" "I") kc_readWord_5) (fun _ h9 => h9) rfl (by decide +kernel) rfl rfl (Nat.le_of_ble_eq_true rfl) dX5_readWord_45 (fun H locs hP hD hS => ?_)
        have hP : va_P (dC, dI) vwCl [(zo7iirrrririii bl esg (nI ecl) eW eA eE eC (nI ecd) aTp (nI ez) (nI (ep + (mlen ss ep (sTx 2)))) (nI em)), (zaI aTp cTp 100 fTp)] H := hP
        have hD : va_D A [(zo7iirrrririii bl esg (nI ecl) eW eA eE eC (nI ecd) aTp (nI ez) (nI (ep + (mlen ss ep (sTx 2)))) (nI em)), (zaI aTp cTp 100 fTp)] := hD
        refine lv_iload_n hx hb dX5_readWord_48 rfl (lv_at hl 3 rfl) ?_
        rw [hQ]
        have hP9 := hP.sub (ws' := [(zo7iirrrririii bl esg (nI ecl) eW eA eE eC (nI ecd) aTp (nI ez) (nI (ep + (mlen ss ep (sTx 2)))) (nI em)), (zaI aTp cTp 100 fTp)]) [0, 1] rfl
        have hD9 := hD.sub (ws' := [(zo7iirrrririii bl esg (nI ecl) eW eA eE eC (nI ecd) aTp (nI ez) (nI (ep + (mlen ss ep (sTx 2)))) (nI em)), (zaI aTp cTp 100 fTp)]) [0, 1] (by decide) rfl
        have hK9 := hK.sub (tys' := [(cTp, .int)]) [0] rfl
        exact W.iret (v := 2) hx hb hr (fun tQ htQ hWQ => ⟨⟨2, (ep + (mlen ss ep (sTx 2))), rfl, ⟨by omega, by omega, Or.inr ⟨2, by omega, rfl, by rw [pWord, if_neg c_8, if_neg c_16, if_pos c_24, c_24]⟩⟩, by rw [htQ]; exact hP9, va_K.moved hWQ.alike hK9, hD9⟩, hS.F htQ⟩) hS.2.2 dX5_readWord_49
    · skip
      have c_16 : (mlen ss ep (sTx 1)) = 5 := (nI_eq (a := (mlen ss ep (sTx 1))) (b := 5) (by omega) (by omega)).mp c_16
      refine lv_aload_n hx hb dX5_readWord_37 rfl (lv_at hl 4 rfl) ?_
      refine lv_dup hx hb dX5_readWord_38 rfl ?_
      refine va_get (D := (dC, dI)) (ci := 7) (v := .int (nI ep)) (C := RX5) (T := TX5) (N := 11) hx hb hts kc_readWord_4 hown hK hP 0 rfl rfl 9 (by decide) (hts (.fieldLink RX5 34 "MistHeaps$Hill" "at" "I") kc_readWord_5) (fun _ h9 => h9) rfl dX5_readWord_39 ?_
      refine lv_iload hx hb dX5_readWord_42 (lv_at hl 1 rfl) ?_
      refine lv_iadd hx hb dX5_readWord_44 ?_
      refine qi_as (y := nI (ep + (mlen ss ep (sTx 1)))) (nI_add ep (mlen ss ep (sTx 1))) ?_
      refine va_put (D := (dC, dI)) (ci := 7) (v := .int (nI (ep + (mlen ss ep (sTx 1))))) (ty := .int) (C := RX5) (T := TX5) (N := 11) hx hb hts kc_readWord_4 tyX5 tyX5_ok nmX5 hown hK hP hD hS 0 rfl rfl 9 (by decide) (hts (.fieldLink RX5 34 "MistHeaps$Hill" "at" "I") kc_readWord_5) (fun _ h9 => h9) rfl (by decide +kernel) rfl rfl (Nat.le_of_ble_eq_true rfl) dX5_readWord_45 (fun H locs hP hD hS => ?_)
      have hP : va_P (dC, dI) vwCl [(zo7iirrrririii bl esg (nI ecl) eW eA eE eC (nI ecd) aTp (nI ez) (nI (ep + (mlen ss ep (sTx 1)))) (nI em)), (zaI aTp cTp 100 fTp)] H := hP
      have hD : va_D A [(zo7iirrrririii bl esg (nI ecl) eW eA eE eC (nI ecd) aTp (nI ez) (nI (ep + (mlen ss ep (sTx 1)))) (nI em)), (zaI aTp cTp 100 fTp)] := hD
      refine lv_iload_n hx hb dX5_readWord_48 rfl (lv_at hl 3 rfl) ?_
      rw [hQ]
      have hP9 := hP.sub (ws' := [(zo7iirrrririii bl esg (nI ecl) eW eA eE eC (nI ecd) aTp (nI ez) (nI (ep + (mlen ss ep (sTx 1)))) (nI em)), (zaI aTp cTp 100 fTp)]) [0, 1] rfl
      have hD9 := hD.sub (ws' := [(zo7iirrrririii bl esg (nI ecl) eW eA eE eC (nI ecd) aTp (nI ez) (nI (ep + (mlen ss ep (sTx 1)))) (nI em)), (zaI aTp cTp 100 fTp)]) [0, 1] (by decide) rfl
      have hK9 := hK.sub (tys' := [(cTp, .int)]) [0] rfl
      exact W.iret (v := 1) hx hb hr (fun tQ htQ hWQ => ⟨⟨1, (ep + (mlen ss ep (sTx 1))), rfl, ⟨by omega, by omega, Or.inr ⟨1, by omega, rfl, by rw [pWord, if_neg c_8, if_pos c_16, c_16]⟩⟩, by rw [htQ]; exact hP9, va_K.moved hWQ.alike hK9, hD9⟩, hS.F htQ⟩) hS.2.2 dX5_readWord_49
  · skip
    have c_8 : (mlen ss ep (sTx 0)) = 4 := (nI_eq (a := (mlen ss ep (sTx 0))) (b := 4) (by omega) (by omega)).mp c_8
    refine lv_aload_n hx hb dX5_readWord_37 rfl (lv_at hl 4 rfl) ?_
    refine lv_dup hx hb dX5_readWord_38 rfl ?_
    refine va_get (D := (dC, dI)) (ci := 7) (v := .int (nI ep)) (C := RX5) (T := TX5) (N := 11) hx hb hts kc_readWord_4 hown hK hP 0 rfl rfl 9 (by decide) (hts (.fieldLink RX5 34 "MistHeaps$Hill" "at" "I") kc_readWord_5) (fun _ h9 => h9) rfl dX5_readWord_39 ?_
    refine lv_iload hx hb dX5_readWord_42 (lv_at hl 1 rfl) ?_
    refine lv_iadd hx hb dX5_readWord_44 ?_
    refine qi_as (y := nI (ep + (mlen ss ep (sTx 0)))) (nI_add ep (mlen ss ep (sTx 0))) ?_
    refine va_put (D := (dC, dI)) (ci := 7) (v := .int (nI (ep + (mlen ss ep (sTx 0))))) (ty := .int) (C := RX5) (T := TX5) (N := 11) hx hb hts kc_readWord_4 tyX5 tyX5_ok nmX5 hown hK hP hD hS 0 rfl rfl 9 (by decide) (hts (.fieldLink RX5 34 "MistHeaps$Hill" "at" "I") kc_readWord_5) (fun _ h9 => h9) rfl (by decide +kernel) rfl rfl (Nat.le_of_ble_eq_true rfl) dX5_readWord_45 (fun H locs hP hD hS => ?_)
    have hP : va_P (dC, dI) vwCl [(zo7iirrrririii bl esg (nI ecl) eW eA eE eC (nI ecd) aTp (nI ez) (nI (ep + (mlen ss ep (sTx 0)))) (nI em)), (zaI aTp cTp 100 fTp)] H := hP
    have hD : va_D A [(zo7iirrrririii bl esg (nI ecl) eW eA eE eC (nI ecd) aTp (nI ez) (nI (ep + (mlen ss ep (sTx 0)))) (nI em)), (zaI aTp cTp 100 fTp)] := hD
    refine lv_iload_n hx hb dX5_readWord_48 rfl (lv_at hl 3 rfl) ?_
    rw [hQ]
    have hP9 := hP.sub (ws' := [(zo7iirrrririii bl esg (nI ecl) eW eA eE eC (nI ecd) aTp (nI ez) (nI (ep + (mlen ss ep (sTx 0)))) (nI em)), (zaI aTp cTp 100 fTp)]) [0, 1] rfl
    have hD9 := hD.sub (ws' := [(zo7iirrrririii bl esg (nI ecl) eW eA eE eC (nI ecd) aTp (nI ez) (nI (ep + (mlen ss ep (sTx 0)))) (nI em)), (zaI aTp cTp 100 fTp)]) [0, 1] (by decide) rfl
    have hK9 := hK.sub (tys' := [(cTp, .int)]) [0] rfl
    exact W.iret (v := 0) hx hb hr (fun tQ htQ hWQ => ⟨⟨0, (ep + (mlen ss ep (sTx 0))), rfl, ⟨by omega, by omega, Or.inr ⟨0, by omega, rfl, by rw [pWord, if_pos c_8, c_8]⟩⟩, by rw [htQ]; exact hP9, va_K.moved hWQ.alike hK9, hD9⟩, hS.F htQ⟩) hS.2.2 dX5_readWord_49

theorem kc_xCode_0 : ∀ w ∈ wsX50, w ∈ wsX5_code := fun w h => List.mem_cons_of_mem _ (gin_wsX50 w h)
theorem kc_xCode_1 : (.fieldLink RX5 37 "MistHeaps$Hill" "coded" "I" : Cond) ∈ wsX5_code := kc_of 121 rfl rfl rfl
theorem kc_xCode_2 : (.fieldLink RX5 25 "MistHeaps$Hill" "codes" "[I" : Cond) ∈ wsX5_code := kc_of 120 rfl rfl rfl
set_option maxHeartbeats 4000000 in
set_option maxRecDepth 100000 in
theorem c_xCode (l : Launch) (dC : Nat → ClassId) (dI : Nat → Nat → Nat) (bl : Nat) (aTp : Nat) (eW : Nat) (eA : Nat) (eE : Nat) (eC : Nat) (ecl : Nat) (ecd : Nat) (x : Int32) (esg : Int32) (ceC : ClassId) (feC : Nat → Int32) (ez : Nat) (ep : Nat) (em : Nat) (kt : List Nat) (b0 : Nat) (sz : Nat) (hXT : XT feC ecd kt ep) (hc9 : ecd < 100) (zeC : ∀ k0, k0 < 100 → okC (feC k0)) (hox : okC x) (hct : x = ccd b0) : Met l yX5_code wsX5_code ({ frames := 0, cells := 0, slots := 0, locals := 0 } : Room) (va_Pc [.ref bl, .int x] (fun U => U.heap.size = sz ∧ va_P (dC, dI) vwCl [(zo7iirrrririii bl esg (nI ecl) eW eA eE eC (nI ecd) aTp (nI ez) (nI ep) (nI em)), (zaI eC ceC 100 feC)] U.heap ∧ va_K (dC, dI) vwCl [(ceC, .int)] U ∧ va_D (fun _ => True) [(zo7iirrrririii bl esg (nI ecl) eW eA eE eC (nI ecd) aTp (nI ez) (nI ep) (nI em)), (zaI eC ceC 100 feC)])) (va_Qv (fun (u : (Nat) × (Nat → Int32)) => match u with | (ecd9, feC9) => ecd9 = ecd + 1 ∧ (∀ k0, k0 < 100 → okC (feC9 k0)) ∧ ∀ k0, k0 < ecd + 1 → feC9 k0 = ccd ((kt ++ [b0]).getD k0 0)) (fun (u : (Nat) × (Nat → Int32)) (t : State) => match u with | (ecd9, feC9) => va_P (dC, dI) vwCl [(zo7iirrrririii bl esg (nI ecl) eW eA eE eC (nI ecd9) aTp (nI ez) (nI ep) (nI em)), (zaI eC ceC 100 feC9)] t.heap ∧ va_K (dC, dI) vwCl [(ceC, .int)] t ∧ va_D (va_A [(zo7iirrrririii bl esg (nI ecl) eW eA eE eC (nI ecd) aTp (nI ez) (nI ep) (nI em)), (zaI eC ceC 100 feC)] sz) [(zo7iirrrririii bl esg (nI ecl) eW eA eE eC (nI ecd9) aTp (nI ez) (nI ep) (nI em)), (zaI eC ceC 100 feC9)]) (va_A [(zo7iirrrririii bl esg (nI ecl) eW eA eE eC (nI ecd) aTp (nI ez) (nI ep) (nI em)), (zaI eC ceC 100 feC)] sz)) 0 0 (va_A [(zo7iirrrririii bl esg (nI ecl) eW eA eE eC (nI ecd) aTp (nI ez) (nI ep) (nI em)), (zaI eC ceC 100 feC)] sz) := by
  refine met_ofQ (cc := cX5_code) (maxL := 2) (ret := none) (by decide) rfl ?_
  intro p e s m args below meth c s₁ Q B hml hv hQ
  obtain ⟨rfl, hsz, hP, hK, hD0⟩ := hv
  have hx := B.exec
  have hb := B.bytes
  have hr := B.returns
  have hts := atoms_spec (ws := wsX5_code) B.pre
  have hown : s.vm.findClass RX5 = some m.cls := findClass_of_methodNamed B.named
  have hlocks := B.notSynchronized
  subst hsz
  have hD := hD0.self (sz := s.heap.size)
  generalize hAe : va_A [(zo7iirrrririii bl esg (nI ecl) eW eA eE eC (nI ecd) aTp (nI ez) (nI ep) (nI em)), (zaI eC ceC 100 feC)] s.heap.size = A at hD hQ ⊢
  have hA : ∀ q : Nat, s.heap.size ≤ q → A q := fun q h => by rw [← hAe]; exact Or.inr h
  have hS : va_S A s.heap s.heap [] := va_S.rf
  have hl := lv_entry [.ref bl, .int x] (n := 2) (Nat.le_of_ble_eq_true rfl)
  rw [lg_entry_eq]
  generalize (lg_sl [.ref bl, .int x] ++ List.replicate (2 - (lg_sl [.ref bl, .int x]).length) Slot.unset).toArray = ls at hl ⊢
  generalize hag : ([.ref bl, .int x] : List Value).toArray = args at hts hQ ⊢
  have hl : lv_has ls 2 [(0, .ref bl), (1, .int x)] := hl
  obtain ⟨H, hH⟩ : ∃ H : Heap, H = s.heap := ⟨_, rfl⟩
  rw [← hH] at hP
  rw [← hH]
  have hS : va_S A s.heap H [] := by rw [hH]; exact hS
  obtain ⟨locs, hlo⟩ : ∃ L : List Loc, L = [] := ⟨_, rfl⟩
  rw [← hlo] at hS
  rw [← hlo]
  clear hH hlo
  refine lv_aload_n hx hb dX5_code_0 rfl (lv_at hl 0 rfl) ?_
  refine va_get (D := (dC, dI)) (ci := 7) (v := .int (nI ecd)) (C := RX5) (T := TX5) (N := 11) hx hb hts kc_xCode_0 hown hK hP 0 rfl rfl 6 (by decide) (hts (.fieldLink RX5 37 "MistHeaps$Hill" "coded" "I") kc_xCode_1) (fun _ h9 => h9) rfl dX5_code_1 ?_
  refine lv_bipush (v := 100) hx hb dX5_code_4 (by decide) ?_
  refine lv_icmp_lt (tgt := 10) hx hb dX5_code_6 (by decide) (fun c_1 => ?_) (fun c_1 => ?_)
  · skip
    have c_1 : ecd < 100 := (nI_ltI (a := ecd) (b := 100) (by omega) (by omega)).mp c_1
    refine lv_aload_n hx hb dX5_code_10 rfl (lv_at hl 0 rfl) ?_
    refine va_get (D := (dC, dI)) (ci := 7) (v := .ref eC) (C := RX5) (T := TX5) (N := 11) hx hb hts kc_xCode_0 hown hK hP 0 rfl rfl 5 (by decide) (hts (.fieldLink RX5 25 "MistHeaps$Hill" "codes" "[I") kc_xCode_2) (fun _ h9 => h9) rfl dX5_code_11 ?_
    refine lv_aload_n hx hb dX5_code_14 rfl (lv_at hl 0 rfl) ?_
    refine va_get (D := (dC, dI)) (ci := 7) (v := .int (nI ecd)) (C := RX5) (T := TX5) (N := 11) hx hb hts kc_xCode_0 hown hK hP 0 rfl rfl 6 (by decide) (hts (.fieldLink RX5 37 "MistHeaps$Hill" "coded" "I") kc_xCode_1) (fun _ h9 => h9) rfl dX5_code_15 ?_
    refine lv_iload_n hx hb dX5_code_18 rfl (lv_at hl 1 rfl) ?_
    refine va_iast hx hb hK hP hD hS 1 0 rfl rfl (vp_in_nI (n := ecd) (N := 100) (by omega) (by omega)) dX5_code_19 (fun H locs hP hD hS => ?_)
    rw [nI_clamp (n := ecd) (by omega)] at hP hD
    have hP : va_P (dC, dI) vwCl [(zo7iirrrririii bl esg (nI ecl) eW eA eE eC (nI ecd) aTp (nI ez) (nI ep) (nI em)), (zaI eC ceC 100 (upd feC ecd x))] H := hP
    have hD : va_D A [(zo7iirrrririii bl esg (nI ecl) eW eA eE eC (nI ecd) aTp (nI ez) (nI ep) (nI em)), (zaI eC ceC 100 (upd feC ecd x))] := hD
    refine lv_aload_n hx hb dX5_code_20 rfl (lv_at hl 0 rfl) ?_
    refine lv_dup hx hb dX5_code_21 rfl ?_
    refine va_get (D := (dC, dI)) (ci := 7) (v := .int (nI ecd)) (C := RX5) (T := TX5) (N := 11) hx hb hts kc_xCode_0 hown hK hP 0 rfl rfl 6 (by decide) (hts (.fieldLink RX5 37 "MistHeaps$Hill" "coded" "I") kc_xCode_1) (fun _ h9 => h9) rfl dX5_code_22 ?_
    refine lv_iconst (v := 1) hx hb dX5_code_25 (by decide) ?_
    refine lv_iadd hx hb dX5_code_26 ?_
    refine qi_as (y := nI (ecd + 1)) (nI_add ecd 1) ?_
    refine va_put (D := (dC, dI)) (ci := 7) (v := .int (nI (ecd + 1))) (ty := .int) (C := RX5) (T := TX5) (N := 11) hx hb hts kc_xCode_0 tyX5 tyX5_ok nmX5 hown hK hP hD hS 0 rfl rfl 6 (by decide) (hts (.fieldLink RX5 37 "MistHeaps$Hill" "coded" "I") kc_xCode_1) (fun _ h9 => h9) rfl (by decide +kernel) rfl rfl (Nat.le_of_ble_eq_true rfl) dX5_code_27 (fun H locs hP hD hS => ?_)
    have hP : va_P (dC, dI) vwCl [(zo7iirrrririii bl esg (nI ecl) eW eA eE eC (nI (ecd + 1)) aTp (nI ez) (nI ep) (nI em)), (zaI eC ceC 100 (upd feC ecd x))] H := hP
    have hD : va_D A [(zo7iirrrririii bl esg (nI ecl) eW eA eE eC (nI (ecd + 1)) aTp (nI ez) (nI ep) (nI em)), (zaI eC ceC 100 (upd feC ecd x))] := hD
    rw [hQ]
    have hP9 := hP.sub (ws' := [(zo7iirrrririii bl esg (nI ecl) eW eA eE eC (nI (ecd + 1)) aTp (nI ez) (nI ep) (nI em)), (zaI eC ceC 100 (upd feC ecd x))]) [0, 1] rfl
    have hD9 := hD.sub (ws' := [(zo7iirrrririii bl esg (nI ecl) eW eA eE eC (nI (ecd + 1)) aTp (nI ez) (nI ep) (nI em)), (zaI eC ceC 100 (upd feC ecd x))]) [0, 1] (by decide) rfl
    have hK9 := hK.sub (tys' := [(ceC, .int)]) [0] rfl
    exact W.vret hx hb hr (fun tQ htQ hWQ => ⟨⟨((ecd + 1), (upd feC ecd x)), rfl, ⟨rfl, okC_up zeC hox, hXT.add hct⟩, by rw [htQ]; exact hP9, va_K.moved hWQ.alike hK9, hD9⟩, hS.F htQ⟩) hS.2.2 dX5_code_30
  · skip
    have c_1 : ¬ ecd < 100 := fun q => c_1 ((nI_ltI (a := ecd) (b := 100) (by omega) (by omega)).mpr q)
    exfalso
    omega

theorem kc_readTest_0 : ∀ w ∈ wsX50, w ∈ wsX5_readTest := fun w h => List.mem_cons_of_mem _ (gin_wsX50 w h)
theorem kc_readTest_1 : (.fieldLink RX5 34 "MistHeaps$Hill" "at" "I" : Cond) ∈ wsX5_readTest := kc_of 124 rfl rfl rfl
theorem kc_readTest_2 : (.fieldLink RX5 48 "MistHeaps$Hill" "number" "I" : Cond) ∈ wsX5_readTest := kc_of 125 rfl rfl rfl
set_option maxHeartbeats 4000000 in
set_option maxRecDepth 100000 in
theorem c_readTest (l : Launch) (dC : Nat → ClassId) (dI : Nat → Nat → Nat) (sK sV : Nat → Nat) (bl : Nat) (aTp : Nat) (eW : Nat) (eA : Nat) (eE : Nat) (eC : Nat) (ecl : Nat) (ecd : Nat) (esg : Int32) (cTp : ClassId) (ceC : ClassId) (fTp : Nat → Int32) (feC : Nat → Int32) (ez : Nat) (ep : Nat) (em : Nat) (ss : Nat → Nat) (kt : List Nat) (sz : Nat) (hez : ez ≤ 100) (hep : ep ≤ ez) (hem : em ≤ 99) (hXT : XT feC ecd kt ep) (zeC : ∀ k0, k0 < 100 → okC (feC k0)) (gX : TX fTp ez ss) : Met l yX5_readTest wsX5_readTest ({ frames := 4, cells := 0, slots := 0, locals := 91 } : Room) (va_Pc [.ref bl] (fun U => U.heap.size = sz ∧ va_P (dC, dI) vwCl [(zo7iirrrririii bl esg (nI ecl) eW eA eE eC (nI ecd) aTp (nI ez) (nI ep) (nI em)), (zaI aTp cTp 100 fTp), (zaI eC ceC 100 feC)] U.heap ∧ va_K (dC, dI) vwCl [(cTp, .int), (ceC, .int)] U ∧ va_D (fun _ => True) [(zo7iirrrririii bl esg (nI ecl) eW eA eE eC (nI ecd) aTp (nI ez) (nI ep) (nI em)), (zaI aTp cTp 100 fTp), (zaI eC ceC 100 feC)] ∧ Gs sK sV (va_A [(zo7iirrrririii bl esg (nI ecl) eW eA eE eC (nI ecd) aTp (nI ez) (nI ep) (nI em)), (zaI aTp cTp 100 fTp), (zaI eC ceC 100 feC)] sz) U)) (va_Qi (fun (r : Int32) (u : (Nat) × (Nat) × (Nat) × (Nat → Int32)) => match u with | (ecd9, ep9, em9, feC9) => (r = 1 ∧ ∃ L0 : List Nat, pTest ss ep = (some L0, ep9) ∧ ep + 3 ≤ ep9 ∧ ep9 ≤ ez ∧ em9 ≤ 99 ∧ L0.length + ep ≤ ep9 ∧ XT feC9 ecd9 (kt ++ L0) ep9 ∧ ∀ k0, k0 < 100 → okC (feC9 k0)) ∨ (r = 0 ∧ pTest ss ep = (none, ep9) ∧ ep9 ≤ ez + 2 ∧ em9 ≤ 99 ∧ ecd9 ≤ 100 ∧ ∀ k0, k0 < 100 → okC (feC9 k0))) (fun (u : (Nat) × (Nat) × (Nat) × (Nat → Int32)) (t : State) => match u with | (ecd9, ep9, em9, feC9) => va_P (dC, dI) vwCl [(zo7iirrrririii bl esg (nI ecl) eW eA eE eC (nI ecd9) aTp (nI ez) (nI ep9) (nI em9)), (zaI aTp cTp 100 fTp), (zaI eC ceC 100 feC9)] t.heap ∧ va_K (dC, dI) vwCl [(cTp, .int), (ceC, .int)] t ∧ va_D (va_A [(zo7iirrrririii bl esg (nI ecl) eW eA eE eC (nI ecd) aTp (nI ez) (nI ep) (nI em)), (zaI aTp cTp 100 fTp), (zaI eC ceC 100 feC)] sz) [(zo7iirrrririii bl esg (nI ecl) eW eA eE eC (nI ecd9) aTp (nI ez) (nI ep9) (nI em9)), (zaI aTp cTp 100 fTp), (zaI eC ceC 100 feC9)]) (va_A [(zo7iirrrririii bl esg (nI ecl) eW eA eE eC (nI ecd) aTp (nI ez) (nI ep) (nI em)), (zaI aTp cTp 100 fTp), (zaI eC ceC 100 feC)] sz)) 0 0 (va_A [(zo7iirrrririii bl esg (nI ecl) eW eA eE eC (nI ecd) aTp (nI ez) (nI ep) (nI em)), (zaI aTp cTp 100 fTp), (zaI eC ceC 100 feC)] sz) := by
  refine met_ofQ (cc := cX5_readTest) (maxL := 3) (ret := (some .boolean)) (by decide) rfl ?_
  intro p e s m args below meth c s₁ Q B hml hv hQ
  obtain ⟨rfl, hsz, hP, hK, hD0, hE⟩ := hv
  have hx := B.exec
  have hb := B.bytes
  have hr := B.returns
  have hts := atoms_spec (ws := wsX5_readTest) B.pre
  have hown : s.vm.findClass RX5 = some m.cls := findClass_of_methodNamed B.named
  have hlocks := B.notSynchronized
  subst hsz
  have hD := hD0.self (sz := s.heap.size)
  generalize hAe : va_A [(zo7iirrrririii bl esg (nI ecl) eW eA eE eC (nI ecd) aTp (nI ez) (nI ep) (nI em)), (zaI aTp cTp 100 fTp), (zaI eC ceC 100 feC)] s.heap.size = A at hD hQ hE ⊢
  have hA : ∀ q : Nat, s.heap.size ≤ q → A q := fun q h => by rw [← hAe]; exact Or.inr h
  have hS : va_S A s.heap s.heap [] := va_S.rf
  have hl := lv_entry [.ref bl] (n := 3) (Nat.le_of_ble_eq_true rfl)
  rw [lg_entry_eq]
  generalize (lg_sl [.ref bl] ++ List.replicate (3 - (lg_sl [.ref bl]).length) Slot.unset).toArray = ls at hl ⊢
  generalize hag : ([.ref bl] : List Value).toArray = args at hts hQ ⊢
  have hl : lv_has ls 3 [(0, .ref bl)] := hl
  obtain ⟨H, hH⟩ : ∃ H : Heap, H = s.heap := ⟨_, rfl⟩
  rw [← hH] at hP
  rw [← hH]
  have hS : va_S A s.heap H [] := by rw [hH]; exact hS
  obtain ⟨locs, hlo⟩ : ∃ L : List Loc, L = [] := ⟨_, rfl⟩
  rw [← hlo] at hS
  rw [← hlo]
  clear hH hlo
  refine va_ldcS hx hb hown (show vk_R RX5 112 "hkrcms" (sK 4) s from hE.1 4 (by decide)) dX5_readTest_0 ?_
  refine lv_aload_n hx hb dX5_readTest_2 rfl (lv_at hl 0 rfl) ?_
  have hPc := hP.sub (ws' := [(zo7iirrrririii bl esg (nI ecl) eW eA eE eC (nI ecd) aTp (nI ez) (nI ep) (nI em)), (zaI aTp cTp 100 fTp)]) [0, 1] rfl
  have hKc := hK.sub (tys' := [(cTp, .int)]) [0] rfl
  refine vp_callSi (va_runV (As := []) (rest := [.ref (sK 4)]) ⟨hx, hb, hml, hown, hts⟩ (c_xSign l dC dI bl aTp eW eA eE eC ecl ecd esg cTp fTp ez ep em ss (hez) (by omega) (gX)) (cwV 0 hts gX5_readTest_X5_sign rfl rfl rfl hd_yX5_sign ⟨Nat.le_of_ble_eq_true rfl, Nat.le_of_ble_eq_true rfl⟩) ⟨fun a U g mk q => by obtain ⟨q0, qP, qK⟩ := q; exact ⟨q0, mvP g mk a qP, mvK g mk a qK⟩, va_recv hK hP (ci := 7) (q := (RX5, TX5, 11)) (q0 := 0) rfl rfl, fun U hU hW => ⟨rfl, by rw [hU]; exact hPc, va_K.moved hW.alike hKc⟩⟩ rfl rfl hl.1 rfl (lv_room (Nat.le_of_ble_eq_true rfl)) dX5_readTest_3 ⟨Nat.le_of_ble_eq_true rfl, Nat.le_of_ble_eq_true rfl⟩).run (fun r_1 hw_2 => ?_)
  obtain rfl := hw_2
  have hs8 := gX.2.2 (ep)
  refine lv_i2c (v := nI (ss ep)) hx hb dX5_readTest_6 (ch_s2 (by omega)) ?_
  refine vp_callSi (va_runV (As := [.int (nI (ss ep))]) (rest := []) ⟨hx, hb, hml, hown, hts⟩ (c_idx3 l dC dI sK sV 4 (ss ep) (by decide) (by omega)) (cwV 1 hts gX5_readTest_J0_indexOf_0f7a4 rfl rfl rfl hd_yJ0_indexOf_0f7a4 ⟨Nat.le_of_ble_eq_true rfl, Nat.le_of_ble_eq_true rfl⟩) ⟨fun a U g mk q => by obtain ⟨q0, qhE⟩ := q; exact ⟨q0, qhE.mv g mk a⟩, va_Orecv (hE.2.1 4 (by decide)).1 hS, fun U hU hW => ⟨rfl, hE.callF hS hU hW⟩⟩ rfl rfl hl.1 rfl (lv_room (Nat.le_of_ble_eq_true rfl)) dX5_readTest_7 ⟨Nat.le_of_ble_eq_true rfl, Nat.le_of_ble_eq_true rfl⟩).run (fun r_3 hw_4 => ?_)
  rcases hw_4 with ⟨rfl, h_5⟩ | ⟨u1, hu1, rfl, h_5⟩
  · skip
    have hx6 := ax6_n (fun q hq => h_5 q hq)
    refine lv_istore_n (lv' := [(1, .int (-1)), (0, .ref bl)]) hx hb dX5_readTest_10 rfl hl (by decide) rfl (fun ls hl => ?_)
    refine lv_iload_n hx hb dX5_readTest_11 rfl (lv_at hl 0 rfl) ?_
    refine lv_if_ge (tgt := 17) hx hb dX5_readTest_12 (by decide) (fun c_6 => absurd c_6 (by decide)) (fun _ => ?_)
    refine lv_iconst (v := 0) hx hb dX5_readTest_15 (by decide) ?_
    rw [hQ]
    have hP9 := hP.sub (ws' := [(zo7iirrrririii bl esg (nI ecl) eW eA eE eC (nI ecd) aTp (nI ez) (nI ep) (nI em)), (zaI aTp cTp 100 fTp), (zaI eC ceC 100 feC)]) [0, 1, 2] rfl
    have hD9 := hD.sub (ws' := [(zo7iirrrririii bl esg (nI ecl) eW eA eE eC (nI ecd) aTp (nI ez) (nI ep) (nI em)), (zaI aTp cTp 100 fTp), (zaI eC ceC 100 feC)]) [0, 1, 2] (by decide) rfl
    have hK9 := hK.sub (tys' := [(cTp, .int), (ceC, .int)]) [0, 1] rfl
    exact W.zret (v := 0) hx hb hr rfl (fun tQ htQ hWQ => ⟨⟨0, (ecd, ep, em, feC), rfl, Or.inr ⟨rfl, pt_1 hx6, by omega, by omega, by first | omega | (have := (hXT).2.1; omega), zeC⟩, by rw [htQ]; exact hP9, va_K.moved hWQ.alike hK9, hD9⟩, hS.F htQ⟩) hS.2.2 dX5_readTest_16
  · skip
    have hu1 : u1 < 6 := hu1
    have hx6 := ax6_y hu1 h_5
    have hlu1 : ep < ez := Nat.lt_of_not_le (fun z => by have h1 := gX.2.1 _ z; have h2 := sTx_ch (i := 4) (by decide) (k := u1) hu1; omega)
    refine lv_istore_n (lv' := [(1, .int (nI u1)), (0, .ref bl)]) hx hb dX5_readTest_10 rfl hl (by decide) rfl (fun ls hl => ?_)
    refine lv_iload_n hx hb dX5_readTest_11 rfl (lv_at hl 0 rfl) ?_
    refine lv_if_ge (tgt := 17) hx hb dX5_readTest_12 (by decide) (fun c_7 => ?_) (fun c_7 => absurd c_7 (fun z9 => z9 (Int32.not_lt.mp (nI_pos (by omega)))))
    have c_7 : 0 ≤ u1 := (nI_leI (a := 0) (b := u1) (by omega) (by omega)).mp c_7
    refine lv_aload_n hx hb dX5_readTest_17 rfl (lv_at hl 1 rfl) ?_
    refine lv_dup hx hb dX5_readTest_18 rfl ?_
    refine va_get (D := (dC, dI)) (ci := 7) (v := .int (nI ep)) (C := RX5) (T := TX5) (N := 11) hx hb hts kc_readTest_0 hown hK hP 0 rfl rfl 9 (by decide) (hts (.fieldLink RX5 34 "MistHeaps$Hill" "at" "I") kc_readTest_1) (fun _ h9 => h9) rfl dX5_readTest_19 ?_
    refine lv_iconst (v := 1) hx hb dX5_readTest_22 (by decide) ?_
    refine lv_iadd hx hb dX5_readTest_23 ?_
    refine qi_as (y := nI (ep + 1)) (nI_add ep 1) ?_
    refine va_put (D := (dC, dI)) (ci := 7) (v := .int (nI (ep + 1))) (ty := .int) (C := RX5) (T := TX5) (N := 11) hx hb hts kc_readTest_0 tyX5 tyX5_ok nmX5 hown hK hP hD hS 0 rfl rfl 9 (by decide) (hts (.fieldLink RX5 34 "MistHeaps$Hill" "at" "I") kc_readTest_1) (fun _ h9 => h9) rfl (by decide +kernel) rfl rfl (Nat.le_of_ble_eq_true rfl) dX5_readTest_24 (fun H locs hP hD hS => ?_)
    have hP : va_P (dC, dI) vwCl [(zo7iirrrririii bl esg (nI ecl) eW eA eE eC (nI ecd) aTp (nI ez) (nI (ep + 1)) (nI em)), (zaI aTp cTp 100 fTp), (zaI eC ceC 100 feC)] H := hP
    have hD : va_D A [(zo7iirrrririii bl esg (nI ecl) eW eA eE eC (nI ecd) aTp (nI ez) (nI (ep + 1)) (nI em)), (zaI aTp cTp 100 fTp), (zaI eC ceC 100 feC)] := hD
    refine va_ldcS hx hb hown (show vk_R RX5 118 "<=>" (sK 5) s from hE.1 5 (by decide)) dX5_readTest_27 ?_
    refine lv_aload_n hx hb dX5_readTest_29 rfl (lv_at hl 1 rfl) ?_
    have hPc := hP.sub (ws' := [(zo7iirrrririii bl esg (nI ecl) eW eA eE eC (nI ecd) aTp (nI ez) (nI (ep + 1)) (nI em)), (zaI aTp cTp 100 fTp)]) [0, 1] rfl
    have hKc := hK.sub (tys' := [(cTp, .int)]) [0] rfl
    refine vp_callSi (va_runV (As := []) (rest := [.ref (sK 5)]) ⟨hx, hb, hml, hown, hts⟩ (c_xSign l dC dI bl aTp eW eA eE eC ecl ecd esg cTp fTp ez (ep + 1) em ss (hez) (by omega) (gX)) (cwV 0 hts gX5_readTest_X5_sign rfl rfl rfl hd_yX5_sign ⟨Nat.le_of_ble_eq_true rfl, Nat.le_of_ble_eq_true rfl⟩) ⟨fun a U g mk q => by obtain ⟨q0, qP, qK⟩ := q; exact ⟨q0, mvP g mk a qP, mvK g mk a qK⟩, va_recv hK hP (ci := 7) (q := (RX5, TX5, 11)) (q0 := 0) rfl rfl, fun U hU hW => ⟨rfl, by rw [hU]; exact hPc, va_K.moved hW.alike hKc⟩⟩ rfl rfl hl.1 rfl (lv_room (Nat.le_of_ble_eq_true rfl)) dX5_readTest_30 ⟨Nat.le_of_ble_eq_true rfl, Nat.le_of_ble_eq_true rfl⟩).run (fun r_8 hw_9 => ?_)
    obtain rfl := hw_9
    have hs8 := gX.2.2 (ep + 1)
    refine lv_i2c (v := nI (ss (ep + 1))) hx hb dX5_readTest_33 (ch_s2 (by omega)) ?_
    refine vp_callSi (va_runV (As := [.int (nI (ss (ep + 1)))]) (rest := []) ⟨hx, hb, hml, hown, hts⟩ (c_idx3 l dC dI sK sV 5 (ss (ep + 1)) (by decide) (by omega)) (cwV 1 hts gX5_readTest_J0_indexOf_0f7a4 rfl rfl rfl hd_yJ0_indexOf_0f7a4 ⟨Nat.le_of_ble_eq_true rfl, Nat.le_of_ble_eq_true rfl⟩) ⟨fun a U g mk q => by obtain ⟨q0, qhE⟩ := q; exact ⟨q0, qhE.mv g mk a⟩, va_Orecv (hE.2.1 5 (by decide)).1 hS, fun U hU hW => ⟨rfl, hE.callF hS hU hW⟩⟩ rfl rfl hl.1 rfl (lv_room (Nat.le_of_ble_eq_true rfl)) dX5_readTest_34 ⟨Nat.le_of_ble_eq_true rfl, Nat.le_of_ble_eq_true rfl⟩).run (fun r_10 hw_11 => ?_)
    rcases hw_11 with ⟨rfl, h_12⟩ | ⟨u2, hu2, rfl, h_12⟩
    · skip
      have hx3 := ax3_n (fun q hq => h_12 q hq)
      refine lv_istore_n (lv' := [(2, .int (-1)), (1, .int (nI u1)), (0, .ref bl)]) hx hb dX5_readTest_37 rfl hl (by decide) rfl (fun ls hl => ?_)
      refine lv_iload_n hx hb dX5_readTest_38 rfl (lv_at hl 0 rfl) ?_
      refine lv_if_ge (tgt := 44) hx hb dX5_readTest_39 (by decide) (fun c_13 => absurd c_13 (by decide)) (fun _ => ?_)
      refine lv_iconst (v := 0) hx hb dX5_readTest_42 (by decide) ?_
      rw [hQ]
      have hP9 := hP.sub (ws' := [(zo7iirrrririii bl esg (nI ecl) eW eA eE eC (nI ecd) aTp (nI ez) (nI (ep + 1)) (nI em)), (zaI aTp cTp 100 fTp), (zaI eC ceC 100 feC)]) [0, 1, 2] rfl
      have hD9 := hD.sub (ws' := [(zo7iirrrririii bl esg (nI ecl) eW eA eE eC (nI ecd) aTp (nI ez) (nI (ep + 1)) (nI em)), (zaI aTp cTp 100 fTp), (zaI eC ceC 100 feC)]) [0, 1, 2] (by decide) rfl
      have hK9 := hK.sub (tys' := [(cTp, .int), (ceC, .int)]) [0, 1] rfl
      exact W.zret (v := 0) hx hb hr rfl (fun tQ htQ hWQ => ⟨⟨0, (ecd, (ep + 1), em, feC), rfl, Or.inr ⟨rfl, pt_2 hx6 hx3, by omega, by omega, by first | omega | (have := (hXT).2.1; omega), zeC⟩, by rw [htQ]; exact hP9, va_K.moved hWQ.alike hK9, hD9⟩, hS.F htQ⟩) hS.2.2 dX5_readTest_43
    · skip
      have hu2 : u2 < 3 := hu2
      have hx3 := ax3_y hu2 h_12
      have hlu2 : ep + 1 < ez := Nat.lt_of_not_le (fun z => by have h1 := gX.2.1 _ z; have h2 := sTx_ch (i := 5) (by decide) (k := u2) hu2; omega)
      refine lv_istore_n (lv' := [(2, .int (nI u2)), (1, .int (nI u1)), (0, .ref bl)]) hx hb dX5_readTest_37 rfl hl (by decide) rfl (fun ls hl => ?_)
      refine lv_iload_n hx hb dX5_readTest_38 rfl (lv_at hl 0 rfl) ?_
      refine lv_if_ge (tgt := 44) hx hb dX5_readTest_39 (by decide) (fun c_14 => ?_) (fun c_14 => absurd c_14 (fun z9 => z9 (Int32.not_lt.mp (nI_pos (by omega)))))
      have c_14 : 0 ≤ u2 := (nI_leI (a := 0) (b := u2) (by omega) (by omega)).mp c_14
      refine lv_aload_n hx hb dX5_readTest_44 rfl (lv_at hl 2 rfl) ?_
      refine lv_dup hx hb dX5_readTest_45 rfl ?_
      refine va_get (D := (dC, dI)) (ci := 7) (v := .int (nI (ep + 1))) (C := RX5) (T := TX5) (N := 11) hx hb hts kc_readTest_0 hown hK hP 0 rfl rfl 9 (by decide) (hts (.fieldLink RX5 34 "MistHeaps$Hill" "at" "I") kc_readTest_1) (fun _ h9 => h9) rfl dX5_readTest_46 ?_
      refine lv_iconst (v := 1) hx hb dX5_readTest_49 (by decide) ?_
      refine lv_iadd hx hb dX5_readTest_50 ?_
      refine qi_as (y := nI ((ep + 1) + 1)) (nI_add (ep + 1) 1) ?_
      refine va_put (D := (dC, dI)) (ci := 7) (v := .int (nI ((ep + 1) + 1))) (ty := .int) (C := RX5) (T := TX5) (N := 11) hx hb hts kc_readTest_0 tyX5 tyX5_ok nmX5 hown hK hP hD hS 0 rfl rfl 9 (by decide) (hts (.fieldLink RX5 34 "MistHeaps$Hill" "at" "I") kc_readTest_1) (fun _ h9 => h9) rfl (by decide +kernel) rfl rfl (Nat.le_of_ble_eq_true rfl) dX5_readTest_51 (fun H locs hP hD hS => ?_)
      have hP : va_P (dC, dI) vwCl [(zo7iirrrririii bl esg (nI ecl) eW eA eE eC (nI ecd) aTp (nI ez) (nI ((ep + 1) + 1)) (nI em)), (zaI aTp cTp 100 fTp), (zaI eC ceC 100 feC)] H := hP
      have hD : va_D A [(zo7iirrrririii bl esg (nI ecl) eW eA eE eC (nI ecd) aTp (nI ez) (nI ((ep + 1) + 1)) (nI em)), (zaI aTp cTp 100 fTp), (zaI eC ceC 100 feC)] := hD
      refine lv_aload_n hx hb dX5_readTest_54 rfl (lv_at hl 2 rfl) ?_
      have hPc := hP.sub (ws' := [(zo7iirrrririii bl esg (nI ecl) eW eA eE eC (nI ecd) aTp (nI ez) (nI ((ep + 1) + 1)) (nI em)), (zaI aTp cTp 100 fTp)]) [0, 1] rfl
      have hDc := hD.sub (ws' := [(zo7iirrrririii bl esg (nI ecl) eW eA eE eC (nI ecd) aTp (nI ez) (nI ((ep + 1) + 1)) (nI em)), (zaI aTp cTp 100 fTp)]) [0, 1] (by decide) rfl
      have hKc := hK.sub (tys' := [(cTp, .int)]) [0] rfl
      have hFc := va_free (wc := [(zo7iirrrririii bl esg (nI ecl) eW eA eE eC (nI ecd) aTp (nI ez) (nI ((ep + 1) + 1)) (nI em)), (zaI aTp cTp 100 fTp)]) hD hS hA [0, 1] rfl
      refine va_calli (va_runV (As := []) (rest := []) ⟨hx, hb, hml, hown, hts⟩ (c_xReadNumber l dC dI bl aTp eW eA eE eC ecl ecd esg cTp fTp ez ((ep + 1) + 1) em ss H.size (hez) (by omega) (gX)) (cwV 0 hts gX5_readTest_X5_readNumber rfl rfl rfl hd_yX5_readNumber ⟨Nat.le_of_ble_eq_true rfl, Nat.le_of_ble_eq_true rfl⟩) ⟨fun a U g mk q => by obtain ⟨q0, q1, qP, qK, qD⟩ := q; exact ⟨q0, mvz g mk a q1, mvP g mk a qP, mvK g mk a qK, qD⟩, va_recv hK hP (ci := 7) (q := (RX5, TX5, 11)) (q0 := 0) rfl rfl, fun U hU hW => ⟨rfl, by rw [hU], by rw [hU]; exact hPc, va_K.moved hW.alike hKc, hDc.weaken (fun _ _ _ _ => trivial)⟩⟩ rfl rfl hl.1 rfl (lv_room (Nat.le_of_ble_eq_true rfl)) dX5_readTest_55 ⟨Nat.le_of_ble_eq_true rfl, Nat.le_of_ble_eq_true rfl⟩) hS (fun q _ h => hFc q h) hFc (fun r_15 u tC H1 locs htC hvm hw_16 hB hz1 hk1 hS => ?_)
      obtain ⟨ep9_17, em9_18⟩ := u
      try dsimp only at hw_16 hB
      obtain ⟨hP1, hK1, hD1⟩ := hB
      rw [htC] at hP1
      have hK1 := va_K.moved hvm.symm hK1
      obtain ⟨hP, hD⟩ := va_join (wr := [(zaI eC ceC 100 feC)]) (w1 := [(zo7iirrrririii bl esg (nI ecl) eW eA eE eC (nI ecd) aTp (nI ez) (nI ep9_17) (nI em9_18)), (zaI aTp cTp 100 fTp)]) hP hD [0, 1] [2] rfl rfl (by decide) (by decide) hk1 hFc hP1 hD1
      have hK := (hK.sub (tys' := [(ceC, .int)]) [1] rfl).app hK1
      generalize H1 = H at hP hS ⊢
      have hP : va_P (dC, dI) vwCl [(zaI eC ceC 100 feC), (zo7iirrrririii bl esg (nI ecl) eW eA eE eC (nI ecd) aTp (nI ez) (nI ep9_17) (nI em9_18)), (zaI aTp cTp 100 fTp)] H := hP
      have hD : va_D A [(zaI eC ceC 100 feC), (zo7iirrrririii bl esg (nI ecl) eW eA eE eC (nI ecd) aTp (nI ez) (nI ep9_17) (nI em9_18)), (zaI aTp cTp 100 fTp)] := hD
      have hK : va_K (dC, dI) vwCl [(ceC, .int), (cTp, .int)] s := hK
      rcases hw_16 with ⟨rfl, hN, h_19, h_20, h_21⟩ | ⟨rfl, hN, h_19, h_20⟩
      · skip
        refine lv_if_ne (tgt := 63) hx hb dX5_readTest_58 (by decide) (fun _ => ?_) (fun c_22 => absurd c_22 (by decide))
        refine lv_aload_n hx hb dX5_readTest_63 rfl (lv_at hl 2 rfl) ?_
        refine lv_iload_n hx hb dX5_readTest_64 rfl (lv_at hl 1 rfl) ?_
        refine lv_sipush (v := 300) hx hb dX5_readTest_65 (by decide) ?_
        refine lv_imul hx hb dX5_readTest_68 ?_
        refine qi_as (y := nI (u1 * 300)) (pk_mul u1 300) ?_
        refine lv_iload_n hx hb dX5_readTest_69 rfl (lv_at hl 0 rfl) ?_
        refine lv_bipush (v := 100) hx hb dX5_readTest_70 (by decide) ?_
        refine lv_imul hx hb dX5_readTest_72 ?_
        refine qi_as (y := nI (u2 * 100)) (pk_mul u2 100) ?_
        refine lv_iadd hx hb dX5_readTest_73 ?_
        refine qi_as (y := nI ((u1 * 300) + (u2 * 100))) (nI_add (u1 * 300) (u2 * 100)) ?_
        refine lv_aload_n hx hb dX5_readTest_74 rfl (lv_at hl 2 rfl) ?_
        refine va_get (D := (dC, dI)) (ci := 7) (v := .int (nI em9_18)) (C := RX5) (T := TX5) (N := 11) hx hb hts kc_readTest_0 hown hK hP 1 rfl rfl 10 (by decide) (hts (.fieldLink RX5 48 "MistHeaps$Hill" "number" "I") kc_readTest_2) (fun _ h9 => h9) rfl dX5_readTest_75 ?_
        refine lv_iadd hx hb dX5_readTest_78 ?_
        refine qi_as (y := nI (((u1 * 300) + (u2 * 100)) + em9_18)) (nI_add ((u1 * 300) + (u2 * 100)) em9_18) ?_
        have hPc := hP.sub (ws' := [(zo7iirrrririii bl esg (nI ecl) eW eA eE eC (nI ecd) aTp (nI ez) (nI ep9_17) (nI em9_18)), (zaI eC ceC 100 feC)]) [1, 0] rfl
        have hDc := hD.sub (ws' := [(zo7iirrrririii bl esg (nI ecl) eW eA eE eC (nI ecd) aTp (nI ez) (nI ep9_17) (nI em9_18)), (zaI eC ceC 100 feC)]) [1, 0] (by decide) rfl
        have hKc := hK.sub (tys' := [(ceC, .int)]) [0] rfl
        have hFc := va_free (wc := [(zo7iirrrririii bl esg (nI ecl) eW eA eE eC (nI ecd) aTp (nI ez) (nI ep9_17) (nI em9_18)), (zaI eC ceC 100 feC)]) hD hS hA [1, 0] rfl
        refine va_callv (va_runV (As := [.int (nI (((u1 * 300) + (u2 * 100)) + em9_18))]) (rest := []) ⟨hx, hb, hml, hown, hts⟩ (c_xCode l dC dI bl aTp eW eA eE eC ecl ecd (nI (((u1 * 300) + (u2 * 100)) + em9_18)) esg ceC feC ez ep9_17 em9_18 kt (u1 * 300 + u2 * 100 + em9_18) H.size ((hXT).mono (by omega)) (by have h6 := (hXT).1; have h7 := (hXT).2.1; have h8 := hXT.1; have h9 := hXT.2.1; (try simp only [List.length_append] at h6); omega) (zeC) (Or.inr (Or.inr (Or.inr ⟨_, by omega, rfl⟩))) (ccd_t (by omega))) (cwV 1 hts gX5_readTest_X5_code rfl rfl rfl hd_yX5_code ⟨Nat.le_of_ble_eq_true rfl, Nat.le_of_ble_eq_true rfl⟩) ⟨fun a U g mk q => by obtain ⟨q0, q1, qP, qK, qD⟩ := q; exact ⟨q0, mvz g mk a q1, mvP g mk a qP, mvK g mk a qK, qD⟩, va_recv hK hP (ci := 7) (q := (RX5, TX5, 11)) (q0 := 1) rfl rfl, fun U hU hW => ⟨rfl, by rw [hU], by rw [hU]; exact hPc, va_K.moved hW.alike hKc, hDc.weaken (fun _ _ _ _ => trivial)⟩⟩ rfl rfl hl.1 rfl (lv_room (Nat.le_of_ble_eq_true rfl)) dX5_readTest_79 ⟨Nat.le_of_ble_eq_true rfl, Nat.le_of_ble_eq_true rfl⟩) hS (fun q _ h => hFc q h) hFc (fun u tC H1 locs htC hvm hw_24 hB hz1 hk1 hS => ?_)
        obtain ⟨ecd9_25, feC9_26⟩ := u
        try dsimp only at hw_24 hB
        obtain ⟨hP1, hK1, hD1⟩ := hB
        rw [htC] at hP1
        have hK1 := va_K.moved hvm.symm hK1
        obtain ⟨hP, hD⟩ := va_join (wr := [(zaI aTp cTp 100 fTp)]) (w1 := [(zo7iirrrririii bl esg (nI ecl) eW eA eE eC (nI ecd9_25) aTp (nI ez) (nI ep9_17) (nI em9_18)), (zaI eC ceC 100 feC9_26)]) hP hD [1, 0] [2] rfl rfl (by decide) (by decide) hk1 hFc hP1 hD1
        have hK := (hK.sub (tys' := [(cTp, .int)]) [1] rfl).app hK1
        generalize H1 = H at hP hS ⊢
        have hP : va_P (dC, dI) vwCl [(zaI aTp cTp 100 fTp), (zo7iirrrririii bl esg (nI ecl) eW eA eE eC (nI ecd9_25) aTp (nI ez) (nI ep9_17) (nI em9_18)), (zaI eC ceC 100 feC9_26)] H := hP
        have hD : va_D A [(zaI aTp cTp 100 fTp), (zo7iirrrririii bl esg (nI ecl) eW eA eE eC (nI ecd9_25) aTp (nI ez) (nI ep9_17) (nI em9_18)), (zaI eC ceC 100 feC9_26)] := hD
        have hK : va_K (dC, dI) vwCl [(cTp, .int), (ceC, .int)] s := hK
        obtain ⟨e_27, hC_28, h_29⟩ := hw_24
        obtain rfl := (e_27).symm
        have hX_30 : XT feC9_26 (ecd + 1) (kt ++ [u1 * 300 + u2 * 100 + em9_18]) (ep9_17) := ⟨by rw [List.length_append, (hXT).1]; rfl, by have h6 := (hXT).1; have h7 := (hXT).2.1; have h8 := hXT.1; have h9 := hXT.2.1; (try simp only [List.length_append] at h6); omega, h_29⟩
        refine lv_iconst (v := 1) hx hb dX5_readTest_82 (by decide) ?_
        rw [hQ]
        have hP9 := hP.sub (ws' := [(zo7iirrrririii bl esg (nI ecl) eW eA eE eC (nI (ecd + 1)) aTp (nI ez) (nI ep9_17) (nI em9_18)), (zaI aTp cTp 100 fTp), (zaI eC ceC 100 feC9_26)]) [1, 0, 2] rfl
        have hD9 := hD.sub (ws' := [(zo7iirrrririii bl esg (nI ecl) eW eA eE eC (nI (ecd + 1)) aTp (nI ez) (nI ep9_17) (nI em9_18)), (zaI aTp cTp 100 fTp), (zaI eC ceC 100 feC9_26)]) [1, 0, 2] (by decide) rfl
        have hK9 := hK.sub (tys' := [(cTp, .int), (ceC, .int)]) [0, 1] rfl
        exact W.zret (v := 1) hx hb hr rfl (fun tQ htQ hWQ => ⟨⟨1, ((ecd + 1), ep9_17, em9_18, feC9_26), rfl, Or.inl ⟨rfl, [u1 * 300 + u2 * 100 + em9_18], pt_4 hx6 hx3 hN, by omega, by omega, by omega, by (try simp only [List.length_append, List.length_cons, List.length_nil]); omega, (hX_30).mono (by omega), hC_28⟩, by rw [htQ]; exact hP9, va_K.moved hWQ.alike hK9, hD9⟩, hS.F htQ⟩) hS.2.2 dX5_readTest_83
      · skip
        obtain rfl := (h_19).symm
        obtain rfl := (h_20).symm
        refine lv_if_ne (tgt := 63) hx hb dX5_readTest_58 (by decide) (fun c_31 => absurd c_31 (by decide)) (fun _ => ?_)
        refine lv_iconst (v := 0) hx hb dX5_readTest_61 (by decide) ?_
        rw [hQ]
        have hP9 := hP.sub (ws' := [(zo7iirrrririii bl esg (nI ecl) eW eA eE eC (nI ecd) aTp (nI ez) (nI ((ep + 1) + 1)) (nI em)), (zaI aTp cTp 100 fTp), (zaI eC ceC 100 feC)]) [1, 2, 0] rfl
        have hD9 := hD.sub (ws' := [(zo7iirrrririii bl esg (nI ecl) eW eA eE eC (nI ecd) aTp (nI ez) (nI ((ep + 1) + 1)) (nI em)), (zaI aTp cTp 100 fTp), (zaI eC ceC 100 feC)]) [1, 2, 0] (by decide) rfl
        have hK9 := hK.sub (tys' := [(cTp, .int), (ceC, .int)]) [1, 0] rfl
        exact W.zret (v := 0) hx hb hr rfl (fun tQ htQ hWQ => ⟨⟨0, (ecd, ((ep + 1) + 1), em, feC), rfl, Or.inr ⟨rfl, pt_3 hx6 hx3 hN, by omega, by omega, by first | omega | (have := (hXT).2.1; omega), zeC⟩, by rw [htQ]; exact hP9, va_K.moved hWQ.alike hK9, hD9⟩, hS.F htQ⟩) hS.2.2 dX5_readTest_62
end mg15c
