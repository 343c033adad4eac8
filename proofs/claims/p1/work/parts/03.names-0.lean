theorem dX0_init_0 : decode cX0_init 0 = .ok (.aload_n 0, 1) := by decide +kernel
theorem dX0_init_1 : decode cX0_init 1 = .ok (.invokespecial 3, 3) := by decide +kernel
theorem dX0_init_4 : decode cX0_init 4 = .ok (.aload_n 0, 1) := by decide +kernel
theorem dX0_init_5 : decode cX0_init 5 = .ok (.bipush 36, 2) := by decide +kernel
theorem dX0_init_7 : decode cX0_init 7 = .ok (.newarray .int, 2) := by decide +kernel
theorem dX0_init_9 : decode cX0_init 9 = .ok (.putfield 9, 3) := by decide +kernel
theorem dX0_init_12 : decode cX0_init 12 = .ok (.aload_n 0, 1) := by decide +kernel
theorem dX0_init_13 : decode cX0_init 13 = .ok (.iconst 3, 1) := by decide +kernel
theorem dX0_init_14 : decode cX0_init 14 = .ok (.bipush 36, 2) := by decide +kernel
theorem dX0_init_16 : decode cX0_init 16 = .ok (.multianewarray 15 2, 4) := by decide +kernel
theorem dX0_init_20 : decode cX0_init 20 = .ok (.putfield 17, 3) := by decide +kernel
theorem dX0_init_23 : decode cX0_init 23 = .ok (.aload_n 0, 1) := by decide +kernel
theorem dX0_init_24 : decode cX0_init 24 = .ok (.bipush 8, 2) := by decide +kernel
theorem dX0_init_26 : decode cX0_init 26 = .ok (.bipush 36, 2) := by decide +kernel
theorem dX0_init_28 : decode cX0_init 28 = .ok (.multianewarray 20 2, 4) := by decide +kernel
theorem dX0_init_32 : decode cX0_init 32 = .ok (.putfield 22, 3) := by decide +kernel
theorem dX0_init_35 : decode cX0_init 35 = .ok (.return_, 1) := by decide +kernel
theorem dX0_timesOf_0 : decode cX0_timesOf 0 = .ok (.lconst 1, 1) := by decide +kernel
theorem dX0_timesOf_1 : decode cX0_timesOf 1 = .ok (.lstore_n 1, 1) := by decide +kernel
theorem dX0_timesOf_2 : decode cX0_timesOf 2 = .ok (.iconst 0, 1) := by decide +kernel
theorem dX0_timesOf_3 : decode cX0_timesOf 3 = .ok (.istore_n 3, 1) := by decide +kernel
theorem dX0_timesOf_4 : decode cX0_timesOf 4 = .ok (.iload_n 3, 1) := by decide +kernel
theorem dX0_timesOf_5 : decode cX0_timesOf 5 = .ok (.iload_n 0, 1) := by decide +kernel
theorem dX0_timesOf_6 : decode cX0_timesOf 6 = .ok (.if_icmp .ge 15, 3) := by decide +kernel
theorem dX0_timesOf_9 : decode cX0_timesOf 9 = .ok (.lload_n 1, 1) := by decide +kernel
theorem dX0_timesOf_10 : decode cX0_timesOf 10 = .ok (.ldc2_w 25, 3) := by decide +kernel
theorem dX0_timesOf_13 : decode cX0_timesOf 13 = .ok (.lmul, 1) := by decide +kernel
theorem dX0_timesOf_14 : decode cX0_timesOf 14 = .ok (.lstore_n 1, 1) := by decide +kernel
theorem dX0_timesOf_15 : decode cX0_timesOf 15 = .ok (.iinc 3 1, 3) := by decide +kernel
theorem dX0_timesOf_18 : decode cX0_timesOf 18 = .ok (.goto (-14), 3) := by decide +kernel
theorem dX0_timesOf_21 : decode cX0_timesOf 21 = .ok (.lload_n 1, 1) := by decide +kernel
theorem dX0_timesOf_22 : decode cX0_timesOf 22 = .ok (.lreturn, 1) := by decide +kernel
set_option maxRecDepth 20000 in
theorem ggX0_walked_X0_begin : GoodIn wsX0_walked wsX0_begin := goodIn_r _ [8, 9, 2, 10, 11, 12, 13, 14, 15, 16, 17, 18, 19, 20, 21, 22, 23, 24, 25, 26, 27, 28, 29, 30, 31, 32, 33, 34, 35, 36, 37, 38, 39, 40, 41, 42, 43, 44, 45, 46, 47, 48, 80, 81, 82, 83, 84, 66, 67, 68, 69, 70, 71, 72, 73, 74, 75, 76, 77, 78, 79, 85, 86, 87, 88, 89, 90, 91, 92, 93, 94, 95] (by decide +kernel) (by decide +kernel)
set_option maxRecDepth 20000 in
theorem gX0_walked_X0_begin : GoodIn wsX0_walked (wsV RX0 27 RX0 yX0_begin wsX0_begin) := goodIn_app (goodIn_of _ (by decide +kernel)) ggX0_walked_X0_begin
set_option maxRecDepth 20000 in
theorem ggX0_walked_X0_spread : GoodIn wsX0_walked wsX0_spread := goodIn_r _ [52, 53, 54, 9, 55, 28, 56, 57, 58, 59, 60, 61, 27, 29, 62, 30, 31, 63, 64, 65, 66, 67, 68, 69, 70, 71, 72, 73, 74, 75, 76, 77, 78, 79, 80, 81, 82, 83, 84] (by decide +kernel) (by decide +kernel)
set_option maxRecDepth 20000 in
theorem gX0_walked_X0_spread : GoodIn wsX0_walked (wsV RX0 40 RX0 yX0_spread wsX0_spread) := goodIn_app (goodIn_of _ (by decide +kernel)) ggX0_walked_X0_spread
set_option maxRecDepth 20000 in
theorem ggX0_walked_X11_isIn : GoodIn wsX0_walked wsX11_isIn := goodIn_r _ [56] (by decide +kernel) (by decide +kernel)
set_option maxRecDepth 20000 in
theorem gX0_walked_X11_isIn_n44 : GoodIn wsX0_walked (wsX11_isIn) := ggX0_walked_X11_isIn
theorem dX0_walked_0 : decode cX0_walked 0 = .ok (.aload_n 0, 1) := by decide +kernel
theorem dX0_walked_1 : decode cX0_walked 1 = .ok (.aload_n 1, 1) := by decide +kernel
theorem dX0_walked_2 : decode cX0_walked 2 = .ok (.iload_n 2, 1) := by decide +kernel
theorem dX0_walked_3 : decode cX0_walked 3 = .ok (.invokevirtual 27, 3) := by decide +kernel
theorem dX0_walked_6 : decode cX0_walked 6 = .ok (.iconst 0, 1) := by decide +kernel
theorem dX0_walked_7 : decode cX0_walked 7 = .ok (.istore 5, 2) := by decide +kernel
theorem dX0_walked_9 : decode cX0_walked 9 = .ok (.iload 5, 2) := by decide +kernel
theorem dX0_walked_11 : decode cX0_walked 11 = .ok (.aload_n 1, 1) := by decide +kernel
theorem dX0_walked_12 : decode cX0_walked 12 = .ok (.getfield 31, 3) := by decide +kernel
theorem dX0_walked_15 : decode cX0_walked 15 = .ok (.if_icmp .ge 41, 3) := by decide +kernel
theorem dX0_walked_18 : decode cX0_walked 18 = .ok (.aload_n 0, 1) := by decide +kernel
theorem dX0_walked_19 : decode cX0_walked 19 = .ok (.aload_n 1, 1) := by decide +kernel
theorem dX0_walked_20 : decode cX0_walked 20 = .ok (.aload_n 0, 1) := by decide +kernel
theorem dX0_walked_21 : decode cX0_walked 21 = .ok (.getfield 17, 3) := by decide +kernel
theorem dX0_walked_24 : decode cX0_walked 24 = .ok (.iload 5, 2) := by decide +kernel
theorem dX0_walked_26 : decode cX0_walked 26 = .ok (.iconst 1, 1) := by decide +kernel
theorem dX0_walked_27 : decode cX0_walked 27 = .ok (.iand, 1) := by decide +kernel
theorem dX0_walked_28 : decode cX0_walked 28 = .ok (.aaload, 1) := by decide +kernel
theorem dX0_walked_29 : decode cX0_walked 29 = .ok (.aload_n 1, 1) := by decide +kernel
theorem dX0_walked_30 : decode cX0_walked 30 = .ok (.getfield 37, 3) := by decide +kernel
theorem dX0_walked_33 : decode cX0_walked 33 = .ok (.iload 5, 2) := by decide +kernel
theorem dX0_walked_35 : decode cX0_walked 35 = .ok (.iaload, 1) := by decide +kernel
theorem dX0_walked_36 : decode cX0_walked 36 = .ok (.aload_n 0, 1) := by decide +kernel
theorem dX0_walked_37 : decode cX0_walked 37 = .ok (.getfield 17, 3) := by decide +kernel
theorem dX0_walked_40 : decode cX0_walked 40 = .ok (.iload 5, 2) := by decide +kernel
theorem dX0_walked_42 : decode cX0_walked 42 = .ok (.iconst 1, 1) := by decide +kernel
theorem dX0_walked_43 : decode cX0_walked 43 = .ok (.iadd, 1) := by decide +kernel
theorem dX0_walked_44 : decode cX0_walked 44 = .ok (.iconst 1, 1) := by decide +kernel
theorem dX0_walked_45 : decode cX0_walked 45 = .ok (.iand, 1) := by decide +kernel
theorem dX0_walked_46 : decode cX0_walked 46 = .ok (.aaload, 1) := by decide +kernel
theorem dX0_walked_47 : decode cX0_walked 47 = .ok (.invokevirtual 40, 3) := by decide +kernel
theorem dX0_walked_50 : decode cX0_walked 50 = .ok (.iinc 5 1, 3) := by decide +kernel
theorem dX0_walked_53 : decode cX0_walked 53 = .ok (.goto (-44), 3) := by decide +kernel
theorem dX0_walked_56 : decode cX0_walked 56 = .ok (.aload_n 0, 1) := by decide +kernel
theorem dX0_walked_57 : decode cX0_walked 57 = .ok (.getfield 17, 3) := by decide +kernel
theorem dX0_walked_60 : decode cX0_walked 60 = .ok (.aload_n 1, 1) := by decide +kernel
theorem dX0_walked_61 : decode cX0_walked 61 = .ok (.getfield 31, 3) := by decide +kernel
theorem dX0_walked_64 : decode cX0_walked 64 = .ok (.iconst 1, 1) := by decide +kernel
theorem dX0_walked_65 : decode cX0_walked 65 = .ok (.iand, 1) := by decide +kernel
theorem dX0_walked_66 : decode cX0_walked 66 = .ok (.aaload, 1) := by decide +kernel
theorem dX0_walked_67 : decode cX0_walked 67 = .ok (.astore 5, 2) := by decide +kernel
theorem dX0_walked_69 : decode cX0_walked 69 = .ok (.lconst 0, 1) := by decide +kernel
theorem dX0_walked_70 : decode cX0_walked 70 = .ok (.lstore 6, 2) := by decide +kernel
theorem dX0_walked_72 : decode cX0_walked 72 = .ok (.iconst 0, 1) := by decide +kernel
theorem dX0_walked_73 : decode cX0_walked 73 = .ok (.istore 8, 2) := by decide +kernel
theorem dX0_walked_75 : decode cX0_walked 75 = .ok (.iload 8, 2) := by decide +kernel
theorem dX0_walked_77 : decode cX0_walked 77 = .ok (.bipush 36, 2) := by decide +kernel
theorem dX0_walked_79 : decode cX0_walked 79 = .ok (.if_icmp .ge 28, 3) := by decide +kernel
theorem dX0_walked_82 : decode cX0_walked 82 = .ok (.lload_n 3, 1) := by decide +kernel
theorem dX0_walked_83 : decode cX0_walked 83 = .ok (.iload 8, 2) := by decide +kernel
theorem dX0_walked_85 : decode cX0_walked 85 = .ok (.invokestatic 44, 3) := by decide +kernel
theorem dX0_walked_88 : decode cX0_walked 88 = .ok (.ifCond .eq 13, 3) := by decide +kernel
theorem dX0_walked_91 : decode cX0_walked 91 = .ok (.lload 6, 2) := by decide +kernel
theorem dX0_walked_93 : decode cX0_walked 93 = .ok (.aload 5, 2) := by decide +kernel
theorem dX0_walked_95 : decode cX0_walked 95 = .ok (.iload 8, 2) := by decide +kernel
theorem dX0_walked_97 : decode cX0_walked 97 = .ok (.laload, 1) := by decide +kernel
theorem dX0_walked_98 : decode cX0_walked 98 = .ok (.ladd, 1) := by decide +kernel
theorem dX0_walked_99 : decode cX0_walked 99 = .ok (.lstore 6, 2) := by decide +kernel
theorem dX0_walked_101 : decode cX0_walked 101 = .ok (.iinc 8 1, 3) := by decide +kernel
theorem dX0_walked_104 : decode cX0_walked 104 = .ok (.goto (-29), 3) := by decide +kernel
theorem dX0_walked_107 : decode cX0_walked 107 = .ok (.lload 6, 2) := by decide +kernel
theorem dX0_walked_109 : decode cX0_walked 109 = .ok (.lreturn, 1) := by decide +kernel
set_option maxRecDepth 20000 in
theorem ggX0_begin_X8_driftOn : GoodIn wsX0_begin wsX8_driftOn := goodIn_r _ [7, 8, 9, 10, 11, 12, 13, 14, 15, 16, 17, 6, 18, 19, 20, 21, 22, 23, 24, 25, 26, 27, 28, 29, 30, 31, 32, 33, 34, 35, 36, 37, 38, 39, 40, 41, 47, 48, 49, 50, 51, 52, 53, 54, 55, 56, 57, 58, 59, 60, 61, 62, 63, 64, 65, 66, 67, 68, 69, 70, 71] (by decide +kernel) (by decide +kernel)
set_option maxRecDepth 20000 in
theorem gX0_begin_X8_driftOn : GoodIn wsX0_begin (wsV RX0 48 RX8 yX8_driftOn wsX8_driftOn) := goodIn_app (goodIn_of _ (by decide +kernel)) ggX0_begin_X8_driftOn
theorem dX0_begin_0 : decode cX0_begin 0 = .ok (.iconst 0, 1) := by decide +kernel
theorem dX0_begin_1 : decode cX0_begin 1 = .ok (.istore_n 3, 1) := by decide +kernel
theorem dX0_begin_2 : decode cX0_begin 2 = .ok (.iload_n 3, 1) := by decide +kernel
theorem dX0_begin_3 : decode cX0_begin 3 = .ok (.bipush 36, 2) := by decide +kernel
theorem dX0_begin_5 : decode cX0_begin 5 = .ok (.if_icmp .ge 38, 3) := by decide +kernel
theorem dX0_begin_8 : decode cX0_begin 8 = .ok (.aload_n 0, 1) := by decide +kernel
theorem dX0_begin_9 : decode cX0_begin 9 = .ok (.getfield 9, 3) := by decide +kernel
theorem dX0_begin_12 : decode cX0_begin 12 = .ok (.iload_n 3, 1) := by decide +kernel
theorem dX0_begin_13 : decode cX0_begin 13 = .ok (.aload_n 1, 1) := by decide +kernel
theorem dX0_begin_14 : decode cX0_begin 14 = .ok (.iload_n 3, 1) := by decide +kernel
theorem dX0_begin_15 : decode cX0_begin 15 = .ok (.invokevirtual 48, 3) := by decide +kernel
theorem dX0_begin_18 : decode cX0_begin 18 = .ok (.iastore, 1) := by decide +kernel
theorem dX0_begin_19 : decode cX0_begin 19 = .ok (.aload_n 0, 1) := by decide +kernel
theorem dX0_begin_20 : decode cX0_begin 20 = .ok (.getfield 17, 3) := by decide +kernel
theorem dX0_begin_23 : decode cX0_begin 23 = .ok (.iconst 0, 1) := by decide +kernel
theorem dX0_begin_24 : decode cX0_begin 24 = .ok (.aaload, 1) := by decide +kernel
theorem dX0_begin_25 : decode cX0_begin 25 = .ok (.iload_n 3, 1) := by decide +kernel
theorem dX0_begin_26 : decode cX0_begin 26 = .ok (.iload_n 3, 1) := by decide +kernel
theorem dX0_begin_27 : decode cX0_begin 27 = .ok (.iload_n 2, 1) := by decide +kernel
theorem dX0_begin_28 : decode cX0_begin 28 = .ok (.if_icmp .ne 7, 3) := by decide +kernel
theorem dX0_begin_31 : decode cX0_begin 31 = .ok (.lconst 1, 1) := by decide +kernel
theorem dX0_begin_32 : decode cX0_begin 32 = .ok (.goto 4, 3) := by decide +kernel
theorem dX0_begin_35 : decode cX0_begin 35 = .ok (.lconst 0, 1) := by decide +kernel
theorem dX0_begin_36 : decode cX0_begin 36 = .ok (.lastore, 1) := by decide +kernel
theorem dX0_begin_37 : decode cX0_begin 37 = .ok (.iinc 3 1, 3) := by decide +kernel
theorem dX0_begin_40 : decode cX0_begin 40 = .ok (.goto (-38), 3) := by decide +kernel
theorem dX0_begin_43 : decode cX0_begin 43 = .ok (.return_, 1) := by decide +kernel
set_option maxRecDepth 20000 in
theorem ggX0_spread_X11_isIn : GoodIn wsX0_spread wsX11_isIn := goodIn_r _ [6] (by decide +kernel) (by decide +kernel)
set_option maxRecDepth 20000 in
theorem gX0_spread_X11_isIn_n44 : GoodIn wsX0_spread (wsX11_isIn) := ggX0_spread_X11_isIn
set_option maxRecDepth 20000 in
theorem ggX0_spread_X11_besideOrSame : GoodIn wsX0_spread wsX11_besideOrSame := goodIn_r _ [8, 9, 10, 11, 12, 5, 13, 14, 15, 16, 17, 18, 19] (by decide +kernel) (by decide +kernel)
set_option maxRecDepth 20000 in
theorem gX0_spread_X11_besideOrSame_n56 : GoodIn wsX0_spread (wsX11_besideOrSame) := ggX0_spread_X11_besideOrSame
theorem dX0_spread_0 : decode cX0_spread 0 = .ok (.iconst 0, 1) := by decide +kernel
theorem dX0_spread_1 : decode cX0_spread 1 = .ok (.istore 5, 2) := by decide +kernel
theorem dX0_spread_3 : decode cX0_spread 3 = .ok (.iload 5, 2) := by decide +kernel
theorem dX0_spread_5 : decode cX0_spread 5 = .ok (.bipush 36, 2) := by decide +kernel
theorem dX0_spread_7 : decode cX0_spread 7 = .ok (.if_icmp .ge 15, 3) := by decide +kernel
theorem dX0_spread_10 : decode cX0_spread 10 = .ok (.aload 4, 2) := by decide +kernel
theorem dX0_spread_12 : decode cX0_spread 12 = .ok (.iload 5, 2) := by decide +kernel
theorem dX0_spread_14 : decode cX0_spread 14 = .ok (.lconst 0, 1) := by decide +kernel
theorem dX0_spread_15 : decode cX0_spread 15 = .ok (.lastore, 1) := by decide +kernel
theorem dX0_spread_16 : decode cX0_spread 16 = .ok (.iinc 5 1, 3) := by decide +kernel
theorem dX0_spread_19 : decode cX0_spread 19 = .ok (.goto (-16), 3) := by decide +kernel
theorem dX0_spread_22 : decode cX0_spread 22 = .ok (.iconst 0, 1) := by decide +kernel
theorem dX0_spread_23 : decode cX0_spread 23 = .ok (.istore 5, 2) := by decide +kernel
theorem dX0_spread_25 : decode cX0_spread 25 = .ok (.iload 5, 2) := by decide +kernel
theorem dX0_spread_27 : decode cX0_spread 27 = .ok (.bipush 36, 2) := by decide +kernel
theorem dX0_spread_29 : decode cX0_spread 29 = .ok (.if_icmp .ge 133, 3) := by decide +kernel
theorem dX0_spread_32 : decode cX0_spread 32 = .ok (.aload_n 2, 1) := by decide +kernel
theorem dX0_spread_33 : decode cX0_spread 33 = .ok (.iload 5, 2) := by decide +kernel
theorem dX0_spread_35 : decode cX0_spread 35 = .ok (.laload, 1) := by decide +kernel
theorem dX0_spread_36 : decode cX0_spread 36 = .ok (.lstore 6, 2) := by decide +kernel
theorem dX0_spread_38 : decode cX0_spread 38 = .ok (.lload 6, 2) := by decide +kernel
theorem dX0_spread_40 : decode cX0_spread 40 = .ok (.lconst 0, 1) := by decide +kernel
theorem dX0_spread_41 : decode cX0_spread 41 = .ok (.lcmp, 1) := by decide +kernel
theorem dX0_spread_42 : decode cX0_spread 42 = .ok (.ifCond .ne 6, 3) := by decide +kernel
theorem dX0_spread_45 : decode cX0_spread 45 = .ok (.goto 111, 3) := by decide +kernel
theorem dX0_spread_48 : decode cX0_spread 48 = .ok (.aload_n 1, 1) := by decide +kernel
theorem dX0_spread_49 : decode cX0_spread 49 = .ok (.getfield 52, 3) := by decide +kernel
theorem dX0_spread_52 : decode cX0_spread 52 = .ok (.iload 5, 2) := by decide +kernel
theorem dX0_spread_54 : decode cX0_spread 54 = .ok (.invokestatic 44, 3) := by decide +kernel
theorem dX0_spread_57 : decode cX0_spread 57 = .ok (.ifCond .eq 20, 3) := by decide +kernel
theorem dX0_spread_60 : decode cX0_spread 60 = .ok (.aload 4, 2) := by decide +kernel
theorem dX0_spread_62 : decode cX0_spread 62 = .ok (.iload 5, 2) := by decide +kernel
theorem dX0_spread_64 : decode cX0_spread 64 = .ok (.dup2, 1) := by decide +kernel
theorem dX0_spread_65 : decode cX0_spread 65 = .ok (.laload, 1) := by decide +kernel
theorem dX0_spread_66 : decode cX0_spread 66 = .ok (.lload 6, 2) := by decide +kernel
theorem dX0_spread_68 : decode cX0_spread 68 = .ok (.ldc2_w 25, 3) := by decide +kernel
theorem dX0_spread_71 : decode cX0_spread 71 = .ok (.lmul, 1) := by decide +kernel
theorem dX0_spread_72 : decode cX0_spread 72 = .ok (.ladd, 1) := by decide +kernel
theorem dX0_spread_73 : decode cX0_spread 73 = .ok (.lastore, 1) := by decide +kernel
theorem dX0_spread_74 : decode cX0_spread 74 = .ok (.goto 82, 3) := by decide +kernel
theorem dX0_spread_77 : decode cX0_spread 77 = .ok (.aload_n 0, 1) := by decide +kernel
theorem dX0_spread_78 : decode cX0_spread 78 = .ok (.getfield 9, 3) := by decide +kernel
theorem dX0_spread_81 : decode cX0_spread 81 = .ok (.iload 5, 2) := by decide +kernel
theorem dX0_spread_83 : decode cX0_spread 83 = .ok (.iaload, 1) := by decide +kernel
theorem dX0_spread_84 : decode cX0_spread 84 = .ok (.istore 8, 2) := by decide +kernel
theorem dX0_spread_86 : decode cX0_spread 86 = .ok (.aload 4, 2) := by decide +kernel
theorem dX0_spread_88 : decode cX0_spread 88 = .ok (.iload 5, 2) := by decide +kernel
theorem dX0_spread_90 : decode cX0_spread 90 = .ok (.iload_n 3, 1) := by decide +kernel
theorem dX0_spread_91 : decode cX0_spread 91 = .ok (.invokestatic 56, 3) := by decide +kernel
theorem dX0_spread_94 : decode cX0_spread 94 = .ok (.dup2, 1) := by decide +kernel
theorem dX0_spread_95 : decode cX0_spread 95 = .ok (.laload, 1) := by decide +kernel
theorem dX0_spread_96 : decode cX0_spread 96 = .ok (.lload 6, 2) := by decide +kernel
theorem dX0_spread_98 : decode cX0_spread 98 = .ok (.bipush 20, 2) := by decide +kernel
theorem dX0_spread_100 : decode cX0_spread 100 = .ok (.iconst 2, 1) := by decide +kernel
theorem dX0_spread_101 : decode cX0_spread 101 = .ok (.iload 8, 2) := by decide +kernel
theorem dX0_spread_103 : decode cX0_spread 103 = .ok (.imul, 1) := by decide +kernel
theorem dX0_spread_104 : decode cX0_spread 104 = .ok (.isub, 1) := by decide +kernel
theorem dX0_spread_105 : decode cX0_spread 105 = .ok (.i2l, 1) := by decide +kernel
theorem dX0_spread_106 : decode cX0_spread 106 = .ok (.lmul, 1) := by decide +kernel
theorem dX0_spread_107 : decode cX0_spread 107 = .ok (.ladd, 1) := by decide +kernel
theorem dX0_spread_108 : decode cX0_spread 108 = .ok (.lastore, 1) := by decide +kernel
theorem dX0_spread_109 : decode cX0_spread 109 = .ok (.aload 4, 2) := by decide +kernel
theorem dX0_spread_111 : decode cX0_spread 111 = .ok (.iload 5, 2) := by decide +kernel
theorem dX0_spread_113 : decode cX0_spread 113 = .ok (.iload_n 3, 1) := by decide +kernel
theorem dX0_spread_114 : decode cX0_spread 114 = .ok (.bipush 7, 2) := by decide +kernel
theorem dX0_spread_116 : decode cX0_spread 116 = .ok (.iadd, 1) := by decide +kernel
theorem dX0_spread_117 : decode cX0_spread 117 = .ok (.bipush 7, 2) := by decide +kernel
theorem dX0_spread_119 : decode cX0_spread 119 = .ok (.iand, 1) := by decide +kernel
theorem dX0_spread_120 : decode cX0_spread 120 = .ok (.invokestatic 56, 3) := by decide +kernel
theorem dX0_spread_123 : decode cX0_spread 123 = .ok (.dup2, 1) := by decide +kernel
theorem dX0_spread_124 : decode cX0_spread 124 = .ok (.laload, 1) := by decide +kernel
theorem dX0_spread_125 : decode cX0_spread 125 = .ok (.lload 6, 2) := by decide +kernel
theorem dX0_spread_127 : decode cX0_spread 127 = .ok (.iload 8, 2) := by decide +kernel
theorem dX0_spread_129 : decode cX0_spread 129 = .ok (.i2l, 1) := by decide +kernel
theorem dX0_spread_130 : decode cX0_spread 130 = .ok (.lmul, 1) := by decide +kernel
theorem dX0_spread_131 : decode cX0_spread 131 = .ok (.ladd, 1) := by decide +kernel
theorem dX0_spread_132 : decode cX0_spread 132 = .ok (.lastore, 1) := by decide +kernel
theorem dX0_spread_133 : decode cX0_spread 133 = .ok (.aload 4, 2) := by decide +kernel
theorem dX0_spread_135 : decode cX0_spread 135 = .ok (.iload 5, 2) := by decide +kernel
theorem dX0_spread_137 : decode cX0_spread 137 = .ok (.iload_n 3, 1) := by decide +kernel
theorem dX0_spread_138 : decode cX0_spread 138 = .ok (.iconst 1, 1) := by decide +kernel
theorem dX0_spread_139 : decode cX0_spread 139 = .ok (.iadd, 1) := by decide +kernel
theorem dX0_spread_140 : decode cX0_spread 140 = .ok (.bipush 7, 2) := by decide +kernel
theorem dX0_spread_142 : decode cX0_spread 142 = .ok (.iand, 1) := by decide +kernel
theorem dX0_spread_143 : decode cX0_spread 143 = .ok (.invokestatic 56, 3) := by decide +kernel
theorem dX0_spread_146 : decode cX0_spread 146 = .ok (.dup2, 1) := by decide +kernel
theorem dX0_spread_147 : decode cX0_spread 147 = .ok (.laload, 1) := by decide +kernel
theorem dX0_spread_148 : decode cX0_spread 148 = .ok (.lload 6, 2) := by decide +kernel
theorem dX0_spread_150 : decode cX0_spread 150 = .ok (.iload 8, 2) := by decide +kernel
theorem dX0_spread_152 : decode cX0_spread 152 = .ok (.i2l, 1) := by decide +kernel
theorem dX0_spread_153 : decode cX0_spread 153 = .ok (.lmul, 1) := by decide +kernel
theorem dX0_spread_154 : decode cX0_spread 154 = .ok (.ladd, 1) := by decide +kernel
theorem dX0_spread_155 : decode cX0_spread 155 = .ok (.lastore, 1) := by decide +kernel
theorem dX0_spread_156 : decode cX0_spread 156 = .ok (.iinc 5 1, 3) := by decide +kernel
theorem dX0_spread_159 : decode cX0_spread 159 = .ok (.goto (-134), 3) := by decide +kernel
theorem dX0_spread_162 : decode cX0_spread 162 = .ok (.return_, 1) := by decide +kernel
set_option maxRecDepth 20000 in
theorem ggX0_search_X0_begin : GoodIn wsX0_search wsX0_begin := goodIn_r _ [8, 9, 3, 10, 11, 12, 13, 14, 15, 16, 17, 18, 19, 20, 21, 22, 23, 24, 25, 26, 27, 28, 29, 30, 31, 32, 33, 34, 35, 36, 37, 38, 39, 40, 41, 42, 43, 44, 45, 46, 47, 48, 79, 80, 81, 82, 83, 84, 85, 86, 87, 88, 89, 90, 91, 92, 93, 94, 95, 96, 97, 98, 99, 100, 101, 102, 103, 104, 105, 106, 107, 108] (by decide +kernel) (by decide +kernel)
set_option maxRecDepth 20000 in
theorem gX0_search_X0_begin : GoodIn wsX0_search (wsV RX0 27 RX0 yX0_begin wsX0_begin) := goodIn_app (goodIn_of _ (by decide +kernel)) ggX0_search_X0_begin
set_option maxRecDepth 20000 in
theorem ggX0_search_X0_tellHits : GoodIn wsX0_search wsX0_tellHits := goodIn_r _ [52, 53, 54, 9, 55, 28, 56, 57, 58, 7, 59, 60, 61, 62, 63, 64, 27, 29, 65, 30, 31, 66, 67, 68, 79, 80, 81, 82, 83, 84, 85, 86, 87, 88, 89, 90, 91, 92, 93, 94, 95, 96, 97] (by decide +kernel) (by decide +kernel)
set_option maxRecDepth 20000 in
theorem gX0_search_X0_tellHits : GoodIn wsX0_search (wsV RX0 60 RX0 yX0_tellHits wsX0_tellHits) := goodIn_app (goodIn_of _ (by decide +kernel)) ggX0_search_X0_tellHits
set_option maxRecDepth 20000 in
theorem ggX0_search_X0_spread : GoodIn wsX0_search wsX0_spread := goodIn_r _ [72, 54, 73, 9, 55, 28, 56, 60, 61, 62, 63, 64, 27, 29, 65, 30, 31, 66, 67, 68, 84, 85, 86, 87, 88, 89, 90, 91, 92, 93, 94, 95, 96, 97, 79, 80, 81, 82, 83] (by decide +kernel) (by decide +kernel)
set_option maxRecDepth 20000 in
theorem gX0_search_X0_spread : GoodIn wsX0_search (wsV RX0 40 RX0 yX0_spread wsX0_spread) := goodIn_app (goodIn_of _ (by decide +kernel)) ggX0_search_X0_spread
set_option maxRecDepth 20000 in
theorem ggX0_search_X0_tryLast : GoodIn wsX0_search wsX0_tryLast := goodIn_r _ [77, 53, 2, 78, 79, 80, 81, 82, 83] (by decide +kernel) (by decide +kernel)
set_option maxRecDepth 20000 in
theorem gX0_search_X0_tryLast : GoodIn wsX0_search (wsV RX0 69 RX0 yX0_tryLast wsX0_tryLast) := goodIn_app (goodIn_of _ (by decide +kernel)) ggX0_search_X0_tryLast
theorem dX0_search_0 : decode cX0_search 0 = .ok (.aload_n 0, 1) := by decide +kernel
theorem dX0_search_1 : decode cX0_search 1 = .ok (.aload_n 1, 1) := by decide +kernel
theorem dX0_search_2 : decode cX0_search 2 = .ok (.iload_n 2, 1) := by decide +kernel
theorem dX0_search_3 : decode cX0_search 3 = .ok (.invokevirtual 27, 3) := by decide +kernel
theorem dX0_search_6 : decode cX0_search 6 = .ok (.aload_n 0, 1) := by decide +kernel
theorem dX0_search_7 : decode cX0_search 7 = .ok (.aload_n 1, 1) := by decide +kernel
theorem dX0_search_8 : decode cX0_search 8 = .ok (.lload_n 3, 1) := by decide +kernel
theorem dX0_search_9 : decode cX0_search 9 = .ok (.invokevirtual 60, 3) := by decide +kernel
theorem dX0_search_12 : decode cX0_search 12 = .ok (.aload_n 0, 1) := by decide +kernel
theorem dX0_search_13 : decode cX0_search 13 = .ok (.ldc2_w 64, 3) := by decide +kernel
theorem dX0_search_16 : decode cX0_search 16 = .ok (.putfield 66, 3) := by decide +kernel
theorem dX0_search_19 : decode cX0_search 19 = .ok (.iload 5, 2) := by decide +kernel
theorem dX0_search_21 : decode cX0_search 21 = .ok (.iconst 1, 1) := by decide +kernel
theorem dX0_search_22 : decode cX0_search 22 = .ok (.isub, 1) := by decide +kernel
theorem dX0_search_23 : decode cX0_search 23 = .ok (.istore 6, 2) := by decide +kernel
theorem dX0_search_25 : decode cX0_search 25 = .ok (.iconst 0, 1) := by decide +kernel
theorem dX0_search_26 : decode cX0_search 26 = .ok (.istore 7, 2) := by decide +kernel
theorem dX0_search_28 : decode cX0_search 28 = .ok (.iload 7, 2) := by decide +kernel
theorem dX0_search_30 : decode cX0_search 30 = .ok (.iconst 1, 1) := by decide +kernel
theorem dX0_search_31 : decode cX0_search 31 = .ok (.iconst 3, 1) := by decide +kernel
theorem dX0_search_32 : decode cX0_search 32 = .ok (.iload 6, 2) := by decide +kernel
theorem dX0_search_34 : decode cX0_search 34 = .ok (.imul, 1) := by decide +kernel
theorem dX0_search_35 : decode cX0_search 35 = .ok (.ishl, 1) := by decide +kernel
theorem dX0_search_36 : decode cX0_search 36 = .ok (.if_icmp .ge 102, 3) := by decide +kernel
theorem dX0_search_39 : decode cX0_search 39 = .ok (.iconst 0, 1) := by decide +kernel
theorem dX0_search_40 : decode cX0_search 40 = .ok (.istore 8, 2) := by decide +kernel
theorem dX0_search_42 : decode cX0_search 42 = .ok (.iload 8, 2) := by decide +kernel
theorem dX0_search_44 : decode cX0_search 44 = .ok (.iload 6, 2) := by decide +kernel
theorem dX0_search_46 : decode cX0_search 46 = .ok (.if_icmp .ge 73, 3) := by decide +kernel
theorem dX0_search_49 : decode cX0_search 49 = .ok (.iconst 3, 1) := by decide +kernel
theorem dX0_search_50 : decode cX0_search 50 = .ok (.iload 6, 2) := by decide +kernel
theorem dX0_search_52 : decode cX0_search 52 = .ok (.iconst 1, 1) := by decide +kernel
theorem dX0_search_53 : decode cX0_search 53 = .ok (.isub, 1) := by decide +kernel
theorem dX0_search_54 : decode cX0_search 54 = .ok (.iload 8, 2) := by decide +kernel
theorem dX0_search_56 : decode cX0_search 56 = .ok (.isub, 1) := by decide +kernel
theorem dX0_search_57 : decode cX0_search 57 = .ok (.imul, 1) := by decide +kernel
theorem dX0_search_58 : decode cX0_search 58 = .ok (.istore 9, 2) := by decide +kernel
theorem dX0_search_60 : decode cX0_search 60 = .ok (.iload 7, 2) := by decide +kernel
theorem dX0_search_62 : decode cX0_search 62 = .ok (.iconst 1, 1) := by decide +kernel
theorem dX0_search_63 : decode cX0_search 63 = .ok (.iload 9, 2) := by decide +kernel
theorem dX0_search_65 : decode cX0_search 65 = .ok (.ishl, 1) := by decide +kernel
theorem dX0_search_66 : decode cX0_search 66 = .ok (.iconst 1, 1) := by decide +kernel
theorem dX0_search_67 : decode cX0_search 67 = .ok (.isub, 1) := by decide +kernel
theorem dX0_search_68 : decode cX0_search 68 = .ok (.iand, 1) := by decide +kernel
theorem dX0_search_69 : decode cX0_search 69 = .ok (.ifCond .ne 7, 3) := by decide +kernel
theorem dX0_search_72 : decode cX0_search 72 = .ok (.iconst 1, 1) := by decide +kernel
theorem dX0_search_73 : decode cX0_search 73 = .ok (.goto 4, 3) := by decide +kernel
theorem dX0_search_76 : decode cX0_search 76 = .ok (.iconst 0, 1) := by decide +kernel
theorem dX0_search_77 : decode cX0_search 77 = .ok (.istore 10, 2) := by decide +kernel
theorem dX0_search_79 : decode cX0_search 79 = .ok (.iload 10, 2) := by decide +kernel
theorem dX0_search_81 : decode cX0_search 81 = .ok (.ifCond .eq 32, 3) := by decide +kernel
theorem dX0_search_84 : decode cX0_search 84 = .ok (.aload_n 0, 1) := by decide +kernel
theorem dX0_search_85 : decode cX0_search 85 = .ok (.aload_n 1, 1) := by decide +kernel
theorem dX0_search_86 : decode cX0_search 86 = .ok (.aload_n 0, 1) := by decide +kernel
theorem dX0_search_87 : decode cX0_search 87 = .ok (.getfield 17, 3) := by decide +kernel
theorem dX0_search_90 : decode cX0_search 90 = .ok (.iload 8, 2) := by decide +kernel
theorem dX0_search_92 : decode cX0_search 92 = .ok (.aaload, 1) := by decide +kernel
theorem dX0_search_93 : decode cX0_search 93 = .ok (.iload 7, 2) := by decide +kernel
theorem dX0_search_95 : decode cX0_search 95 = .ok (.iload 9, 2) := by decide +kernel
theorem dX0_search_97 : decode cX0_search 97 = .ok (.ishr, 1) := by decide +kernel
theorem dX0_search_98 : decode cX0_search 98 = .ok (.bipush 7, 2) := by decide +kernel
theorem dX0_search_100 : decode cX0_search 100 = .ok (.iand, 1) := by decide +kernel
theorem dX0_search_101 : decode cX0_search 101 = .ok (.aload_n 0, 1) := by decide +kernel
theorem dX0_search_102 : decode cX0_search 102 = .ok (.getfield 17, 3) := by decide +kernel
theorem dX0_search_105 : decode cX0_search 105 = .ok (.iload 8, 2) := by decide +kernel
theorem dX0_search_107 : decode cX0_search 107 = .ok (.iconst 1, 1) := by decide +kernel
theorem dX0_search_108 : decode cX0_search 108 = .ok (.iadd, 1) := by decide +kernel
theorem dX0_search_109 : decode cX0_search 109 = .ok (.aaload, 1) := by decide +kernel
theorem dX0_search_110 : decode cX0_search 110 = .ok (.invokevirtual 40, 3) := by decide +kernel
theorem dX0_search_113 : decode cX0_search 113 = .ok (.iinc 8 1, 3) := by decide +kernel
theorem dX0_search_116 : decode cX0_search 116 = .ok (.goto (-74), 3) := by decide +kernel
theorem dX0_search_119 : decode cX0_search 119 = .ok (.aload_n 0, 1) := by decide +kernel
theorem dX0_search_120 : decode cX0_search 120 = .ok (.aload_n 0, 1) := by decide +kernel
theorem dX0_search_121 : decode cX0_search 121 = .ok (.getfield 17, 3) := by decide +kernel
theorem dX0_search_124 : decode cX0_search 124 = .ok (.iload 6, 2) := by decide +kernel
theorem dX0_search_126 : decode cX0_search 126 = .ok (.aaload, 1) := by decide +kernel
theorem dX0_search_127 : decode cX0_search 127 = .ok (.iload 7, 2) := by decide +kernel
theorem dX0_search_129 : decode cX0_search 129 = .ok (.invokevirtual 69, 3) := by decide +kernel
theorem dX0_search_132 : decode cX0_search 132 = .ok (.iinc 7 1, 3) := by decide +kernel
theorem dX0_search_135 : decode cX0_search 135 = .ok (.goto (-107), 3) := by decide +kernel
theorem dX0_search_138 : decode cX0_search 138 = .ok (.return_, 1) := by decide +kernel
set_option maxRecDepth 20000 in
theorem ggX0_tellHits_X11_isIn : GoodIn wsX0_tellHits wsX11_isIn := goodIn_r _ [6] (by decide +kernel) (by decide +kernel)
set_option maxRecDepth 20000 in
theorem gX0_tellHits_X11_isIn_n44 : GoodIn wsX0_tellHits (wsX11_isIn) := ggX0_tellHits_X11_isIn
set_option maxRecDepth 20000 in
theorem ggX0_tellHits_X0_hit : GoodIn wsX0_tellHits wsX0_hit := goodIn_r _ [10, 4, 5, 6] (by decide +kernel) (by decide +kernel)
set_option maxRecDepth 20000 in
theorem gX0_tellHits_X0_hit : GoodIn wsX0_tellHits (va_wsS RX0 73 yX0_hit wsX0_hit) := goodIn_app (goodIn_of _ (by decide +kernel)) ggX0_tellHits_X0_hit
set_option maxRecDepth 20000 in
theorem ggX0_tellHits_X11_besideOrSame : GoodIn wsX0_tellHits wsX11_besideOrSame := goodIn_r _ [12, 13, 14, 15, 16, 5, 17, 18, 19, 20, 21, 22, 23] (by decide +kernel) (by decide +kernel)
set_option maxRecDepth 20000 in
theorem gX0_tellHits_X11_besideOrSame_n56 : GoodIn wsX0_tellHits (wsX11_besideOrSame) := ggX0_tellHits_X11_besideOrSame
theorem dX0_tellHits_0 : decode cX0_tellHits 0 = .ok (.iconst 0, 1) := by decide +kernel
theorem dX0_tellHits_1 : decode cX0_tellHits 1 = .ok (.istore 4, 2) := by decide +kernel
theorem dX0_tellHits_3 : decode cX0_tellHits 3 = .ok (.iload 4, 2) := by decide +kernel
theorem dX0_tellHits_5 : decode cX0_tellHits 5 = .ok (.bipush 8, 2) := by decide +kernel
theorem dX0_tellHits_7 : decode cX0_tellHits 7 = .ok (.if_icmp .ge 134, 3) := by decide +kernel
theorem dX0_tellHits_10 : decode cX0_tellHits 10 = .ok (.iconst 0, 1) := by decide +kernel
theorem dX0_tellHits_11 : decode cX0_tellHits 11 = .ok (.istore 5, 2) := by decide +kernel
theorem dX0_tellHits_13 : decode cX0_tellHits 13 = .ok (.iload 5, 2) := by decide +kernel
theorem dX0_tellHits_15 : decode cX0_tellHits 15 = .ok (.bipush 36, 2) := by decide +kernel
theorem dX0_tellHits_17 : decode cX0_tellHits 17 = .ok (.if_icmp .ge 118, 3) := by decide +kernel
theorem dX0_tellHits_20 : decode cX0_tellHits 20 = .ok (.aload_n 0, 1) := by decide +kernel
theorem dX0_tellHits_21 : decode cX0_tellHits 21 = .ok (.getfield 22, 3) := by decide +kernel
theorem dX0_tellHits_24 : decode cX0_tellHits 24 = .ok (.iload 4, 2) := by decide +kernel
theorem dX0_tellHits_26 : decode cX0_tellHits 26 = .ok (.aaload, 1) := by decide +kernel
theorem dX0_tellHits_27 : decode cX0_tellHits 27 = .ok (.iload 5, 2) := by decide +kernel
theorem dX0_tellHits_29 : decode cX0_tellHits 29 = .ok (.aload_n 1, 1) := by decide +kernel
theorem dX0_tellHits_30 : decode cX0_tellHits 30 = .ok (.getfield 52, 3) := by decide +kernel
theorem dX0_tellHits_33 : decode cX0_tellHits 33 = .ok (.iload 5, 2) := by decide +kernel
theorem dX0_tellHits_35 : decode cX0_tellHits 35 = .ok (.invokestatic 44, 3) := by decide +kernel
theorem dX0_tellHits_38 : decode cX0_tellHits 38 = .ok (.ifCond .eq 15, 3) := by decide +kernel
theorem dX0_tellHits_41 : decode cX0_tellHits 41 = .ok (.bipush 20, 2) := by decide +kernel
theorem dX0_tellHits_43 : decode cX0_tellHits 43 = .ok (.lload_n 2, 1) := by decide +kernel
theorem dX0_tellHits_44 : decode cX0_tellHits 44 = .ok (.iload 5, 2) := by decide +kernel
theorem dX0_tellHits_46 : decode cX0_tellHits 46 = .ok (.invokestatic 73, 3) := by decide +kernel
theorem dX0_tellHits_49 : decode cX0_tellHits 49 = .ok (.imul, 1) := by decide +kernel
theorem dX0_tellHits_50 : decode cX0_tellHits 50 = .ok (.goto 78, 3) := by decide +kernel
theorem dX0_tellHits_53 : decode cX0_tellHits 53 = .ok (.bipush 20, 2) := by decide +kernel
theorem dX0_tellHits_55 : decode cX0_tellHits 55 = .ok (.iconst 2, 1) := by decide +kernel
theorem dX0_tellHits_56 : decode cX0_tellHits 56 = .ok (.aload_n 0, 1) := by decide +kernel
theorem dX0_tellHits_57 : decode cX0_tellHits 57 = .ok (.getfield 9, 3) := by decide +kernel
theorem dX0_tellHits_60 : decode cX0_tellHits 60 = .ok (.iload 5, 2) := by decide +kernel
theorem dX0_tellHits_62 : decode cX0_tellHits 62 = .ok (.iaload, 1) := by decide +kernel
theorem dX0_tellHits_63 : decode cX0_tellHits 63 = .ok (.imul, 1) := by decide +kernel
theorem dX0_tellHits_64 : decode cX0_tellHits 64 = .ok (.isub, 1) := by decide +kernel
theorem dX0_tellHits_65 : decode cX0_tellHits 65 = .ok (.lload_n 2, 1) := by decide +kernel
theorem dX0_tellHits_66 : decode cX0_tellHits 66 = .ok (.iload 5, 2) := by decide +kernel
theorem dX0_tellHits_68 : decode cX0_tellHits 68 = .ok (.iload 4, 2) := by decide +kernel
theorem dX0_tellHits_70 : decode cX0_tellHits 70 = .ok (.invokestatic 56, 3) := by decide +kernel
theorem dX0_tellHits_73 : decode cX0_tellHits 73 = .ok (.invokestatic 73, 3) := by decide +kernel
theorem dX0_tellHits_76 : decode cX0_tellHits 76 = .ok (.imul, 1) := by decide +kernel
theorem dX0_tellHits_77 : decode cX0_tellHits 77 = .ok (.aload_n 0, 1) := by decide +kernel
theorem dX0_tellHits_78 : decode cX0_tellHits 78 = .ok (.getfield 9, 3) := by decide +kernel
theorem dX0_tellHits_81 : decode cX0_tellHits 81 = .ok (.iload 5, 2) := by decide +kernel
theorem dX0_tellHits_83 : decode cX0_tellHits 83 = .ok (.iaload, 1) := by decide +kernel
theorem dX0_tellHits_84 : decode cX0_tellHits 84 = .ok (.lload_n 2, 1) := by decide +kernel
theorem dX0_tellHits_85 : decode cX0_tellHits 85 = .ok (.iload 5, 2) := by decide +kernel
theorem dX0_tellHits_87 : decode cX0_tellHits 87 = .ok (.iload 4, 2) := by decide +kernel
theorem dX0_tellHits_89 : decode cX0_tellHits 89 = .ok (.bipush 7, 2) := by decide +kernel
theorem dX0_tellHits_91 : decode cX0_tellHits 91 = .ok (.iadd, 1) := by decide +kernel
theorem dX0_tellHits_92 : decode cX0_tellHits 92 = .ok (.bipush 7, 2) := by decide +kernel
theorem dX0_tellHits_94 : decode cX0_tellHits 94 = .ok (.iand, 1) := by decide +kernel
theorem dX0_tellHits_95 : decode cX0_tellHits 95 = .ok (.invokestatic 56, 3) := by decide +kernel
theorem dX0_tellHits_98 : decode cX0_tellHits 98 = .ok (.invokestatic 73, 3) := by decide +kernel
theorem dX0_tellHits_101 : decode cX0_tellHits 101 = .ok (.imul, 1) := by decide +kernel
theorem dX0_tellHits_102 : decode cX0_tellHits 102 = .ok (.iadd, 1) := by decide +kernel
theorem dX0_tellHits_103 : decode cX0_tellHits 103 = .ok (.aload_n 0, 1) := by decide +kernel
theorem dX0_tellHits_104 : decode cX0_tellHits 104 = .ok (.getfield 9, 3) := by decide +kernel
theorem dX0_tellHits_107 : decode cX0_tellHits 107 = .ok (.iload 5, 2) := by decide +kernel
theorem dX0_tellHits_109 : decode cX0_tellHits 109 = .ok (.iaload, 1) := by decide +kernel
theorem dX0_tellHits_110 : decode cX0_tellHits 110 = .ok (.lload_n 2, 1) := by decide +kernel
theorem dX0_tellHits_111 : decode cX0_tellHits 111 = .ok (.iload 5, 2) := by decide +kernel
theorem dX0_tellHits_113 : decode cX0_tellHits 113 = .ok (.iload 4, 2) := by decide +kernel
theorem dX0_tellHits_115 : decode cX0_tellHits 115 = .ok (.iconst 1, 1) := by decide +kernel
theorem dX0_tellHits_116 : decode cX0_tellHits 116 = .ok (.iadd, 1) := by decide +kernel
theorem dX0_tellHits_117 : decode cX0_tellHits 117 = .ok (.bipush 7, 2) := by decide +kernel
theorem dX0_tellHits_119 : decode cX0_tellHits 119 = .ok (.iand, 1) := by decide +kernel
theorem dX0_tellHits_120 : decode cX0_tellHits 120 = .ok (.invokestatic 56, 3) := by decide +kernel
theorem dX0_tellHits_123 : decode cX0_tellHits 123 = .ok (.invokestatic 73, 3) := by decide +kernel
theorem dX0_tellHits_126 : decode cX0_tellHits 126 = .ok (.imul, 1) := by decide +kernel
theorem dX0_tellHits_127 : decode cX0_tellHits 127 = .ok (.iadd, 1) := by decide +kernel
theorem dX0_tellHits_128 : decode cX0_tellHits 128 = .ok (.iastore, 1) := by decide +kernel
theorem dX0_tellHits_129 : decode cX0_tellHits 129 = .ok (.iinc 5 1, 3) := by decide +kernel
theorem dX0_tellHits_132 : decode cX0_tellHits 132 = .ok (.goto (-119), 3) := by decide +kernel
theorem dX0_tellHits_135 : decode cX0_tellHits 135 = .ok (.iinc 4 1, 3) := by decide +kernel
theorem dX0_tellHits_138 : decode cX0_tellHits 138 = .ok (.goto (-135), 3) := by decide +kernel
theorem dX0_tellHits_141 : decode cX0_tellHits 141 = .ok (.return_, 1) := by decide +kernel
set_option maxRecDepth 20000 in
theorem ggX0_hit_X11_isIn : GoodIn wsX0_hit wsX11_isIn := goodIn_r _ [3] (by decide +kernel) (by decide +kernel)
set_option maxRecDepth 20000 in
theorem gX0_hit_X11_isIn_n44 : GoodIn wsX0_hit (wsX11_isIn) := ggX0_hit_X11_isIn
theorem dX0_hit_0 : decode cX0_hit 0 = .ok (.lload_n 0, 1) := by decide +kernel
theorem dX0_hit_1 : decode cX0_hit 1 = .ok (.iload_n 2, 1) := by decide +kernel
theorem dX0_hit_2 : decode cX0_hit 2 = .ok (.invokestatic 44, 3) := by decide +kernel
theorem dX0_hit_5 : decode cX0_hit 5 = .ok (.ifCond .eq 7, 3) := by decide +kernel
theorem dX0_hit_8 : decode cX0_hit 8 = .ok (.iconst 1, 1) := by decide +kernel
theorem dX0_hit_9 : decode cX0_hit 9 = .ok (.goto 4, 3) := by decide +kernel
theorem dX0_hit_12 : decode cX0_hit 12 = .ok (.iconst 0, 1) := by decide +kernel
theorem dX0_hit_13 : decode cX0_hit 13 = .ok (.ireturn, 1) := by decide +kernel
theorem dX0_tryLast_0 : decode cX0_tryLast 0 = .ok (.iconst 0, 1) := by decide +kernel
theorem dX0_tryLast_1 : decode cX0_tryLast 1 = .ok (.istore_n 3, 1) := by decide +kernel
theorem dX0_tryLast_2 : decode cX0_tryLast 2 = .ok (.iload_n 3, 1) := by decide +kernel
theorem dX0_tryLast_3 : decode cX0_tryLast 3 = .ok (.bipush 8, 2) := by decide +kernel
theorem dX0_tryLast_5 : decode cX0_tryLast 5 = .ok (.if_icmp .ge 74, 3) := by decide +kernel
theorem dX0_tryLast_8 : decode cX0_tryLast 8 = .ok (.lconst 0, 1) := by decide +kernel
theorem dX0_tryLast_9 : decode cX0_tryLast 9 = .ok (.lstore 4, 2) := by decide +kernel
theorem dX0_tryLast_11 : decode cX0_tryLast 11 = .ok (.iconst 0, 1) := by decide +kernel
theorem dX0_tryLast_12 : decode cX0_tryLast 12 = .ok (.istore 6, 2) := by decide +kernel
theorem dX0_tryLast_14 : decode cX0_tryLast 14 = .ok (.iload 6, 2) := by decide +kernel
theorem dX0_tryLast_16 : decode cX0_tryLast 16 = .ok (.bipush 36, 2) := by decide +kernel
theorem dX0_tryLast_18 : decode cX0_tryLast 18 = .ok (.if_icmp .ge 29, 3) := by decide +kernel
theorem dX0_tryLast_21 : decode cX0_tryLast 21 = .ok (.lload 4, 2) := by decide +kernel
theorem dX0_tryLast_23 : decode cX0_tryLast 23 = .ok (.aload_n 1, 1) := by decide +kernel
theorem dX0_tryLast_24 : decode cX0_tryLast 24 = .ok (.iload 6, 2) := by decide +kernel
theorem dX0_tryLast_26 : decode cX0_tryLast 26 = .ok (.laload, 1) := by decide +kernel
theorem dX0_tryLast_27 : decode cX0_tryLast 27 = .ok (.aload_n 0, 1) := by decide +kernel
theorem dX0_tryLast_28 : decode cX0_tryLast 28 = .ok (.getfield 22, 3) := by decide +kernel
theorem dX0_tryLast_31 : decode cX0_tryLast 31 = .ok (.iload_n 3, 1) := by decide +kernel
theorem dX0_tryLast_32 : decode cX0_tryLast 32 = .ok (.aaload, 1) := by decide +kernel
theorem dX0_tryLast_33 : decode cX0_tryLast 33 = .ok (.iload 6, 2) := by decide +kernel
theorem dX0_tryLast_35 : decode cX0_tryLast 35 = .ok (.iaload, 1) := by decide +kernel
theorem dX0_tryLast_36 : decode cX0_tryLast 36 = .ok (.i2l, 1) := by decide +kernel
theorem dX0_tryLast_37 : decode cX0_tryLast 37 = .ok (.lmul, 1) := by decide +kernel
theorem dX0_tryLast_38 : decode cX0_tryLast 38 = .ok (.ladd, 1) := by decide +kernel
theorem dX0_tryLast_39 : decode cX0_tryLast 39 = .ok (.lstore 4, 2) := by decide +kernel
theorem dX0_tryLast_41 : decode cX0_tryLast 41 = .ok (.iinc 6 1, 3) := by decide +kernel
theorem dX0_tryLast_44 : decode cX0_tryLast 44 = .ok (.goto (-30), 3) := by decide +kernel
theorem dX0_tryLast_47 : decode cX0_tryLast 47 = .ok (.lload 4, 2) := by decide +kernel
theorem dX0_tryLast_49 : decode cX0_tryLast 49 = .ok (.aload_n 0, 1) := by decide +kernel
theorem dX0_tryLast_50 : decode cX0_tryLast 50 = .ok (.getfield 66, 3) := by decide +kernel
theorem dX0_tryLast_53 : decode cX0_tryLast 53 = .ok (.lcmp, 1) := by decide +kernel
theorem dX0_tryLast_54 : decode cX0_tryLast 54 = .ok (.ifCond .le 19, 3) := by decide +kernel
theorem dX0_tryLast_57 : decode cX0_tryLast 57 = .ok (.aload_n 0, 1) := by decide +kernel
theorem dX0_tryLast_58 : decode cX0_tryLast 58 = .ok (.lload 4, 2) := by decide +kernel
theorem dX0_tryLast_60 : decode cX0_tryLast 60 = .ok (.putfield 66, 3) := by decide +kernel
theorem dX0_tryLast_63 : decode cX0_tryLast 63 = .ok (.aload_n 0, 1) := by decide +kernel
theorem dX0_tryLast_64 : decode cX0_tryLast 64 = .ok (.iload_n 2, 1) := by decide +kernel
theorem dX0_tryLast_65 : decode cX0_tryLast 65 = .ok (.bipush 8, 2) := by decide +kernel
theorem dX0_tryLast_67 : decode cX0_tryLast 67 = .ok (.imul, 1) := by decide +kernel
theorem dX0_tryLast_68 : decode cX0_tryLast 68 = .ok (.iload_n 3, 1) := by decide +kernel
theorem dX0_tryLast_69 : decode cX0_tryLast 69 = .ok (.iadd, 1) := by decide +kernel
theorem dX0_tryLast_70 : decode cX0_tryLast 70 = .ok (.putfield 77, 3) := by decide +kernel
theorem dX0_tryLast_73 : decode cX0_tryLast 73 = .ok (.iinc 3 1, 3) := by decide +kernel
theorem dX0_tryLast_76 : decode cX0_tryLast 76 = .ok (.goto (-74), 3) := by decide +kernel
theorem dX0_tryLast_79 : decode cX0_tryLast 79 = .ok (.return_, 1) := by decide +kernel
theorem dX0_foundWay_0 : decode cX0_foundWay 0 = .ok (.aload_n 0, 1) := by decide +kernel
theorem dX0_foundWay_1 : decode cX0_foundWay 1 = .ok (.getfield 77, 3) := by decide +kernel
theorem dX0_foundWay_4 : decode cX0_foundWay 4 = .ok (.iconst 3, 1) := by decide +kernel
theorem dX0_foundWay_5 : decode cX0_foundWay 5 = .ok (.iload_n 1, 1) := by decide +kernel
theorem dX0_foundWay_6 : decode cX0_foundWay 6 = .ok (.iconst 1, 1) := by decide +kernel
theorem dX0_foundWay_7 : decode cX0_foundWay 7 = .ok (.isub, 1) := by decide +kernel
theorem dX0_foundWay_8 : decode cX0_foundWay 8 = .ok (.iload_n 2, 1) := by decide +kernel
theorem dX0_foundWay_9 : decode cX0_foundWay 9 = .ok (.isub, 1) := by decide +kernel
theorem dX0_foundWay_10 : decode cX0_foundWay 10 = .ok (.imul, 1) := by decide +kernel
theorem dX0_foundWay_11 : decode cX0_foundWay 11 = .ok (.ishr, 1) := by decide +kernel
theorem dX0_foundWay_12 : decode cX0_foundWay 12 = .ok (.bipush 7, 2) := by decide +kernel
theorem dX0_foundWay_14 : decode cX0_foundWay 14 = .ok (.iand, 1) := by decide +kernel
theorem dX0_foundWay_15 : decode cX0_foundWay 15 = .ok (.ireturn, 1) := by decide +kernel
set_option maxRecDepth 20000 in
theorem ggX1_init_X3_init : GoodIn wsX1_init wsX3_init := goodIn_r _ [4, 5, 6, 7, 8, 9, 10, 11, 12, 13, 14, 15, 16, 17, 18, 19, 20, 21, 22, 23, 24, 25, 26, 27, 28, 29, 30, 31, 32, 33, 34, 35, 36, 37, 38, 39] (by decide +kernel) (by decide +kernel)
set_option maxRecDepth 20000 in
theorem gX1_init_X3_init : GoodIn wsX1_init (wsX3_init) := ggX1_init_X3_init
theorem dX1_init_0 : decode cX1_init 0 = .ok (.aload_n 0, 1) := by decide +kernel
theorem dX1_init_1 : decode cX1_init 1 = .ok (.iload_n 1, 1) := by decide +kernel
theorem dX1_init_2 : decode cX1_init 2 = .ok (.iload_n 2, 1) := by decide +kernel
theorem dX1_init_3 : decode cX1_init 3 = .ok (.iload_n 3, 1) := by decide +kernel
theorem dX1_init_4 : decode cX1_init 4 = .ok (.iload 4, 2) := by decide +kernel
theorem dX1_init_6 : decode cX1_init 6 = .ok (.invokespecial 1, 3) := by decide +kernel
theorem dX1_init_9 : decode cX1_init 9 = .ok (.return_, 1) := by decide +kernel
theorem dX1_leadsTo_0 : decode cX1_leadsTo 0 = .ok (.iconst 0, 1) := by decide +kernel
theorem dX1_leadsTo_1 : decode cX1_leadsTo 1 = .ok (.ireturn, 1) := by decide +kernel
set_option maxRecDepth 20000 in
theorem ggX1_doLooks_X3_doLooks : GoodIn wsX1_doLooks wsX3_doLooks := goodIn_r _ [6, 7, 8, 5, 9, 10, 11, 12, 13, 14, 15, 16, 17, 18, 19, 20, 21, 22, 23, 24, 25, 26, 27, 28, 29, 30, 31, 32, 33, 34, 35, 36, 37, 38, 39, 40, 41, 42, 43, 44, 45, 46, 47, 48, 49, 50, 51, 52, 53, 54, 55, 56, 57, 58, 59, 60, 61, 62, 63, 64, 65, 66, 67, 68, 69, 70, 71, 72, 73, 74, 75, 76, 77, 78, 79, 80, 81, 82, 83, 84, 85, 86, 87, 88, 89, 90, 91, 92, 93, 94, 95, 96, 97, 98, 99, 100, 101, 102, 103, 104, 105, 106, 107, 108, 109, 110, 111, 112, 113, 114, 115, 116, 117, 118, 119, 120, 121, 122, 123, 124, 125, 126, 127, 128, 129, 130, 131, 132, 133, 134, 135, 136, 137, 138, 139, 140, 141, 142, 143, 144, 145, 146, 147, 148, 149, 150, 151, 152, 153, 154, 155, 156, 157, 158, 159, 160, 161, 162, 163, 164, 165, 166, 167, 168] (by decide +kernel) (by decide +kernel)
set_option maxRecDepth 20000 in
theorem gX1_doLooks_X3_doLooks_s13 : GoodIn wsX1_doLooks (va_wsSU RX1 13 yX3_doLooks wsX3_doLooks) := goodIn_app (goodIn_of _ (by decide +kernel)) ggX1_doLooks_X3_doLooks
theorem dX1_doLooks_0 : decode cX1_doLooks 0 = .ok (.bipush 31, 2) := by decide +kernel
theorem dX1_doLooks_2 : decode cX1_doLooks 2 = .ok (.aload_n 2, 1) := by decide +kernel
theorem dX1_doLooks_3 : decode cX1_doLooks 3 = .ok (.invokestatic 7, 3) := by decide +kernel
theorem dX1_doLooks_6 : decode cX1_doLooks 6 = .ok (.aload_n 0, 1) := by decide +kernel
theorem dX1_doLooks_7 : decode cX1_doLooks 7 = .ok (.iload_n 1, 1) := by decide +kernel
theorem dX1_doLooks_8 : decode cX1_doLooks 8 = .ok (.aload_n 2, 1) := by decide +kernel
theorem dX1_doLooks_9 : decode cX1_doLooks 9 = .ok (.invokespecial 13, 3) := by decide +kernel
theorem dX1_doLooks_12 : decode cX1_doLooks 12 = .ok (.bipush 7, 2) := by decide +kernel
theorem dX1_doLooks_14 : decode cX1_doLooks 14 = .ok (.ixor, 1) := by decide +kernel
theorem dX1_doLooks_15 : decode cX1_doLooks 15 = .ok (.ireturn, 1) := by decide +kernel
set_option maxRecDepth 20000 in
theorem ggX2_init_X3_init : GoodIn wsX2_init wsX3_init := goodIn_r _ [13, 14, 2, 3, 15, 16, 17, 18, 27, 28, 29, 30, 23, 24, 25, 26, 31, 32, 33, 34, 35, 36, 37, 38, 39, 40, 41, 42, 43, 44, 45, 46, 47, 48, 49, 50] (by decide +kernel) (by decide +kernel)
set_option maxRecDepth 20000 in
theorem gX2_init_X3_init : GoodIn wsX2_init (wsX3_init) := ggX2_init_X3_init
theorem dX2_init_0 : decode cX2_init 0 = .ok (.aload_n 0, 1) := by decide +kernel
theorem dX2_init_1 : decode cX2_init 1 = .ok (.invokespecial 3, 3) := by decide +kernel
theorem dX2_init_4 : decode cX2_init 4 = .ok (.aload_n 0, 1) := by decide +kernel
theorem dX2_init_5 : decode cX2_init 5 = .ok (.bipush 8, 2) := by decide +kernel
theorem dX2_init_7 : decode cX2_init 7 = .ok (.newarray .int, 2) := by decide +kernel
theorem dX2_init_9 : decode cX2_init 9 = .ok (.putfield 9, 3) := by decide +kernel
theorem dX2_init_12 : decode cX2_init 12 = .ok (.aload_n 0, 1) := by decide +kernel
theorem dX2_init_13 : decode cX2_init 13 = .ok (.bipush 8, 2) := by decide +kernel
theorem dX2_init_15 : decode cX2_init 15 = .ok (.newarray .int, 2) := by decide +kernel
theorem dX2_init_17 : decode cX2_init 17 = .ok (.putfield 15, 3) := by decide +kernel
theorem dX2_init_20 : decode cX2_init 20 = .ok (.aload_n 0, 1) := by decide +kernel
theorem dX2_init_21 : decode cX2_init 21 = .ok (.new 18, 3) := by decide +kernel
theorem dX2_init_24 : decode cX2_init 24 = .ok (.dup, 1) := by decide +kernel
theorem dX2_init_25 : decode cX2_init 25 = .ok (.iconst 0, 1) := by decide +kernel
theorem dX2_init_26 : decode cX2_init 26 = .ok (.iconst 0, 1) := by decide +kernel
theorem dX2_init_27 : decode cX2_init 27 = .ok (.iconst 0, 1) := by decide +kernel
theorem dX2_init_28 : decode cX2_init 28 = .ok (.iconst 0, 1) := by decide +kernel
theorem dX2_init_29 : decode cX2_init 29 = .ok (.invokespecial 20, 3) := by decide +kernel
theorem dX2_init_32 : decode cX2_init 32 = .ok (.putfield 23, 3) := by decide +kernel
theorem dX2_init_35 : decode cX2_init 35 = .ok (.return_, 1) := by decide +kernel
set_option maxRecDepth 20000 in
theorem ggX2_measure_X8_reachOf : GoodIn wsX2_measure wsX8_reachOf := goodIn_r _ [8, 9, 10, 11, 12, 13, 14, 15, 16, 17, 18, 7, 19, 20, 21, 22, 23, 24, 25, 26, 27, 28, 29, 30, 31, 32, 33, 34, 35, 36, 37, 38, 39, 40, 41, 42, 43, 44, 45, 46, 47, 48, 49, 50, 51, 52, 53, 54, 55, 56, 57, 58, 59, 60, 61, 62, 63, 64, 65, 66, 67, 68, 69, 70, 71, 72, 73, 74, 75, 76, 77, 78, 79, 80, 81, 82, 83, 84, 85, 104, 105, 106, 107, 108, 109, 110, 111, 112, 113, 114, 115, 116, 117, 118, 119, 120, 121, 122, 123, 124, 125, 126, 127, 128, 129, 130, 131, 86, 87, 88, 89, 90, 91, 92, 93, 94, 95, 96, 97, 98, 99, 132, 133, 134, 135, 136, 137, 138, 139, 140, 141, 142] (by decide +kernel) (by decide +kernel)
set_option maxRecDepth 20000 in
theorem gX2_measure_X8_reachOf : GoodIn wsX2_measure (wsV RX2 37 RX8 yX8_reachOf wsX8_reachOf) := goodIn_app (goodIn_of _ (by decide +kernel)) ggX2_measure_X8_reachOf
theorem dX2_measure_0 : decode cX2_measure 0 = .ok (.iconst 0, 1) := by decide +kernel
theorem dX2_measure_1 : decode cX2_measure 1 = .ok (.istore_n 3, 1) := by decide +kernel
theorem dX2_measure_2 : decode cX2_measure 2 = .ok (.iload_n 3, 1) := by decide +kernel
theorem dX2_measure_3 : decode cX2_measure 3 = .ok (.aload_n 1, 1) := by decide +kernel
theorem dX2_measure_4 : decode cX2_measure 4 = .ok (.getfield 27, 3) := by decide +kernel
theorem dX2_measure_7 : decode cX2_measure 7 = .ok (.if_icmp .ge 26, 3) := by decide +kernel
theorem dX2_measure_10 : decode cX2_measure 10 = .ok (.aload_n 0, 1) := by decide +kernel
theorem dX2_measure_11 : decode cX2_measure 11 = .ok (.getfield 9, 3) := by decide +kernel
theorem dX2_measure_14 : decode cX2_measure 14 = .ok (.iload_n 3, 1) := by decide +kernel
theorem dX2_measure_15 : decode cX2_measure 15 = .ok (.aload_n 1, 1) := by decide +kernel
theorem dX2_measure_16 : decode cX2_measure 16 = .ok (.aload_n 1, 1) := by decide +kernel
theorem dX2_measure_17 : decode cX2_measure 17 = .ok (.getfield 33, 3) := by decide +kernel
theorem dX2_measure_20 : decode cX2_measure 20 = .ok (.iload_n 3, 1) := by decide +kernel
theorem dX2_measure_21 : decode cX2_measure 21 = .ok (.aaload, 1) := by decide +kernel
theorem dX2_measure_22 : decode cX2_measure 22 = .ok (.iload_n 2, 1) := by decide +kernel
theorem dX2_measure_23 : decode cX2_measure 23 = .ok (.invokevirtual 37, 3) := by decide +kernel
theorem dX2_measure_26 : decode cX2_measure 26 = .ok (.iastore, 1) := by decide +kernel
theorem dX2_measure_27 : decode cX2_measure 27 = .ok (.iinc 3 1, 3) := by decide +kernel
theorem dX2_measure_30 : decode cX2_measure 30 = .ok (.goto (-28), 3) := by decide +kernel
theorem dX2_measure_33 : decode cX2_measure 33 = .ok (.return_, 1) := by decide +kernel
set_option maxRecDepth 20000 in
theorem ggX2_seenFrom_X11_apart : GoodIn wsX2_seenFrom wsX11_apart := goodIn_r _ [7, 8, 9, 10, 11, 12, 13, 14, 15, 16, 6, 17, 18, 19, 20] (by decide +kernel) (by decide +kernel)
set_option maxRecDepth 20000 in
theorem gX2_seenFrom_X11_apart_n44 : GoodIn wsX2_seenFrom (wsX11_apart) := ggX2_seenFrom_X11_apart
theorem dX2_seenFrom_0 : decode cX2_seenFrom 0 = .ok (.iconst 0, 1) := by decide +kernel
theorem dX2_seenFrom_1 : decode cX2_seenFrom 1 = .ok (.istore_n 3, 1) := by decide +kernel
theorem dX2_seenFrom_2 : decode cX2_seenFrom 2 = .ok (.iconst 0, 1) := by decide +kernel
theorem dX2_seenFrom_3 : decode cX2_seenFrom 3 = .ok (.istore 4, 2) := by decide +kernel
theorem dX2_seenFrom_5 : decode cX2_seenFrom 5 = .ok (.iload 4, 2) := by decide +kernel
theorem dX2_seenFrom_7 : decode cX2_seenFrom 7 = .ok (.aload_n 1, 1) := by decide +kernel
theorem dX2_seenFrom_8 : decode cX2_seenFrom 8 = .ok (.getfield 27, 3) := by decide +kernel
theorem dX2_seenFrom_11 : decode cX2_seenFrom 11 = .ok (.if_icmp .ge 40, 3) := by decide +kernel
theorem dX2_seenFrom_14 : decode cX2_seenFrom 14 = .ok (.iload_n 2, 1) := by decide +kernel
theorem dX2_seenFrom_15 : decode cX2_seenFrom 15 = .ok (.aload_n 1, 1) := by decide +kernel
theorem dX2_seenFrom_16 : decode cX2_seenFrom 16 = .ok (.getfield 33, 3) := by decide +kernel
theorem dX2_seenFrom_19 : decode cX2_seenFrom 19 = .ok (.iload 4, 2) := by decide +kernel
theorem dX2_seenFrom_21 : decode cX2_seenFrom 21 = .ok (.aaload, 1) := by decide +kernel
theorem dX2_seenFrom_22 : decode cX2_seenFrom 22 = .ok (.getfield 41, 3) := by decide +kernel
theorem dX2_seenFrom_25 : decode cX2_seenFrom 25 = .ok (.invokestatic 44, 3) := by decide +kernel
theorem dX2_seenFrom_28 : decode cX2_seenFrom 28 = .ok (.aload_n 0, 1) := by decide +kernel
theorem dX2_seenFrom_29 : decode cX2_seenFrom 29 = .ok (.getfield 9, 3) := by decide +kernel
theorem dX2_seenFrom_32 : decode cX2_seenFrom 32 = .ok (.iload 4, 2) := by decide +kernel
theorem dX2_seenFrom_34 : decode cX2_seenFrom 34 = .ok (.iaload, 1) := by decide +kernel
theorem dX2_seenFrom_35 : decode cX2_seenFrom 35 = .ok (.if_icmp .gt 10, 3) := by decide +kernel
theorem dX2_seenFrom_38 : decode cX2_seenFrom 38 = .ok (.iload_n 3, 1) := by decide +kernel
theorem dX2_seenFrom_39 : decode cX2_seenFrom 39 = .ok (.iconst 1, 1) := by decide +kernel
theorem dX2_seenFrom_40 : decode cX2_seenFrom 40 = .ok (.iload 4, 2) := by decide +kernel
theorem dX2_seenFrom_42 : decode cX2_seenFrom 42 = .ok (.ishl, 1) := by decide +kernel
theorem dX2_seenFrom_43 : decode cX2_seenFrom 43 = .ok (.ior, 1) := by decide +kernel
theorem dX2_seenFrom_44 : decode cX2_seenFrom 44 = .ok (.istore_n 3, 1) := by decide +kernel
theorem dX2_seenFrom_45 : decode cX2_seenFrom 45 = .ok (.iinc 4 1, 3) := by decide +kernel
theorem dX2_seenFrom_48 : decode cX2_seenFrom 48 = .ok (.goto (-43), 3) := by decide +kernel
theorem dX2_seenFrom_51 : decode cX2_seenFrom 51 = .ok (.iload_n 3, 1) := by decide +kernel
theorem dX2_seenFrom_52 : decode cX2_seenFrom 52 = .ok (.ireturn, 1) := by decide +kernel
set_option maxRecDepth 20000 in
theorem ggX2_link_X2_measure : GoodIn wsX2_link wsX2_measure := goodIn_r _ [9, 1, 10, 4, 11, 12, 13, 14, 15, 16, 17, 18, 19, 20, 21, 22, 23, 24, 25, 26, 27, 28, 29, 30, 31, 32, 33, 34, 35, 36, 37, 38, 39, 40, 41, 42, 43, 44, 45, 46, 47, 48, 49, 50, 51, 52, 53, 54, 55, 56, 57, 58, 59, 60, 61, 62, 63, 64, 65, 66, 67, 68, 69, 70, 71, 72, 73, 74, 75, 76, 77, 78, 79, 80, 81, 82, 83, 84, 85, 86, 87, 88, 89, 90, 91, 92, 133, 134, 135, 136, 137, 138, 139, 140, 141, 142, 143, 144, 145, 146, 147, 148, 149, 150, 151, 152, 153, 154, 155, 156, 157, 158, 159, 160, 161, 162, 163, 164, 165, 166, 167, 168, 169, 170, 171, 172, 173, 174, 175, 176, 177, 178, 179, 180, 181, 182, 183, 184, 185, 186, 187, 188, 189] (by decide +kernel) (by decide +kernel)
set_option maxRecDepth 20000 in
theorem gX2_link_X2_measure : GoodIn wsX2_link (wsV RX2 48 RX2 yX2_measure wsX2_measure) := goodIn_app (goodIn_of _ (by decide +kernel)) ggX2_link_X2_measure
set_option maxRecDepth 20000 in
theorem ggX2_link_X2_tellGoing : GoodIn wsX2_link wsX2_tellGoing := goodIn_r _ [96, 97, 98, 10, 3, 99, 28, 100, 101, 102, 57, 103, 104, 56, 58, 105, 27, 29, 106, 30, 31, 107, 108, 109, 110, 111, 112, 113, 114, 115, 116, 117, 53, 118, 119, 120, 121, 122, 123, 124, 125, 126, 127, 128, 129, 130, 131, 132, 151, 152, 153, 154, 155, 156, 157, 158, 159, 160, 161, 162, 163, 164, 165, 166, 167, 168, 169, 170, 171, 172, 173, 174, 175, 176, 177, 178, 147, 148, 149, 150] (by decide +kernel) (by decide +kernel)
set_option maxRecDepth 20000 in
theorem gX2_link_X2_tellGoing : GoodIn wsX2_link (wsV RX2 55 RX2 yX2_tellGoing wsX2_tellGoing) := goodIn_app (goodIn_of _ (by decide +kernel)) ggX2_link_X2_tellGoing
theorem dX2_link_0 : decode cX2_link 0 = .ok (.aload_n 0, 1) := by decide +kernel
theorem dX2_link_1 : decode cX2_link 1 = .ok (.aload_n 1, 1) := by decide +kernel
theorem dX2_link_2 : decode cX2_link 2 = .ok (.iload_n 2, 1) := by decide +kernel
theorem dX2_link_3 : decode cX2_link 3 = .ok (.invokevirtual 48, 3) := by decide +kernel
theorem dX2_link_6 : decode cX2_link 6 = .ok (.aload_n 0, 1) := by decide +kernel
theorem dX2_link_7 : decode cX2_link 7 = .ok (.aload_n 1, 1) := by decide +kernel
theorem dX2_link_8 : decode cX2_link 8 = .ok (.getfield 27, 3) := by decide +kernel
theorem dX2_link_11 : decode cX2_link 11 = .ok (.putfield 52, 3) := by decide +kernel
theorem dX2_link_14 : decode cX2_link 14 = .ok (.iconst 0, 1) := by decide +kernel
theorem dX2_link_15 : decode cX2_link 15 = .ok (.istore_n 3, 1) := by decide +kernel
theorem dX2_link_16 : decode cX2_link 16 = .ok (.iload_n 3, 1) := by decide +kernel
theorem dX2_link_17 : decode cX2_link 17 = .ok (.aload_n 0, 1) := by decide +kernel
theorem dX2_link_18 : decode cX2_link 18 = .ok (.getfield 52, 3) := by decide +kernel
theorem dX2_link_21 : decode cX2_link 21 = .ok (.if_icmp .ge 51, 3) := by decide +kernel
theorem dX2_link_24 : decode cX2_link 24 = .ok (.aload_n 0, 1) := by decide +kernel
theorem dX2_link_25 : decode cX2_link 25 = .ok (.getfield 15, 3) := by decide +kernel
theorem dX2_link_28 : decode cX2_link 28 = .ok (.iload_n 3, 1) := by decide +kernel
theorem dX2_link_29 : decode cX2_link 29 = .ok (.iconst 0, 1) := by decide +kernel
theorem dX2_link_30 : decode cX2_link 30 = .ok (.iastore, 1) := by decide +kernel
theorem dX2_link_31 : decode cX2_link 31 = .ok (.iconst 0, 1) := by decide +kernel
theorem dX2_link_32 : decode cX2_link 32 = .ok (.istore 4, 2) := by decide +kernel
theorem dX2_link_34 : decode cX2_link 34 = .ok (.iload 4, 2) := by decide +kernel
theorem dX2_link_36 : decode cX2_link 36 = .ok (.aload_n 0, 1) := by decide +kernel
theorem dX2_link_37 : decode cX2_link 37 = .ok (.getfield 52, 3) := by decide +kernel
theorem dX2_link_40 : decode cX2_link 40 = .ok (.if_icmp .ge 26, 3) := by decide +kernel
theorem dX2_link_43 : decode cX2_link 43 = .ok (.aload_n 0, 1) := by decide +kernel
theorem dX2_link_44 : decode cX2_link 44 = .ok (.aload_n 1, 1) := by decide +kernel
theorem dX2_link_45 : decode cX2_link 45 = .ok (.getfield 33, 3) := by decide +kernel
theorem dX2_link_48 : decode cX2_link 48 = .ok (.iload_n 3, 1) := by decide +kernel
theorem dX2_link_49 : decode cX2_link 49 = .ok (.aaload, 1) := by decide +kernel
theorem dX2_link_50 : decode cX2_link 50 = .ok (.aload_n 1, 1) := by decide +kernel
theorem dX2_link_51 : decode cX2_link 51 = .ok (.getfield 33, 3) := by decide +kernel
theorem dX2_link_54 : decode cX2_link 54 = .ok (.iload 4, 2) := by decide +kernel
theorem dX2_link_56 : decode cX2_link 56 = .ok (.aaload, 1) := by decide +kernel
theorem dX2_link_57 : decode cX2_link 57 = .ok (.invokevirtual 55, 3) := by decide +kernel
theorem dX2_link_60 : decode cX2_link 60 = .ok (.iinc 4 1, 3) := by decide +kernel
theorem dX2_link_63 : decode cX2_link 63 = .ok (.goto (-29), 3) := by decide +kernel
theorem dX2_link_66 : decode cX2_link 66 = .ok (.iinc 3 1, 3) := by decide +kernel
theorem dX2_link_69 : decode cX2_link 69 = .ok (.goto (-53), 3) := by decide +kernel
theorem dX2_link_72 : decode cX2_link 72 = .ok (.return_, 1) := by decide +kernel
set_option maxRecDepth 20000 in
theorem ggX2_tellGoing_X11_apart : GoodIn wsX2_tellGoing wsX11_apart := goodIn_r _ [7, 8, 9, 10, 11, 12, 13, 14, 15, 16, 6, 17, 18, 19, 20] (by decide +kernel) (by decide +kernel)
set_option maxRecDepth 20000 in
theorem gX2_tellGoing_X11_apart_n44 : GoodIn wsX2_tellGoing (wsX11_apart) := ggX2_tellGoing_X11_apart
set_option maxRecDepth 20000 in
theorem ggX2_tellGoing_X1_leadsTo : GoodIn wsX2_tellGoing wsX1_leadsTo := goodIn_r _ [27] (by decide +kernel) (by decide +kernel)
set_option maxRecDepth 20000 in
theorem gX2_tellGoing_X1_leadsTo_u62X1 : GoodIn wsX2_tellGoing (va_wsO RX2 62 RX1 "MistHeaps$Heap" ⟨"MistHeaps$Heap", "leadsTo", "(I)Z"⟩ yX1_leadsTo wsX1_leadsTo) := goodIn_app (goodIn_of _ (by decide +kernel)) ggX2_tellGoing_X1_leadsTo
set_option maxRecDepth 20000 in
theorem ggX2_tellGoing_X3_leadsTo : GoodIn wsX2_tellGoing wsX3_leadsTo := goodIn_r _ [28] (by decide +kernel) (by decide +kernel)
set_option maxRecDepth 20000 in
theorem gX2_tellGoing_X3_leadsTo : GoodIn wsX2_tellGoing (wsV RX2 62 RX3 yX3_leadsTo wsX3_leadsTo) := goodIn_app (goodIn_of _ (by decide +kernel)) ggX2_tellGoing_X3_leadsTo
set_option maxRecDepth 20000 in
theorem gX2_tellGoing_X3_leadsTo_u62X4 : GoodIn wsX2_tellGoing (va_wsU RX2 62 RX4 "MistHeaps$Heap" ⟨"MistHeaps$Heap", "leadsTo", "(I)Z"⟩ yX3_leadsTo wsX3_leadsTo) := goodIn_app (goodIn_of _ (by decide +kernel)) ggX2_tellGoing_X3_leadsTo
set_option maxRecDepth 20000 in
theorem gX2_tellGoing_X3_leadsTo_u62X6 : GoodIn wsX2_tellGoing (va_wsU RX2 62 RX6 "MistHeaps$Heap" ⟨"MistHeaps$Heap", "leadsTo", "(I)Z"⟩ yX3_leadsTo wsX3_leadsTo) := goodIn_app (goodIn_of _ (by decide +kernel)) ggX2_tellGoing_X3_leadsTo
set_option maxRecDepth 20000 in
theorem gX2_tellGoing_X1_leadsTo_u62X7 : GoodIn wsX2_tellGoing (va_wsO RX2 62 RX7 "MistHeaps$Heap" ⟨"MistHeaps$Heap", "leadsTo", "(I)Z"⟩ yX1_leadsTo wsX1_leadsTo) := goodIn_app (goodIn_of _ (by decide +kernel)) ggX2_tellGoing_X1_leadsTo
set_option maxRecDepth 20000 in
theorem gX2_tellGoing_X3_leadsTo_u62X9 : GoodIn wsX2_tellGoing (va_wsU RX2 62 RX9 "MistHeaps$Heap" ⟨"MistHeaps$Heap", "leadsTo", "(I)Z"⟩ yX3_leadsTo wsX3_leadsTo) := goodIn_app (goodIn_of _ (by decide +kernel)) ggX2_tellGoing_X3_leadsTo
set_option maxRecDepth 20000 in
theorem ggX2_tellGoing_X10_leadsTo : GoodIn wsX2_tellGoing wsX10_leadsTo := goodIn_r _ [40, 41, 42, 43, 44, 16, 6, 17, 45, 46, 39, 47, 19, 20, 48, 49, 50, 51, 52, 53, 54, 55, 56, 57, 58, 59, 60, 61, 62, 63, 64, 65, 66, 67, 68, 69, 70, 71, 72, 73, 74, 75] (by decide +kernel) (by decide +kernel)
set_option maxRecDepth 20000 in
theorem gX2_tellGoing_X10_leadsTo_u62X10 : GoodIn wsX2_tellGoing (va_wsO RX2 62 RX10 "MistHeaps$Heap" ⟨"MistHeaps$Heap", "leadsTo", "(I)Z"⟩ yX10_leadsTo wsX10_leadsTo) := goodIn_app (goodIn_of _ (by decide +kernel)) ggX2_tellGoing_X10_leadsTo
theorem dX2_tellGoing_0 : decode cX2_tellGoing 0 = .ok (.aload_n 1, 1) := by decide +kernel
theorem dX2_tellGoing_1 : decode cX2_tellGoing 1 = .ok (.getfield 59, 3) := by decide +kernel
theorem dX2_tellGoing_4 : decode cX2_tellGoing 4 = .ok (.aload_n 2, 1) := by decide +kernel
theorem dX2_tellGoing_5 : decode cX2_tellGoing 5 = .ok (.getfield 59, 3) := by decide +kernel
theorem dX2_tellGoing_8 : decode cX2_tellGoing 8 = .ok (.if_icmp .eq 41, 3) := by decide +kernel
theorem dX2_tellGoing_11 : decode cX2_tellGoing 11 = .ok (.aload_n 1, 1) := by decide +kernel
theorem dX2_tellGoing_12 : decode cX2_tellGoing 12 = .ok (.getfield 41, 3) := by decide +kernel
theorem dX2_tellGoing_15 : decode cX2_tellGoing 15 = .ok (.aload_n 2, 1) := by decide +kernel
theorem dX2_tellGoing_16 : decode cX2_tellGoing 16 = .ok (.getfield 41, 3) := by decide +kernel
theorem dX2_tellGoing_19 : decode cX2_tellGoing 19 = .ok (.invokestatic 44, 3) := by decide +kernel
theorem dX2_tellGoing_22 : decode cX2_tellGoing 22 = .ok (.aload_n 0, 1) := by decide +kernel
theorem dX2_tellGoing_23 : decode cX2_tellGoing 23 = .ok (.getfield 9, 3) := by decide +kernel
theorem dX2_tellGoing_26 : decode cX2_tellGoing 26 = .ok (.aload_n 2, 1) := by decide +kernel
theorem dX2_tellGoing_27 : decode cX2_tellGoing 27 = .ok (.getfield 59, 3) := by decide +kernel
theorem dX2_tellGoing_30 : decode cX2_tellGoing 30 = .ok (.iaload, 1) := by decide +kernel
theorem dX2_tellGoing_31 : decode cX2_tellGoing 31 = .ok (.if_icmp .gt 18, 3) := by decide +kernel
theorem dX2_tellGoing_34 : decode cX2_tellGoing 34 = .ok (.aload_n 1, 1) := by decide +kernel
theorem dX2_tellGoing_35 : decode cX2_tellGoing 35 = .ok (.aload_n 2, 1) := by decide +kernel
theorem dX2_tellGoing_36 : decode cX2_tellGoing 36 = .ok (.getfield 41, 3) := by decide +kernel
theorem dX2_tellGoing_39 : decode cX2_tellGoing 39 = .ok (.invokevirtual 62, 3) := by decide +kernel
theorem dX2_tellGoing_42 : decode cX2_tellGoing 42 = .ok (.ifCond .eq 7, 3) := by decide +kernel
theorem dX2_tellGoing_45 : decode cX2_tellGoing 45 = .ok (.iconst 1, 1) := by decide +kernel
theorem dX2_tellGoing_46 : decode cX2_tellGoing 46 = .ok (.goto 4, 3) := by decide +kernel
theorem dX2_tellGoing_49 : decode cX2_tellGoing 49 = .ok (.iconst 0, 1) := by decide +kernel
theorem dX2_tellGoing_50 : decode cX2_tellGoing 50 = .ok (.istore_n 3, 1) := by decide +kernel
theorem dX2_tellGoing_51 : decode cX2_tellGoing 51 = .ok (.iconst 1, 1) := by decide +kernel
theorem dX2_tellGoing_52 : decode cX2_tellGoing 52 = .ok (.aload_n 2, 1) := by decide +kernel
theorem dX2_tellGoing_53 : decode cX2_tellGoing 53 = .ok (.getfield 59, 3) := by decide +kernel
theorem dX2_tellGoing_56 : decode cX2_tellGoing 56 = .ok (.ishl, 1) := by decide +kernel
theorem dX2_tellGoing_57 : decode cX2_tellGoing 57 = .ok (.istore 4, 2) := by decide +kernel
theorem dX2_tellGoing_59 : decode cX2_tellGoing 59 = .ok (.aload_n 0, 1) := by decide +kernel
theorem dX2_tellGoing_60 : decode cX2_tellGoing 60 = .ok (.getfield 15, 3) := by decide +kernel
theorem dX2_tellGoing_63 : decode cX2_tellGoing 63 = .ok (.aload_n 1, 1) := by decide +kernel
theorem dX2_tellGoing_64 : decode cX2_tellGoing 64 = .ok (.getfield 59, 3) := by decide +kernel
theorem dX2_tellGoing_67 : decode cX2_tellGoing 67 = .ok (.iload_n 3, 1) := by decide +kernel
theorem dX2_tellGoing_68 : decode cX2_tellGoing 68 = .ok (.ifCond .eq 18, 3) := by decide +kernel
theorem dX2_tellGoing_71 : decode cX2_tellGoing 71 = .ok (.aload_n 0, 1) := by decide +kernel
theorem dX2_tellGoing_72 : decode cX2_tellGoing 72 = .ok (.getfield 15, 3) := by decide +kernel
theorem dX2_tellGoing_75 : decode cX2_tellGoing 75 = .ok (.aload_n 1, 1) := by decide +kernel
theorem dX2_tellGoing_76 : decode cX2_tellGoing 76 = .ok (.getfield 59, 3) := by decide +kernel
theorem dX2_tellGoing_79 : decode cX2_tellGoing 79 = .ok (.iaload, 1) := by decide +kernel
theorem dX2_tellGoing_80 : decode cX2_tellGoing 80 = .ok (.iload 4, 2) := by decide +kernel
theorem dX2_tellGoing_82 : decode cX2_tellGoing 82 = .ok (.ior, 1) := by decide +kernel
theorem dX2_tellGoing_83 : decode cX2_tellGoing 83 = .ok (.goto 17, 3) := by decide +kernel
theorem dX2_tellGoing_86 : decode cX2_tellGoing 86 = .ok (.aload_n 0, 1) := by decide +kernel
theorem dX2_tellGoing_87 : decode cX2_tellGoing 87 = .ok (.getfield 15, 3) := by decide +kernel
theorem dX2_tellGoing_90 : decode cX2_tellGoing 90 = .ok (.aload_n 1, 1) := by decide +kernel
theorem dX2_tellGoing_91 : decode cX2_tellGoing 91 = .ok (.getfield 59, 3) := by decide +kernel
theorem dX2_tellGoing_94 : decode cX2_tellGoing 94 = .ok (.iaload, 1) := by decide +kernel
theorem dX2_tellGoing_95 : decode cX2_tellGoing 95 = .ok (.iload 4, 2) := by decide +kernel
theorem dX2_tellGoing_97 : decode cX2_tellGoing 97 = .ok (.iconst (-1), 1) := by decide +kernel
theorem dX2_tellGoing_98 : decode cX2_tellGoing 98 = .ok (.ixor, 1) := by decide +kernel
theorem dX2_tellGoing_99 : decode cX2_tellGoing 99 = .ok (.iand, 1) := by decide +kernel
theorem dX2_tellGoing_100 : decode cX2_tellGoing 100 = .ok (.iastore, 1) := by decide +kernel
theorem dX2_tellGoing_101 : decode cX2_tellGoing 101 = .ok (.return_, 1) := by decide +kernel
theorem dX2_isGoing_0 : decode cX2_isGoing 0 = .ok (.aload_n 0, 1) := by decide +kernel
theorem dX2_isGoing_1 : decode cX2_isGoing 1 = .ok (.getfield 15, 3) := by decide +kernel
theorem dX2_isGoing_4 : decode cX2_isGoing 4 = .ok (.iload_n 1, 1) := by decide +kernel
theorem dX2_isGoing_5 : decode cX2_isGoing 5 = .ok (.iaload, 1) := by decide +kernel
theorem dX2_isGoing_6 : decode cX2_isGoing 6 = .ok (.iload_n 2, 1) := by decide +kernel
theorem dX2_isGoing_7 : decode cX2_isGoing 7 = .ok (.ishr, 1) := by decide +kernel
theorem dX2_isGoing_8 : decode cX2_isGoing 8 = .ok (.iconst 1, 1) := by decide +kernel
theorem dX2_isGoing_9 : decode cX2_isGoing 9 = .ok (.iand, 1) := by decide +kernel
theorem dX2_isGoing_10 : decode cX2_isGoing 10 = .ok (.iconst 1, 1) := by decide +kernel
theorem dX2_isGoing_11 : decode cX2_isGoing 11 = .ok (.if_icmp .ne 7, 3) := by decide +kernel
theorem dX2_isGoing_14 : decode cX2_isGoing 14 = .ok (.iconst 1, 1) := by decide +kernel
theorem dX2_isGoing_15 : decode cX2_isGoing 15 = .ok (.goto 4, 3) := by decide +kernel
theorem dX2_isGoing_18 : decode cX2_isGoing 18 = .ok (.iconst 0, 1) := by decide +kernel
theorem dX2_isGoing_19 : decode cX2_isGoing 19 = .ok (.ireturn, 1) := by decide +kernel
set_option maxRecDepth 20000 in
theorem ggX2_fewest_X2_onwardFrom : GoodIn wsX2_fewest wsX2_onwardFrom := goodIn_r _ [5, 6, 7, 8, 9, 10, 11] (by decide +kernel) (by decide +kernel)
set_option maxRecDepth 20000 in
theorem gX2_fewest_X2_onwardFrom : GoodIn wsX2_fewest (wsV RX2 66 RX2 yX2_onwardFrom wsX2_onwardFrom) := goodIn_app (goodIn_of _ (by decide +kernel)) ggX2_fewest_X2_onwardFrom
theorem dX2_fewest_0 : decode cX2_fewest 0 = .ok (.iload_n 1, 1) := by decide +kernel
theorem dX2_fewest_1 : decode cX2_fewest 1 = .ok (.iload_n 2, 1) := by decide +kernel
theorem dX2_fewest_2 : decode cX2_fewest 2 = .ok (.if_icmp .ne 5, 3) := by decide +kernel
theorem dX2_fewest_5 : decode cX2_fewest 5 = .ok (.iconst 0, 1) := by decide +kernel
theorem dX2_fewest_6 : decode cX2_fewest 6 = .ok (.ireturn, 1) := by decide +kernel
theorem dX2_fewest_7 : decode cX2_fewest 7 = .ok (.iconst 1, 1) := by decide +kernel
theorem dX2_fewest_8 : decode cX2_fewest 8 = .ok (.iload_n 1, 1) := by decide +kernel
theorem dX2_fewest_9 : decode cX2_fewest 9 = .ok (.ishl, 1) := by decide +kernel
theorem dX2_fewest_10 : decode cX2_fewest 10 = .ok (.istore 4, 2) := by decide +kernel
theorem dX2_fewest_12 : decode cX2_fewest 12 = .ok (.iload 4, 2) := by decide +kernel
theorem dX2_fewest_14 : decode cX2_fewest 14 = .ok (.istore 5, 2) := by decide +kernel
theorem dX2_fewest_16 : decode cX2_fewest 16 = .ok (.iconst 1, 1) := by decide +kernel
theorem dX2_fewest_17 : decode cX2_fewest 17 = .ok (.istore 6, 2) := by decide +kernel
theorem dX2_fewest_19 : decode cX2_fewest 19 = .ok (.iload 6, 2) := by decide +kernel
theorem dX2_fewest_21 : decode cX2_fewest 21 = .ok (.bipush 8, 2) := by decide +kernel
theorem dX2_fewest_23 : decode cX2_fewest 23 = .ok (.if_icmp .ge 49, 3) := by decide +kernel
theorem dX2_fewest_26 : decode cX2_fewest 26 = .ok (.iload 5, 2) := by decide +kernel
theorem dX2_fewest_28 : decode cX2_fewest 28 = .ok (.ifCond .eq 44, 3) := by decide +kernel
theorem dX2_fewest_31 : decode cX2_fewest 31 = .ok (.aload_n 0, 1) := by decide +kernel
theorem dX2_fewest_32 : decode cX2_fewest 32 = .ok (.iload 5, 2) := by decide +kernel
theorem dX2_fewest_34 : decode cX2_fewest 34 = .ok (.invokevirtual 66, 3) := by decide +kernel
theorem dX2_fewest_37 : decode cX2_fewest 37 = .ok (.iload 4, 2) := by decide +kernel
theorem dX2_fewest_39 : decode cX2_fewest 39 = .ok (.iload_n 3, 1) := by decide +kernel
theorem dX2_fewest_40 : decode cX2_fewest 40 = .ok (.ior, 1) := by decide +kernel
theorem dX2_fewest_41 : decode cX2_fewest 41 = .ok (.iconst (-1), 1) := by decide +kernel
theorem dX2_fewest_42 : decode cX2_fewest 42 = .ok (.ixor, 1) := by decide +kernel
theorem dX2_fewest_43 : decode cX2_fewest 43 = .ok (.iand, 1) := by decide +kernel
theorem dX2_fewest_44 : decode cX2_fewest 44 = .ok (.istore 5, 2) := by decide +kernel
theorem dX2_fewest_46 : decode cX2_fewest 46 = .ok (.iload 5, 2) := by decide +kernel
theorem dX2_fewest_48 : decode cX2_fewest 48 = .ok (.iload_n 2, 1) := by decide +kernel
theorem dX2_fewest_49 : decode cX2_fewest 49 = .ok (.ishr, 1) := by decide +kernel
theorem dX2_fewest_50 : decode cX2_fewest 50 = .ok (.iconst 1, 1) := by decide +kernel
theorem dX2_fewest_51 : decode cX2_fewest 51 = .ok (.iand, 1) := by decide +kernel
theorem dX2_fewest_52 : decode cX2_fewest 52 = .ok (.iconst 1, 1) := by decide +kernel
theorem dX2_fewest_53 : decode cX2_fewest 53 = .ok (.if_icmp .ne 6, 3) := by decide +kernel
theorem dX2_fewest_56 : decode cX2_fewest 56 = .ok (.iload 6, 2) := by decide +kernel
theorem dX2_fewest_58 : decode cX2_fewest 58 = .ok (.ireturn, 1) := by decide +kernel
theorem dX2_fewest_59 : decode cX2_fewest 59 = .ok (.iload 4, 2) := by decide +kernel
theorem dX2_fewest_61 : decode cX2_fewest 61 = .ok (.iload 5, 2) := by decide +kernel
theorem dX2_fewest_63 : decode cX2_fewest 63 = .ok (.ior, 1) := by decide +kernel
theorem dX2_fewest_64 : decode cX2_fewest 64 = .ok (.istore 4, 2) := by decide +kernel
theorem dX2_fewest_66 : decode cX2_fewest 66 = .ok (.iinc 6 1, 3) := by decide +kernel
theorem dX2_fewest_69 : decode cX2_fewest 69 = .ok (.goto (-50), 3) := by decide +kernel
theorem dX2_fewest_72 : decode cX2_fewest 72 = .ok (.bipush (-5), 2) := by decide +kernel
theorem dX2_fewest_74 : decode cX2_fewest 74 = .ok (.ireturn, 1) := by decide +kernel
theorem dX2_onwardFrom_0 : decode cX2_onwardFrom 0 = .ok (.iconst 0, 1) := by decide +kernel
theorem dX2_onwardFrom_1 : decode cX2_onwardFrom 1 = .ok (.istore_n 2, 1) := by decide +kernel
theorem dX2_onwardFrom_2 : decode cX2_onwardFrom 2 = .ok (.iconst 0, 1) := by decide +kernel
theorem dX2_onwardFrom_3 : decode cX2_onwardFrom 3 = .ok (.istore_n 3, 1) := by decide +kernel
theorem dX2_onwardFrom_4 : decode cX2_onwardFrom 4 = .ok (.iload_n 3, 1) := by decide +kernel
theorem dX2_onwardFrom_5 : decode cX2_onwardFrom 5 = .ok (.aload_n 0, 1) := by decide +kernel
theorem dX2_onwardFrom_6 : decode cX2_onwardFrom 6 = .ok (.getfield 52, 3) := by decide +kernel
theorem dX2_onwardFrom_9 : decode cX2_onwardFrom 9 = .ok (.if_icmp .ge 27, 3) := by decide +kernel
theorem dX2_onwardFrom_12 : decode cX2_onwardFrom 12 = .ok (.iload_n 1, 1) := by decide +kernel
theorem dX2_onwardFrom_13 : decode cX2_onwardFrom 13 = .ok (.iload_n 3, 1) := by decide +kernel
theorem dX2_onwardFrom_14 : decode cX2_onwardFrom 14 = .ok (.ishr, 1) := by decide +kernel
theorem dX2_onwardFrom_15 : decode cX2_onwardFrom 15 = .ok (.iconst 1, 1) := by decide +kernel
theorem dX2_onwardFrom_16 : decode cX2_onwardFrom 16 = .ok (.iand, 1) := by decide +kernel
theorem dX2_onwardFrom_17 : decode cX2_onwardFrom 17 = .ok (.iconst 1, 1) := by decide +kernel
theorem dX2_onwardFrom_18 : decode cX2_onwardFrom 18 = .ok (.if_icmp .ne 12, 3) := by decide +kernel
theorem dX2_onwardFrom_21 : decode cX2_onwardFrom 21 = .ok (.iload_n 2, 1) := by decide +kernel
theorem dX2_onwardFrom_22 : decode cX2_onwardFrom 22 = .ok (.aload_n 0, 1) := by decide +kernel
theorem dX2_onwardFrom_23 : decode cX2_onwardFrom 23 = .ok (.getfield 15, 3) := by decide +kernel
theorem dX2_onwardFrom_26 : decode cX2_onwardFrom 26 = .ok (.iload_n 3, 1) := by decide +kernel
theorem dX2_onwardFrom_27 : decode cX2_onwardFrom 27 = .ok (.iaload, 1) := by decide +kernel
theorem dX2_onwardFrom_28 : decode cX2_onwardFrom 28 = .ok (.ior, 1) := by decide +kernel
theorem dX2_onwardFrom_29 : decode cX2_onwardFrom 29 = .ok (.istore_n 2, 1) := by decide +kernel
theorem dX2_onwardFrom_30 : decode cX2_onwardFrom 30 = .ok (.iinc 3 1, 3) := by decide +kernel
theorem dX2_onwardFrom_33 : decode cX2_onwardFrom 33 = .ok (.goto (-29), 3) := by decide +kernel
theorem dX2_onwardFrom_36 : decode cX2_onwardFrom 36 = .ok (.iload_n 2, 1) := by decide +kernel
theorem dX2_onwardFrom_37 : decode cX2_onwardFrom 37 = .ok (.ireturn, 1) := by decide +kernel
set_option maxRecDepth 20000 in
theorem ggX2_first_X2_fewest : GoodIn wsX2_first wsX2_fewest := goodIn_r _ [6, 7, 8, 9, 5, 10, 1, 11, 16, 17, 18, 19] (by decide +kernel) (by decide +kernel)
set_option maxRecDepth 20000 in
theorem gX2_first_X2_fewest : GoodIn wsX2_first (wsV RX2 70 RX2 yX2_fewest wsX2_fewest) := goodIn_app (goodIn_of _ (by decide +kernel)) ggX2_first_X2_fewest
set_option maxRecDepth 20000 in
theorem ggX2_first_X2_isGoing : GoodIn wsX2_first wsX2_isGoing := goodIn_r _ [15, 11, 16, 17, 18, 19] (by decide +kernel) (by decide +kernel)
set_option maxRecDepth 20000 in
theorem gX2_first_X2_isGoing : GoodIn wsX2_first (wsV RX2 74 RX2 yX2_isGoing wsX2_isGoing) := goodIn_app (goodIn_of _ (by decide +kernel)) ggX2_first_X2_isGoing
theorem dX2_first_0 : decode cX2_first 0 = .ok (.aload_n 0, 1) := by decide +kernel
theorem dX2_first_1 : decode cX2_first 1 = .ok (.iload_n 1, 1) := by decide +kernel
theorem dX2_first_2 : decode cX2_first 2 = .ok (.iload_n 2, 1) := by decide +kernel
theorem dX2_first_3 : decode cX2_first 3 = .ok (.iconst 0, 1) := by decide +kernel
theorem dX2_first_4 : decode cX2_first 4 = .ok (.invokevirtual 70, 3) := by decide +kernel
theorem dX2_first_7 : decode cX2_first 7 = .ok (.istore_n 3, 1) := by decide +kernel
theorem dX2_first_8 : decode cX2_first 8 = .ok (.iload_n 3, 1) := by decide +kernel
theorem dX2_first_9 : decode cX2_first 9 = .ok (.bipush (-5), 2) := by decide +kernel
theorem dX2_first_11 : decode cX2_first 11 = .ok (.if_icmp .eq 7, 3) := by decide +kernel
theorem dX2_first_14 : decode cX2_first 14 = .ok (.iload_n 3, 1) := by decide +kernel
theorem dX2_first_15 : decode cX2_first 15 = .ok (.ifCond .ne 6, 3) := by decide +kernel
theorem dX2_first_18 : decode cX2_first 18 = .ok (.bipush (-5), 2) := by decide +kernel
theorem dX2_first_20 : decode cX2_first 20 = .ok (.ireturn, 1) := by decide +kernel
theorem dX2_first_21 : decode cX2_first 21 = .ok (.iconst 0, 1) := by decide +kernel
theorem dX2_first_22 : decode cX2_first 22 = .ok (.istore 4, 2) := by decide +kernel
theorem dX2_first_24 : decode cX2_first 24 = .ok (.iload 4, 2) := by decide +kernel
theorem dX2_first_26 : decode cX2_first 26 = .ok (.aload_n 0, 1) := by decide +kernel
theorem dX2_first_27 : decode cX2_first 27 = .ok (.getfield 52, 3) := by decide +kernel
theorem dX2_first_30 : decode cX2_first 30 = .ok (.if_icmp .ge 36, 3) := by decide +kernel
theorem dX2_first_33 : decode cX2_first 33 = .ok (.aload_n 0, 1) := by decide +kernel
theorem dX2_first_34 : decode cX2_first 34 = .ok (.iload_n 1, 1) := by decide +kernel
theorem dX2_first_35 : decode cX2_first 35 = .ok (.iload 4, 2) := by decide +kernel
theorem dX2_first_37 : decode cX2_first 37 = .ok (.invokevirtual 74, 3) := by decide +kernel
theorem dX2_first_40 : decode cX2_first 40 = .ok (.ifCond .eq 20, 3) := by decide +kernel
theorem dX2_first_43 : decode cX2_first 43 = .ok (.aload_n 0, 1) := by decide +kernel
theorem dX2_first_44 : decode cX2_first 44 = .ok (.iload 4, 2) := by decide +kernel
theorem dX2_first_46 : decode cX2_first 46 = .ok (.iload_n 2, 1) := by decide +kernel
theorem dX2_first_47 : decode cX2_first 47 = .ok (.iconst 0, 1) := by decide +kernel
theorem dX2_first_48 : decode cX2_first 48 = .ok (.invokevirtual 70, 3) := by decide +kernel
theorem dX2_first_51 : decode cX2_first 51 = .ok (.iload_n 3, 1) := by decide +kernel
theorem dX2_first_52 : decode cX2_first 52 = .ok (.iconst 1, 1) := by decide +kernel
theorem dX2_first_53 : decode cX2_first 53 = .ok (.isub, 1) := by decide +kernel
theorem dX2_first_54 : decode cX2_first 54 = .ok (.if_icmp .ne 6, 3) := by decide +kernel
theorem dX2_first_57 : decode cX2_first 57 = .ok (.iload 4, 2) := by decide +kernel
theorem dX2_first_59 : decode cX2_first 59 = .ok (.ireturn, 1) := by decide +kernel
theorem dX2_first_60 : decode cX2_first 60 = .ok (.iinc 4 1, 3) := by decide +kernel
theorem dX2_first_63 : decode cX2_first 63 = .ok (.goto (-39), 3) := by decide +kernel
theorem dX2_first_66 : decode cX2_first 66 = .ok (.bipush (-5), 2) := by decide +kernel
theorem dX2_first_68 : decode cX2_first 68 = .ok (.ireturn, 1) := by decide +kernel
set_option maxRecDepth 20000 in
theorem ggX2_breaks_X2_fewest : GoodIn wsX2_breaks wsX2_fewest := goodIn_r _ [6, 7, 8, 9, 5, 10, 1, 11, 12, 13, 14, 15] (by decide +kernel) (by decide +kernel)
set_option maxRecDepth 20000 in
theorem gX2_breaks_X2_fewest : GoodIn wsX2_breaks (wsV RX2 70 RX2 yX2_fewest wsX2_fewest) := goodIn_app (goodIn_of _ (by decide +kernel)) ggX2_breaks_X2_fewest
theorem dX2_breaks_0 : decode cX2_breaks 0 = .ok (.aload_n 0, 1) := by decide +kernel
theorem dX2_breaks_1 : decode cX2_breaks 1 = .ok (.iload_n 1, 1) := by decide +kernel
theorem dX2_breaks_2 : decode cX2_breaks 2 = .ok (.iload_n 2, 1) := by decide +kernel
theorem dX2_breaks_3 : decode cX2_breaks 3 = .ok (.iconst 0, 1) := by decide +kernel
theorem dX2_breaks_4 : decode cX2_breaks 4 = .ok (.invokevirtual 70, 3) := by decide +kernel
theorem dX2_breaks_7 : decode cX2_breaks 7 = .ok (.bipush (-5), 2) := by decide +kernel
theorem dX2_breaks_9 : decode cX2_breaks 9 = .ok (.if_icmp .ne 5, 3) := by decide +kernel
theorem dX2_breaks_12 : decode cX2_breaks 12 = .ok (.iconst 0, 1) := by decide +kernel
theorem dX2_breaks_13 : decode cX2_breaks 13 = .ok (.ireturn, 1) := by decide +kernel
theorem dX2_breaks_14 : decode cX2_breaks 14 = .ok (.iconst 0, 1) := by decide +kernel
theorem dX2_breaks_15 : decode cX2_breaks 15 = .ok (.istore_n 3, 1) := by decide +kernel
theorem dX2_breaks_16 : decode cX2_breaks 16 = .ok (.iconst 0, 1) := by decide +kernel
theorem dX2_breaks_17 : decode cX2_breaks 17 = .ok (.istore 4, 2) := by decide +kernel
theorem dX2_breaks_19 : decode cX2_breaks 19 = .ok (.iload 4, 2) := by decide +kernel
theorem dX2_breaks_21 : decode cX2_breaks 21 = .ok (.aload_n 0, 1) := by decide +kernel
theorem dX2_breaks_22 : decode cX2_breaks 22 = .ok (.getfield 52, 3) := by decide +kernel
theorem dX2_breaks_25 : decode cX2_breaks 25 = .ok (.if_icmp .ge 43, 3) := by decide +kernel
theorem dX2_breaks_28 : decode cX2_breaks 28 = .ok (.iload 4, 2) := by decide +kernel
theorem dX2_breaks_30 : decode cX2_breaks 30 = .ok (.iload_n 1, 1) := by decide +kernel
theorem dX2_breaks_31 : decode cX2_breaks 31 = .ok (.if_icmp .eq 31, 3) := by decide +kernel
theorem dX2_breaks_34 : decode cX2_breaks 34 = .ok (.iload 4, 2) := by decide +kernel
theorem dX2_breaks_36 : decode cX2_breaks 36 = .ok (.iload_n 2, 1) := by decide +kernel
theorem dX2_breaks_37 : decode cX2_breaks 37 = .ok (.if_icmp .eq 25, 3) := by decide +kernel
theorem dX2_breaks_40 : decode cX2_breaks 40 = .ok (.aload_n 0, 1) := by decide +kernel
theorem dX2_breaks_41 : decode cX2_breaks 41 = .ok (.iload_n 1, 1) := by decide +kernel
theorem dX2_breaks_42 : decode cX2_breaks 42 = .ok (.iload_n 2, 1) := by decide +kernel
theorem dX2_breaks_43 : decode cX2_breaks 43 = .ok (.iconst 1, 1) := by decide +kernel
theorem dX2_breaks_44 : decode cX2_breaks 44 = .ok (.iload 4, 2) := by decide +kernel
theorem dX2_breaks_46 : decode cX2_breaks 46 = .ok (.ishl, 1) := by decide +kernel
theorem dX2_breaks_47 : decode cX2_breaks 47 = .ok (.invokevirtual 70, 3) := by decide +kernel
theorem dX2_breaks_50 : decode cX2_breaks 50 = .ok (.bipush (-5), 2) := by decide +kernel
theorem dX2_breaks_52 : decode cX2_breaks 52 = .ok (.if_icmp .ne 10, 3) := by decide +kernel
theorem dX2_breaks_55 : decode cX2_breaks 55 = .ok (.iload_n 3, 1) := by decide +kernel
theorem dX2_breaks_56 : decode cX2_breaks 56 = .ok (.iconst 1, 1) := by decide +kernel
theorem dX2_breaks_57 : decode cX2_breaks 57 = .ok (.iload 4, 2) := by decide +kernel
theorem dX2_breaks_59 : decode cX2_breaks 59 = .ok (.ishl, 1) := by decide +kernel
theorem dX2_breaks_60 : decode cX2_breaks 60 = .ok (.ior, 1) := by decide +kernel
theorem dX2_breaks_61 : decode cX2_breaks 61 = .ok (.istore_n 3, 1) := by decide +kernel
theorem dX2_breaks_62 : decode cX2_breaks 62 = .ok (.iinc 4 1, 3) := by decide +kernel
theorem dX2_breaks_65 : decode cX2_breaks 65 = .ok (.goto (-46), 3) := by decide +kernel
theorem dX2_breaks_68 : decode cX2_breaks 68 = .ok (.iload_n 3, 1) := by decide +kernel
theorem dX2_breaks_69 : decode cX2_breaks 69 = .ok (.ireturn, 1) := by decide +kernel
set_option maxRecDepth 20000 in
theorem ggX2_bestCell_X2_link : GoodIn wsX2_bestCell wsX2_link := goodIn_r _ [7, 1, 8, 9, 10, 11, 12, 13, 6, 14, 15, 16, 17, 18, 19, 20, 21, 22, 23, 24, 25, 26, 27, 28, 29, 30, 31, 32, 33, 34, 35, 36, 37, 38, 39, 40, 41, 42, 43, 44, 45, 46, 47, 48, 49, 50, 51, 52, 53, 54, 55, 56, 57, 58, 59, 60, 61, 62, 63, 64, 65, 66, 67, 68, 69, 70, 71, 72, 73, 74, 75, 76, 77, 78, 79, 80, 81, 82, 83, 84, 85, 86, 87, 88, 89, 90, 91, 92, 93, 94, 95, 96, 97, 98, 99, 100, 101, 102, 103, 104, 105, 106, 107, 108, 109, 110, 111, 112, 113, 114, 115, 116, 117, 118, 119, 120, 121, 122, 123, 124, 125, 126, 127, 128, 129, 130, 131, 132, 133, 134, 135, 136, 137, 157, 158, 159, 160, 161, 162, 163, 164, 165, 166, 167, 168, 169, 170, 171, 172, 173, 174, 175, 176, 177, 178, 179, 180, 181, 182, 183, 184, 185, 186, 187, 188, 189, 190, 191, 192, 193, 194, 195, 196, 197, 198, 199, 200, 201, 202, 203, 204, 205, 206, 207, 208, 209, 210, 211, 212, 213] (by decide +kernel) (by decide +kernel)
set_option maxRecDepth 20000 in
theorem gX2_bestCell_X2_link : GoodIn wsX2_bestCell (wsV RX2 81 RX2 yX2_link wsX2_link) := goodIn_app (goodIn_of _ (by decide +kernel)) ggX2_bestCell_X2_link
set_option maxRecDepth 20000 in
theorem ggX2_bestCell_X2_fewest : GoodIn wsX2_bestCell wsX2_fewest := goodIn_r _ [141, 142, 143, 144, 6, 145, 8, 9, 171, 172, 173, 174] (by decide +kernel) (by decide +kernel)
set_option maxRecDepth 20000 in
theorem gX2_bestCell_X2_fewest : GoodIn wsX2_bestCell (wsV RX2 70 RX2 yX2_fewest wsX2_fewest) := goodIn_app (goodIn_of _ (by decide +kernel)) ggX2_bestCell_X2_fewest
set_option maxRecDepth 20000 in
theorem ggX2_bestCell_X8_isTaken : GoodIn wsX2_bestCell wsX8_isTaken := goodIn_r _ [149, 150, 151, 23, 157, 158, 159, 160, 161, 162, 163, 164, 165, 166, 167, 168, 169, 170, 175, 176, 177, 178, 179, 180, 181, 182, 183, 184, 185, 186, 187, 188, 189, 190, 191, 192, 193, 194, 195, 196, 197, 198, 199, 200, 201, 202] (by decide +kernel) (by decide +kernel)
set_option maxRecDepth 20000 in
theorem gX2_bestCell_X8_isTaken : GoodIn wsX2_bestCell (wsV RX2 84 RX8 yX8_isTaken wsX8_isTaken) := goodIn_app (goodIn_of _ (by decide +kernel)) ggX2_bestCell_X8_isTaken
set_option maxRecDepth 20000 in
theorem ggX2_bestCell_X2_join : GoodIn wsX2_bestCell wsX2_join := goodIn_r _ [155, 1, 156, 102, 103, 15, 2, 8, 10, 16, 17, 18, 19, 20, 21, 22, 23, 24, 25, 26, 27, 28, 29, 30, 31, 32, 33, 34, 35, 36, 37, 38, 39, 40, 41, 42, 43, 44, 45, 46, 47, 48, 49, 50, 51, 52, 53, 54, 55, 56, 57, 58, 59, 60, 61, 62, 63, 64, 65, 66, 67, 68, 69, 70, 71, 72, 73, 74, 75, 76, 77, 78, 79, 80, 81, 82, 83, 84, 85, 86, 87, 88, 89, 90, 91, 92, 93, 94, 95, 96, 97, 98, 99, 100, 6, 101, 9, 104, 105, 106, 107, 108, 109, 110, 111, 112, 113, 114, 115, 116, 117, 118, 119, 120, 121, 122, 123, 124, 125, 126, 127, 128, 129, 130, 131, 132, 133, 134, 135, 136, 137, 157, 158, 159, 160, 161, 162, 163, 164, 165, 166, 167, 168, 169, 170, 171, 172, 173, 174, 175, 176, 177, 178, 179, 180, 181, 182, 183, 184, 185, 186, 187, 188, 189, 190, 191, 192, 193, 194, 195, 196, 197, 198, 199, 200, 201, 202, 203, 204, 205, 206, 207, 208, 209, 210, 211, 212, 213] (by decide +kernel) (by decide +kernel)
set_option maxRecDepth 20000 in
theorem gX2_bestCell_X2_join : GoodIn wsX2_bestCell (wsV RX2 87 RX2 yX2_join wsX2_join) := goodIn_app (goodIn_of _ (by decide +kernel)) ggX2_bestCell_X2_join
theorem dX2_bestCell_0 : decode cX2_bestCell 0 = .ok (.aload_n 1, 1) := by decide +kernel
theorem dX2_bestCell_1 : decode cX2_bestCell 1 = .ok (.getfield 27, 3) := by decide +kernel
theorem dX2_bestCell_4 : decode cX2_bestCell 4 = .ok (.bipush 8, 2) := by decide +kernel
theorem dX2_bestCell_6 : decode cX2_bestCell 6 = .ok (.if_icmp .lt 6, 3) := by decide +kernel
theorem dX2_bestCell_9 : decode cX2_bestCell 9 = .ok (.bipush (-5), 2) := by decide +kernel
theorem dX2_bestCell_11 : decode cX2_bestCell 11 = .ok (.ireturn, 1) := by decide +kernel
theorem dX2_bestCell_12 : decode cX2_bestCell 12 = .ok (.aload_n 0, 1) := by decide +kernel
theorem dX2_bestCell_13 : decode cX2_bestCell 13 = .ok (.aload_n 1, 1) := by decide +kernel
theorem dX2_bestCell_14 : decode cX2_bestCell 14 = .ok (.aload_n 1, 1) := by decide +kernel
theorem dX2_bestCell_15 : decode cX2_bestCell 15 = .ok (.getfield 78, 3) := by decide +kernel
theorem dX2_bestCell_18 : decode cX2_bestCell 18 = .ok (.invokevirtual 81, 3) := by decide +kernel
theorem dX2_bestCell_21 : decode cX2_bestCell 21 = .ok (.aload_n 0, 1) := by decide +kernel
theorem dX2_bestCell_22 : decode cX2_bestCell 22 = .ok (.iload_n 2, 1) := by decide +kernel
theorem dX2_bestCell_23 : decode cX2_bestCell 23 = .ok (.iload_n 3, 1) := by decide +kernel
theorem dX2_bestCell_24 : decode cX2_bestCell 24 = .ok (.iconst 0, 1) := by decide +kernel
theorem dX2_bestCell_25 : decode cX2_bestCell 25 = .ok (.invokevirtual 70, 3) := by decide +kernel
theorem dX2_bestCell_28 : decode cX2_bestCell 28 = .ok (.istore 4, 2) := by decide +kernel
theorem dX2_bestCell_30 : decode cX2_bestCell 30 = .ok (.bipush (-5), 2) := by decide +kernel
theorem dX2_bestCell_32 : decode cX2_bestCell 32 = .ok (.istore 5, 2) := by decide +kernel
theorem dX2_bestCell_34 : decode cX2_bestCell 34 = .ok (.iconst 0, 1) := by decide +kernel
theorem dX2_bestCell_35 : decode cX2_bestCell 35 = .ok (.istore 6, 2) := by decide +kernel
theorem dX2_bestCell_37 : decode cX2_bestCell 37 = .ok (.iload 6, 2) := by decide +kernel
theorem dX2_bestCell_39 : decode cX2_bestCell 39 = .ok (.bipush 36, 2) := by decide +kernel
theorem dX2_bestCell_41 : decode cX2_bestCell 41 = .ok (.if_icmp .ge 66, 3) := by decide +kernel
theorem dX2_bestCell_44 : decode cX2_bestCell 44 = .ok (.aload_n 1, 1) := by decide +kernel
theorem dX2_bestCell_45 : decode cX2_bestCell 45 = .ok (.iload 6, 2) := by decide +kernel
theorem dX2_bestCell_47 : decode cX2_bestCell 47 = .ok (.invokevirtual 84, 3) := by decide +kernel
theorem dX2_bestCell_50 : decode cX2_bestCell 50 = .ok (.ifCond .eq 6, 3) := by decide +kernel
theorem dX2_bestCell_53 : decode cX2_bestCell 53 = .ok (.goto 48, 3) := by decide +kernel
theorem dX2_bestCell_56 : decode cX2_bestCell 56 = .ok (.aload_n 0, 1) := by decide +kernel
theorem dX2_bestCell_57 : decode cX2_bestCell 57 = .ok (.aload_n 1, 1) := by decide +kernel
theorem dX2_bestCell_58 : decode cX2_bestCell 58 = .ok (.iload 6, 2) := by decide +kernel
theorem dX2_bestCell_60 : decode cX2_bestCell 60 = .ok (.invokevirtual 87, 3) := by decide +kernel
theorem dX2_bestCell_63 : decode cX2_bestCell 63 = .ok (.aload_n 0, 1) := by decide +kernel
theorem dX2_bestCell_64 : decode cX2_bestCell 64 = .ok (.iload_n 2, 1) := by decide +kernel
theorem dX2_bestCell_65 : decode cX2_bestCell 65 = .ok (.iload_n 3, 1) := by decide +kernel
theorem dX2_bestCell_66 : decode cX2_bestCell 66 = .ok (.iconst 0, 1) := by decide +kernel
theorem dX2_bestCell_67 : decode cX2_bestCell 67 = .ok (.invokevirtual 70, 3) := by decide +kernel
theorem dX2_bestCell_70 : decode cX2_bestCell 70 = .ok (.istore 7, 2) := by decide +kernel
theorem dX2_bestCell_72 : decode cX2_bestCell 72 = .ok (.iload 7, 2) := by decide +kernel
theorem dX2_bestCell_74 : decode cX2_bestCell 74 = .ok (.bipush (-5), 2) := by decide +kernel
theorem dX2_bestCell_76 : decode cX2_bestCell 76 = .ok (.if_icmp .eq 25, 3) := by decide +kernel
theorem dX2_bestCell_79 : decode cX2_bestCell 79 = .ok (.iload 4, 2) := by decide +kernel
theorem dX2_bestCell_81 : decode cX2_bestCell 81 = .ok (.bipush (-5), 2) := by decide +kernel
theorem dX2_bestCell_83 : decode cX2_bestCell 83 = .ok (.if_icmp .eq 10, 3) := by decide +kernel
theorem dX2_bestCell_86 : decode cX2_bestCell 86 = .ok (.iload 7, 2) := by decide +kernel
theorem dX2_bestCell_88 : decode cX2_bestCell 88 = .ok (.iload 4, 2) := by decide +kernel
theorem dX2_bestCell_90 : decode cX2_bestCell 90 = .ok (.if_icmp .ge 11, 3) := by decide +kernel
theorem dX2_bestCell_93 : decode cX2_bestCell 93 = .ok (.iload 7, 2) := by decide +kernel
theorem dX2_bestCell_95 : decode cX2_bestCell 95 = .ok (.istore 4, 2) := by decide +kernel
theorem dX2_bestCell_97 : decode cX2_bestCell 97 = .ok (.iload 6, 2) := by decide +kernel
theorem dX2_bestCell_99 : decode cX2_bestCell 99 = .ok (.istore 5, 2) := by decide +kernel
theorem dX2_bestCell_101 : decode cX2_bestCell 101 = .ok (.iinc 6 1, 3) := by decide +kernel
theorem dX2_bestCell_104 : decode cX2_bestCell 104 = .ok (.goto (-67), 3) := by decide +kernel
theorem dX2_bestCell_107 : decode cX2_bestCell 107 = .ok (.iload 5, 2) := by decide +kernel
theorem dX2_bestCell_109 : decode cX2_bestCell 109 = .ok (.ireturn, 1) := by decide +kernel
set_option maxRecDepth 20000 in
theorem ggX2_join_X8_reachOf : GoodIn wsX2_join wsX8_reachOf := goodIn_r _ [13, 14, 15, 16, 17, 18, 19, 20, 21, 22, 23, 12, 24, 25, 26, 27, 28, 29, 30, 31, 32, 33, 34, 35, 36, 37, 38, 39, 40, 41, 42, 43, 44, 45, 46, 47, 48, 49, 50, 51, 52, 53, 54, 55, 56, 57, 58, 59, 60, 61, 62, 63, 64, 65, 66, 67, 68, 69, 70, 71, 72, 73, 74, 75, 76, 77, 78, 79, 80, 81, 82, 83, 84, 85, 86, 87, 88, 89, 90, 149, 150, 151, 152, 153, 154, 155, 156, 157, 158, 159, 160, 161, 162, 163, 164, 165, 166, 167, 168, 169, 170, 171, 172, 173, 174, 175, 176, 131, 132, 133, 134, 135, 136, 137, 138, 139, 140, 141, 142, 143, 144, 177, 178, 179, 180, 181, 182, 183, 184, 185, 186, 187] (by decide +kernel) (by decide +kernel)
set_option maxRecDepth 20000 in
theorem gX2_join_X8_reachOf : GoodIn wsX2_join (wsV RX2 37 RX8 yX8_reachOf wsX8_reachOf) := goodIn_app (goodIn_of _ (by decide +kernel)) ggX2_join_X8_reachOf
set_option maxRecDepth 20000 in
theorem ggX2_join_X2_tellGoing : GoodIn wsX2_join wsX2_tellGoing := goodIn_r _ [95, 3, 4, 5, 96, 97, 26, 98, 99, 100, 55, 101, 102, 54, 56, 103, 25, 27, 104, 28, 29, 105, 106, 107, 108, 109, 110, 111, 112, 113, 114, 115, 51, 116, 117, 118, 119, 120, 121, 122, 123, 124, 125, 126, 127, 128, 129, 130, 149, 150, 151, 152, 153, 154, 155, 156, 157, 158, 159, 160, 161, 162, 163, 164, 165, 166, 167, 168, 169, 170, 171, 172, 173, 174, 175, 176, 145, 146, 147, 148] (by decide +kernel) (by decide +kernel)
set_option maxRecDepth 20000 in
theorem gX2_join_X2_tellGoing : GoodIn wsX2_join (wsV RX2 55 RX2 yX2_tellGoing wsX2_tellGoing) := goodIn_app (goodIn_of _ (by decide +kernel)) ggX2_join_X2_tellGoing
theorem dX2_join_0 : decode cX2_join 0 = .ok (.aload_n 1, 1) := by decide +kernel
theorem dX2_join_1 : decode cX2_join 1 = .ok (.getfield 27, 3) := by decide +kernel
theorem dX2_join_4 : decode cX2_join 4 = .ok (.istore_n 3, 1) := by decide +kernel
theorem dX2_join_5 : decode cX2_join 5 = .ok (.iload_n 3, 1) := by decide +kernel
theorem dX2_join_6 : decode cX2_join 6 = .ok (.bipush 8, 2) := by decide +kernel
theorem dX2_join_8 : decode cX2_join 8 = .ok (.if_icmp .lt 4, 3) := by decide +kernel
theorem dX2_join_11 : decode cX2_join 11 = .ok (.return_, 1) := by decide +kernel
theorem dX2_join_12 : decode cX2_join 12 = .ok (.aload_n 0, 1) := by decide +kernel
theorem dX2_join_13 : decode cX2_join 13 = .ok (.getfield 23, 3) := by decide +kernel
theorem dX2_join_16 : decode cX2_join 16 = .ok (.iload_n 3, 1) := by decide +kernel
theorem dX2_join_17 : decode cX2_join 17 = .ok (.putfield 59, 3) := by decide +kernel
theorem dX2_join_20 : decode cX2_join 20 = .ok (.aload_n 0, 1) := by decide +kernel
theorem dX2_join_21 : decode cX2_join 21 = .ok (.getfield 23, 3) := by decide +kernel
theorem dX2_join_24 : decode cX2_join 24 = .ok (.iload_n 2, 1) := by decide +kernel
theorem dX2_join_25 : decode cX2_join 25 = .ok (.putfield 41, 3) := by decide +kernel
theorem dX2_join_28 : decode cX2_join 28 = .ok (.aload_n 0, 1) := by decide +kernel
theorem dX2_join_29 : decode cX2_join 29 = .ok (.getfield 9, 3) := by decide +kernel
theorem dX2_join_32 : decode cX2_join 32 = .ok (.iload_n 3, 1) := by decide +kernel
theorem dX2_join_33 : decode cX2_join 33 = .ok (.aload_n 1, 1) := by decide +kernel
theorem dX2_join_34 : decode cX2_join 34 = .ok (.aload_n 0, 1) := by decide +kernel
theorem dX2_join_35 : decode cX2_join 35 = .ok (.getfield 23, 3) := by decide +kernel
theorem dX2_join_38 : decode cX2_join 38 = .ok (.aload_n 1, 1) := by decide +kernel
theorem dX2_join_39 : decode cX2_join 39 = .ok (.getfield 78, 3) := by decide +kernel
theorem dX2_join_42 : decode cX2_join 42 = .ok (.invokevirtual 37, 3) := by decide +kernel
theorem dX2_join_45 : decode cX2_join 45 = .ok (.iastore, 1) := by decide +kernel
theorem dX2_join_46 : decode cX2_join 46 = .ok (.aload_n 0, 1) := by decide +kernel
theorem dX2_join_47 : decode cX2_join 47 = .ok (.iload_n 3, 1) := by decide +kernel
theorem dX2_join_48 : decode cX2_join 48 = .ok (.iconst 1, 1) := by decide +kernel
theorem dX2_join_49 : decode cX2_join 49 = .ok (.iadd, 1) := by decide +kernel
theorem dX2_join_50 : decode cX2_join 50 = .ok (.putfield 52, 3) := by decide +kernel
theorem dX2_join_53 : decode cX2_join 53 = .ok (.iconst 0, 1) := by decide +kernel
theorem dX2_join_54 : decode cX2_join 54 = .ok (.istore 4, 2) := by decide +kernel
theorem dX2_join_56 : decode cX2_join 56 = .ok (.iload 4, 2) := by decide +kernel
theorem dX2_join_58 : decode cX2_join 58 = .ok (.iload_n 3, 1) := by decide +kernel
theorem dX2_join_59 : decode cX2_join 59 = .ok (.if_icmp .ge 39, 3) := by decide +kernel
theorem dX2_join_62 : decode cX2_join 62 = .ok (.aload_n 0, 1) := by decide +kernel
theorem dX2_join_63 : decode cX2_join 63 = .ok (.aload_n 1, 1) := by decide +kernel
theorem dX2_join_64 : decode cX2_join 64 = .ok (.getfield 33, 3) := by decide +kernel
theorem dX2_join_67 : decode cX2_join 67 = .ok (.iload 4, 2) := by decide +kernel
theorem dX2_join_69 : decode cX2_join 69 = .ok (.aaload, 1) := by decide +kernel
theorem dX2_join_70 : decode cX2_join 70 = .ok (.aload_n 0, 1) := by decide +kernel
theorem dX2_join_71 : decode cX2_join 71 = .ok (.getfield 23, 3) := by decide +kernel
theorem dX2_join_74 : decode cX2_join 74 = .ok (.invokevirtual 55, 3) := by decide +kernel
theorem dX2_join_77 : decode cX2_join 77 = .ok (.aload_n 0, 1) := by decide +kernel
theorem dX2_join_78 : decode cX2_join 78 = .ok (.aload_n 0, 1) := by decide +kernel
theorem dX2_join_79 : decode cX2_join 79 = .ok (.getfield 23, 3) := by decide +kernel
theorem dX2_join_82 : decode cX2_join 82 = .ok (.aload_n 1, 1) := by decide +kernel
theorem dX2_join_83 : decode cX2_join 83 = .ok (.getfield 33, 3) := by decide +kernel
theorem dX2_join_86 : decode cX2_join 86 = .ok (.iload 4, 2) := by decide +kernel
theorem dX2_join_88 : decode cX2_join 88 = .ok (.aaload, 1) := by decide +kernel
theorem dX2_join_89 : decode cX2_join 89 = .ok (.invokevirtual 55, 3) := by decide +kernel
theorem dX2_join_92 : decode cX2_join 92 = .ok (.iinc 4 1, 3) := by decide +kernel
theorem dX2_join_95 : decode cX2_join 95 = .ok (.goto (-39), 3) := by decide +kernel
theorem dX2_join_98 : decode cX2_join 98 = .ok (.return_, 1) := by decide +kernel
theorem dX3_init_0 : decode cX3_init 0 = .ok (.aload_n 0, 1) := by decide +kernel
theorem dX3_init_1 : decode cX3_init 1 = .ok (.invokespecial 3, 3) := by decide +kernel
theorem dX3_init_4 : decode cX3_init 4 = .ok (.aload_n 0, 1) := by decide +kernel
theorem dX3_init_5 : decode cX3_init 5 = .ok (.iload_n 1, 1) := by decide +kernel
theorem dX3_init_6 : decode cX3_init 6 = .ok (.putfield 9, 3) := by decide +kernel
theorem dX3_init_9 : decode cX3_init 9 = .ok (.aload_n 0, 1) := by decide +kernel
theorem dX3_init_10 : decode cX3_init 10 = .ok (.iload_n 2, 1) := by decide +kernel
theorem dX3_init_11 : decode cX3_init 11 = .ok (.putfield 15, 3) := by decide +kernel
theorem dX3_init_14 : decode cX3_init 14 = .ok (.aload_n 0, 1) := by decide +kernel
theorem dX3_init_15 : decode cX3_init 15 = .ok (.iload_n 3, 1) := by decide +kernel
theorem dX3_init_16 : decode cX3_init 16 = .ok (.putfield 18, 3) := by decide +kernel
theorem dX3_init_19 : decode cX3_init 19 = .ok (.aload_n 0, 1) := by decide +kernel
theorem dX3_init_20 : decode cX3_init 20 = .ok (.iload 4, 2) := by decide +kernel
theorem dX3_init_22 : decode cX3_init 22 = .ok (.putfield 21, 3) := by decide +kernel
theorem dX3_init_25 : decode cX3_init 25 = .ok (.return_, 1) := by decide +kernel
theorem dX3_isOfKind_0 : decode cX3_isOfKind 0 = .ok (.aload_n 0, 1) := by decide +kernel
theorem dX3_isOfKind_1 : decode cX3_isOfKind 1 = .ok (.getfield 9, 3) := by decide +kernel
theorem dX3_isOfKind_4 : decode cX3_isOfKind 4 = .ok (.istore_n 2, 1) := by decide +kernel
theorem dX3_isOfKind_5 : decode cX3_isOfKind 5 = .ok (.iconst 0, 1) := by decide +kernel
theorem dX3_isOfKind_6 : decode cX3_isOfKind 6 = .ok (.istore_n 3, 1) := by decide +kernel
theorem dX3_isOfKind_7 : decode cX3_isOfKind 7 = .ok (.iload_n 3, 1) := by decide +kernel
theorem dX3_isOfKind_8 : decode cX3_isOfKind 8 = .ok (.bipush 7, 2) := by decide +kernel
theorem dX3_isOfKind_10 : decode cX3_isOfKind 10 = .ok (.if_icmp .ge 26, 3) := by decide +kernel
theorem dX3_isOfKind_13 : decode cX3_isOfKind 13 = .ok (.iload_n 2, 1) := by decide +kernel
theorem dX3_isOfKind_14 : decode cX3_isOfKind 14 = .ok (.ifCond .lt 22, 3) := by decide +kernel
theorem dX3_isOfKind_17 : decode cX3_isOfKind 17 = .ok (.iload_n 2, 1) := by decide +kernel
theorem dX3_isOfKind_18 : decode cX3_isOfKind 18 = .ok (.iload_n 1, 1) := by decide +kernel
theorem dX3_isOfKind_19 : decode cX3_isOfKind 19 = .ok (.if_icmp .ne 5, 3) := by decide +kernel
theorem dX3_isOfKind_22 : decode cX3_isOfKind 22 = .ok (.iconst 1, 1) := by decide +kernel
theorem dX3_isOfKind_23 : decode cX3_isOfKind 23 = .ok (.ireturn, 1) := by decide +kernel
theorem dX3_isOfKind_24 : decode cX3_isOfKind 24 = .ok (.getstatic 24, 3) := by decide +kernel
theorem dX3_isOfKind_27 : decode cX3_isOfKind 27 = .ok (.iload_n 2, 1) := by decide +kernel
theorem dX3_isOfKind_28 : decode cX3_isOfKind 28 = .ok (.iaload, 1) := by decide +kernel
theorem dX3_isOfKind_29 : decode cX3_isOfKind 29 = .ok (.istore_n 2, 1) := by decide +kernel
theorem dX3_isOfKind_30 : decode cX3_isOfKind 30 = .ok (.iinc 3 1, 3) := by decide +kernel
theorem dX3_isOfKind_33 : decode cX3_isOfKind 33 = .ok (.goto (-26), 3) := by decide +kernel
theorem dX3_isOfKind_36 : decode cX3_isOfKind 36 = .ok (.iconst 0, 1) := by decide +kernel
theorem dX3_isOfKind_37 : decode cX3_isOfKind 37 = .ok (.ireturn, 1) := by decide +kernel
theorem dX3_reachBy_0 : decode cX3_reachBy 0 = .ok (.iconst 0, 1) := by decide +kernel
theorem dX3_reachBy_1 : decode cX3_reachBy 1 = .ok (.iload_n 1, 1) := by decide +kernel
theorem dX3_reachBy_2 : decode cX3_reachBy 2 = .ok (.invokestatic 28, 3) := by decide +kernel
theorem dX3_reachBy_5 : decode cX3_reachBy 5 = .ok (.ireturn, 1) := by decide +kernel
theorem dX3_leadsTo_0 : decode cX3_leadsTo 0 = .ok (.iconst 1, 1) := by decide +kernel
theorem dX3_leadsTo_1 : decode cX3_leadsTo 1 = .ok (.ireturn, 1) := by decide +kernel
set_option maxRecDepth 20000 in
theorem ggX3_doSees_X3_begin : GoodIn wsX3_doSees wsX3_begin := goodIn_r _ [5, 6, 7, 8, 9, 10, 11, 12, 13, 14, 15, 16, 17, 18, 19, 20, 21, 22, 23, 24, 25, 26, 27, 28, 29, 30, 31, 32, 33, 34, 35, 36, 37, 38, 39, 40, 41, 42, 43, 44, 45, 46, 47, 48, 49, 50, 51, 52, 53, 54, 55, 56, 57, 58, 59, 60, 61, 62, 63, 64, 65, 66, 67, 68, 69, 70, 71, 72, 73, 74, 75, 76, 77, 78, 79, 80, 81, 82, 83, 84, 113, 114, 115, 116] (by decide +kernel) (by decide +kernel)
set_option maxRecDepth 20000 in
theorem gX3_doSees_X3_begin : GoodIn wsX3_doSees (va_wsS RX3 34 yX3_begin wsX3_begin) := goodIn_app (goodIn_of _ (by decide +kernel)) ggX3_doSees_X3_begin
theorem dX3_doSees_0 : decode cX3_doSees 0 = .ok (.iconst 1, 1) := by decide +kernel
theorem dX3_doSees_1 : decode cX3_doSees 1 = .ok (.aload_n 2, 1) := by decide +kernel
theorem dX3_doSees_2 : decode cX3_doSees 2 = .ok (.invokestatic 34, 3) := by decide +kernel
theorem dX3_doSees_5 : decode cX3_doSees 5 = .ok (.iload_n 1, 1) := by decide +kernel
theorem dX3_doSees_6 : decode cX3_doSees 6 = .ok (.aload_n 0, 1) := by decide +kernel
theorem dX3_doSees_7 : decode cX3_doSees 7 = .ok (.getfield 15, 3) := by decide +kernel
theorem dX3_doSees_10 : decode cX3_doSees 10 = .ok (.iadd, 1) := by decide +kernel
theorem dX3_doSees_11 : decode cX3_doSees 11 = .ok (.ireturn, 1) := by decide +kernel
set_option maxRecDepth 20000 in
theorem ggX3_doGoes_X3_begin : GoodIn wsX3_doGoes wsX3_begin := goodIn_r _ [5, 6, 7, 8, 9, 10, 11, 12, 13, 14, 15, 16, 17, 18, 19, 20, 21, 22, 23, 24, 25, 26, 27, 28, 29, 30, 31, 32, 33, 34, 35, 36, 37, 38, 39, 40, 41, 42, 43, 44, 45, 46, 47, 48, 49, 50, 51, 52, 53, 54, 55, 56, 57, 58, 59, 60, 61, 62, 63, 64, 65, 66, 67, 68, 69, 70, 71, 72, 73, 74, 75, 76, 77, 78, 79, 80, 81, 82, 83, 84, 137, 138, 139, 140] (by decide +kernel) (by decide +kernel)
set_option maxRecDepth 20000 in
theorem gX3_doGoes_X3_begin : GoodIn wsX3_doGoes (va_wsS RX3 34 yX3_begin wsX3_begin) := goodIn_app (goodIn_of _ (by decide +kernel)) ggX3_doGoes_X3_begin
set_option maxRecDepth 20000 in
theorem ggX3_doGoes_X3_doSees : GoodIn wsX3_doGoes wsX3_doSees := goodIn_r _ [89, 90, 2, 3, 4, 5, 6, 7, 8, 9, 10, 11, 12, 13, 14, 15, 16, 17, 18, 19, 20, 21, 22, 23, 24, 25, 26, 27, 28, 29, 30, 31, 32, 33, 34, 35, 36, 37, 38, 39, 40, 41, 42, 43, 44, 45, 46, 47, 48, 49, 50, 51, 52, 53, 54, 55, 56, 57, 58, 59, 60, 61, 62, 63, 64, 65, 66, 67, 68, 69, 70, 71, 72, 73, 74, 75, 76, 77, 78, 79, 80, 81, 82, 83, 84, 109, 110, 111, 112, 113, 114, 115, 116, 117, 118, 119, 120, 121, 122, 123, 124, 125, 126, 127, 128, 129, 130, 131, 132, 133, 134, 135, 136, 137, 138, 139, 140] (by decide +kernel) (by decide +kernel)
set_option maxRecDepth 20000 in
theorem gX3_doGoes_X3_doSees_u38X1 : GoodIn wsX3_doGoes (va_wsU RX3 38 RX1 "MistHeaps$Heap" ⟨"MistHeaps$Heap", "doSees", "(ILjava/util/ArrayList;)I"⟩ yX3_doSees wsX3_doSees) := goodIn_app (goodIn_of _ (by decide +kernel)) ggX3_doGoes_X3_doSees
set_option maxRecDepth 20000 in
theorem gX3_doGoes_X3_doSees : GoodIn wsX3_doGoes (wsV RX3 38 RX3 yX3_doSees wsX3_doSees) := goodIn_app (goodIn_of _ (by decide +kernel)) ggX3_doGoes_X3_doSees
set_option maxRecDepth 20000 in
theorem ggX3_doGoes_X4_doSees : GoodIn wsX3_doGoes wsX4_doSees := goodIn_r _ [97, 98, 86, 99, 88, 4, 89, 90, 2, 3, 5, 6, 7, 8, 9, 10, 11, 12, 13, 14, 15, 16, 17, 18, 19, 20, 21, 22, 23, 24, 25, 26, 27, 28, 29, 30, 31, 32, 33, 34, 35, 36, 37, 38, 39, 40, 41, 42, 43, 44, 45, 46, 47, 48, 49, 50, 51, 52, 53, 54, 55, 56, 57, 58, 59, 60, 61, 62, 63, 64, 65, 66, 67, 68, 69, 70, 71, 72, 73, 74, 75, 76, 77, 78, 79, 80, 81, 82, 83, 84, 109, 110, 111, 112, 113, 114, 115, 116, 117, 118, 119, 120, 121, 122, 123, 124, 125, 126, 127, 128, 129, 130, 131, 132, 133, 134, 135, 136, 137, 138, 139, 140] (by decide +kernel) (by decide +kernel)
set_option maxRecDepth 20000 in
theorem gX3_doGoes_X4_doSees_u38X4 : GoodIn wsX3_doGoes (va_wsO RX3 38 RX4 "MistHeaps$Heap" ⟨"MistHeaps$Heap", "doSees", "(ILjava/util/ArrayList;)I"⟩ yX4_doSees wsX4_doSees) := goodIn_app (goodIn_of _ (by decide +kernel)) ggX3_doGoes_X4_doSees
set_option maxRecDepth 20000 in
theorem gX3_doGoes_X3_doSees_u38X6 : GoodIn wsX3_doGoes (va_wsU RX3 38 RX6 "MistHeaps$Heap" ⟨"MistHeaps$Heap", "doSees", "(ILjava/util/ArrayList;)I"⟩ yX3_doSees wsX3_doSees) := goodIn_app (goodIn_of _ (by decide +kernel)) ggX3_doGoes_X3_doSees
set_option maxRecDepth 20000 in
theorem gX3_doGoes_X3_doSees_u38X7 : GoodIn wsX3_doGoes (va_wsU RX3 38 RX7 "MistHeaps$Heap" ⟨"MistHeaps$Heap", "doSees", "(ILjava/util/ArrayList;)I"⟩ yX3_doSees wsX3_doSees) := goodIn_app (goodIn_of _ (by decide +kernel)) ggX3_doGoes_X3_doSees
set_option maxRecDepth 20000 in
theorem ggX3_doGoes_X9_doSees : GoodIn wsX3_doGoes wsX9_doSees := goodIn_r _ [105, 106, 107, 109, 110, 111, 112, 113, 114, 115, 116, 117, 118, 119, 120, 121, 122, 123, 124, 125, 126, 127, 128, 129, 130, 131, 132, 133, 134, 135, 136] (by decide +kernel) (by decide +kernel)
set_option maxRecDepth 20000 in
theorem gX3_doGoes_X9_doSees_u38X9 : GoodIn wsX3_doGoes (va_wsO RX3 38 RX9 "MistHeaps$Heap" ⟨"MistHeaps$Heap", "doSees", "(ILjava/util/ArrayList;)I"⟩ yX9_doSees wsX9_doSees) := goodIn_app (goodIn_of _ (by decide +kernel)) ggX3_doGoes_X9_doSees
set_option maxRecDepth 20000 in
theorem gX3_doGoes_X4_doSees_u38X10 : GoodIn wsX3_doGoes (va_wsO RX3 38 RX10 "MistHeaps$Heap" ⟨"MistHeaps$Heap", "doSees", "(ILjava/util/ArrayList;)I"⟩ yX4_doSees wsX4_doSees) := goodIn_app (goodIn_of _ (by decide +kernel)) ggX3_doGoes_X4_doSees
theorem dX3_doGoes_0 : decode cX3_doGoes 0 = .ok (.iconst 2, 1) := by decide +kernel
theorem dX3_doGoes_1 : decode cX3_doGoes 1 = .ok (.aload_n 2, 1) := by decide +kernel
theorem dX3_doGoes_2 : decode cX3_doGoes 2 = .ok (.invokestatic 34, 3) := by decide +kernel
theorem dX3_doGoes_5 : decode cX3_doGoes 5 = .ok (.aload_n 0, 1) := by decide +kernel
theorem dX3_doGoes_6 : decode cX3_doGoes 6 = .ok (.iload_n 1, 1) := by decide +kernel
theorem dX3_doGoes_7 : decode cX3_doGoes 7 = .ok (.aload_n 2, 1) := by decide +kernel
theorem dX3_doGoes_8 : decode cX3_doGoes 8 = .ok (.invokevirtual 38, 3) := by decide +kernel
theorem dX3_doGoes_11 : decode cX3_doGoes 11 = .ok (.aload_n 0, 1) := by decide +kernel
theorem dX3_doGoes_12 : decode cX3_doGoes 12 = .ok (.getfield 18, 3) := by decide +kernel
theorem dX3_doGoes_15 : decode cX3_doGoes 15 = .ok (.isub, 1) := by decide +kernel
theorem dX3_doGoes_16 : decode cX3_doGoes 16 = .ok (.ireturn, 1) := by decide +kernel
set_option maxRecDepth 20000 in
theorem ggX3_doLooks_X3_begin : GoodIn wsX3_doLooks wsX3_begin := goodIn_r _ [4, 5, 6, 7, 8, 9, 10, 11, 12, 13, 14, 15, 16, 17, 18, 19, 20, 21, 22, 23, 24, 25, 26, 27, 28, 29, 30, 31, 32, 33, 34, 35, 36, 37, 38, 39, 40, 41, 42, 43, 44, 45, 46, 47, 48, 49, 50, 51, 52, 53, 54, 55, 56, 57, 58, 59, 60, 61, 62, 63, 64, 65, 66, 67, 68, 69, 70, 71, 72, 73, 74, 75, 76, 77, 78, 79, 80, 81, 82, 83, 132, 133, 134, 135] (by decide +kernel) (by decide +kernel)
set_option maxRecDepth 20000 in
theorem gX3_doLooks_X3_begin : GoodIn wsX3_doLooks (va_wsS RX3 34 yX3_begin wsX3_begin) := goodIn_app (goodIn_of _ (by decide +kernel)) ggX3_doLooks_X3_begin
set_option maxRecDepth 20000 in
theorem ggX3_doLooks_X3_doGoes : GoodIn wsX3_doLooks wsX3_doGoes := goodIn_r _ [88, 89, 1, 2, 3, 4, 5, 6, 7, 8, 9, 10, 11, 12, 13, 14, 15, 16, 17, 18, 19, 20, 21, 22, 23, 24, 25, 26, 27, 28, 29, 30, 31, 32, 33, 34, 35, 36, 37, 38, 39, 40, 41, 42, 43, 44, 45, 46, 47, 48, 49, 50, 51, 52, 53, 54, 55, 56, 57, 58, 59, 60, 61, 62, 63, 64, 65, 66, 67, 68, 69, 70, 71, 72, 73, 74, 75, 76, 77, 78, 79, 80, 81, 82, 83, 90, 91, 92, 93, 94, 95, 96, 97, 98, 99, 100, 101, 102, 103, 104, 105, 106, 107, 108, 109, 110, 111, 112, 113, 136, 137, 138, 139, 140, 141, 142, 143, 144, 145, 146, 147, 148, 149, 150, 151, 152, 153, 154, 155, 156, 157, 158, 159, 160, 161, 162, 163, 132, 133, 134, 135] (by decide +kernel) (by decide +kernel)
set_option maxRecDepth 20000 in
theorem gX3_doLooks_X3_doGoes_u42X1 : GoodIn wsX3_doLooks (va_wsU RX3 42 RX1 "MistHeaps$Heap" ⟨"MistHeaps$Heap", "doGoes", "(ILjava/util/ArrayList;)I"⟩ yX3_doGoes wsX3_doGoes) := goodIn_app (goodIn_of _ (by decide +kernel)) ggX3_doLooks_X3_doGoes
set_option maxRecDepth 20000 in
theorem gX3_doLooks_X3_doGoes : GoodIn wsX3_doLooks (wsV RX3 42 RX3 yX3_doGoes wsX3_doGoes) := goodIn_app (goodIn_of _ (by decide +kernel)) ggX3_doLooks_X3_doGoes
set_option maxRecDepth 20000 in
theorem gX3_doLooks_X3_doGoes_u42X4 : GoodIn wsX3_doLooks (va_wsU RX3 42 RX4 "MistHeaps$Heap" ⟨"MistHeaps$Heap", "doGoes", "(ILjava/util/ArrayList;)I"⟩ yX3_doGoes wsX3_doGoes) := goodIn_app (goodIn_of _ (by decide +kernel)) ggX3_doLooks_X3_doGoes
set_option maxRecDepth 20000 in
theorem ggX3_doLooks_X6_doGoes : GoodIn wsX3_doLooks wsX6_doGoes := goodIn_r _ [121, 122, 85, 123, 87, 3, 88, 89, 1, 2, 4, 5, 6, 7, 8, 9, 10, 11, 12, 13, 14, 15, 16, 17, 18, 19, 20, 21, 22, 23, 24, 25, 26, 27, 28, 29, 30, 31, 32, 33, 34, 35, 36, 37, 38, 39, 40, 41, 42, 43, 44, 45, 46, 47, 48, 49, 50, 51, 52, 53, 54, 55, 56, 57, 58, 59, 60, 61, 62, 63, 64, 65, 66, 67, 68, 69, 70, 71, 72, 73, 74, 75, 76, 77, 78, 79, 80, 81, 82, 83, 90, 91, 92, 93, 94, 95, 96, 97, 98, 99, 100, 101, 102, 103, 104, 105, 106, 107, 108, 109, 110, 111, 112, 113, 136, 137, 138, 139, 140, 141, 142, 143, 144, 145, 146, 147, 148, 149, 150, 151, 152, 153, 154, 155, 156, 157, 158, 159, 160, 161, 162, 163, 132, 133, 134, 135] (by decide +kernel) (by decide +kernel)
set_option maxRecDepth 20000 in
theorem gX3_doLooks_X6_doGoes_u42X6 : GoodIn wsX3_doLooks (va_wsO RX3 42 RX6 "MistHeaps$Heap" ⟨"MistHeaps$Heap", "doGoes", "(ILjava/util/ArrayList;)I"⟩ yX6_doGoes wsX6_doGoes) := goodIn_app (goodIn_of _ (by decide +kernel)) ggX3_doLooks_X6_doGoes
set_option maxRecDepth 20000 in
theorem ggX3_doLooks_X7_doGoes : GoodIn wsX3_doLooks wsX7_doGoes := goodIn_r _ [127, 128, 129, 136, 137, 138, 139, 140, 141, 142, 143, 144, 145, 146, 147, 148, 149, 150, 151, 152, 153, 154, 155, 156, 157, 158, 159, 160, 161, 162, 163] (by decide +kernel) (by decide +kernel)
set_option maxRecDepth 20000 in
theorem gX3_doLooks_X7_doGoes_u42X7 : GoodIn wsX3_doLooks (va_wsO RX3 42 RX7 "MistHeaps$Heap" ⟨"MistHeaps$Heap", "doGoes", "(ILjava/util/ArrayList;)I"⟩ yX7_doGoes wsX7_doGoes) := goodIn_app (goodIn_of _ (by decide +kernel)) ggX3_doLooks_X7_doGoes
set_option maxRecDepth 20000 in
theorem gX3_doLooks_X6_doGoes_u42X9 : GoodIn wsX3_doLooks (va_wsO RX3 42 RX9 "MistHeaps$Heap" ⟨"MistHeaps$Heap", "doGoes", "(ILjava/util/ArrayList;)I"⟩ yX6_doGoes wsX6_doGoes) := goodIn_app (goodIn_of _ (by decide +kernel)) ggX3_doLooks_X6_doGoes
set_option maxRecDepth 20000 in
theorem gX3_doLooks_X3_doGoes_u42X10 : GoodIn wsX3_doLooks (va_wsU RX3 42 RX10 "MistHeaps$Heap" ⟨"MistHeaps$Heap", "doGoes", "(ILjava/util/ArrayList;)I"⟩ yX3_doGoes wsX3_doGoes) := goodIn_app (goodIn_of _ (by decide +kernel)) ggX3_doLooks_X3_doGoes
theorem dX3_doLooks_0 : decode cX3_doLooks 0 = .ok (.iconst 3, 1) := by decide +kernel
theorem dX3_doLooks_1 : decode cX3_doLooks 1 = .ok (.aload_n 2, 1) := by decide +kernel
theorem dX3_doLooks_2 : decode cX3_doLooks 2 = .ok (.invokestatic 34, 3) := by decide +kernel
theorem dX3_doLooks_5 : decode cX3_doLooks 5 = .ok (.aload_n 0, 1) := by decide +kernel
theorem dX3_doLooks_6 : decode cX3_doLooks 6 = .ok (.iload_n 1, 1) := by decide +kernel
theorem dX3_doLooks_7 : decode cX3_doLooks 7 = .ok (.aload_n 2, 1) := by decide +kernel
theorem dX3_doLooks_8 : decode cX3_doLooks 8 = .ok (.invokevirtual 42, 3) := by decide +kernel
theorem dX3_doLooks_11 : decode cX3_doLooks 11 = .ok (.iconst 2, 1) := by decide +kernel
theorem dX3_doLooks_12 : decode cX3_doLooks 12 = .ok (.imul, 1) := by decide +kernel
theorem dX3_doLooks_13 : decode cX3_doLooks 13 = .ok (.ireturn, 1) := by decide +kernel
set_option maxRecDepth 20000 in
theorem ggX3_begin_Jx4a65c_size_8abf5 : GoodIn wsX3_begin wsJx4a65c_size_8abf5 := goodIn_r _ [5, 6, 80, 81, 82] (by decide +kernel) (by decide +kernel)
set_option maxRecDepth 20000 in
theorem gX3_begin_Jx4a65c_size_8abf5 : GoodIn wsX3_begin (wsV RX3 45 RJx4a65c yJx4a65c_size_8abf5 wsJx4a65c_size_8abf5) := goodIn_app (goodIn_of _ (by decide +kernel)) ggX3_begin_Jx4a65c_size_8abf5
set_option maxRecDepth 20000 in
theorem ggX3_begin_J6_valueOf_2dffe : GoodIn wsX3_begin wsJ6_valueOf_2dffe := goodIn_r _ [10, 11, 12, 13, 14, 9, 15, 16, 17, 18, 19, 20, 21, 22, 23, 24, 25, 83] (by decide +kernel) (by decide +kernel)
set_option maxRecDepth 20000 in
theorem gX3_begin_J6_valueOf_2dffe : GoodIn wsX3_begin (va_wsS RX3 51 yJ6_valueOf_2dffe wsJ6_valueOf_2dffe) := goodIn_app (goodIn_of _ (by decide +kernel)) ggX3_begin_J6_valueOf_2dffe
set_option maxRecDepth 20000 in
theorem ggX3_begin_Jx4a65c_add_9ea2d : GoodIn wsX3_begin wsJx4a65c_add_9ea2d := goodIn_r _ [29, 30, 31, 32, 6, 33, 34, 35, 4, 36, 37, 38, 39, 40, 41, 42, 43, 44, 45, 46, 47, 48, 49, 50, 51, 52, 53, 54, 55, 56, 57, 58, 59, 60, 61, 62, 63, 64, 65, 66, 67, 68, 69, 70, 71, 72, 73, 74, 75, 76, 77, 78, 79, 80, 81, 82] (by decide +kernel) (by decide +kernel)
set_option maxRecDepth 20000 in
theorem gX3_begin_Jx4a65c_add_9ea2d : GoodIn wsX3_begin (wsV RX3 57 RJx4a65c yJx4a65c_add_9ea2d wsJx4a65c_add_9ea2d) := goodIn_app (goodIn_of _ (by decide +kernel)) ggX3_begin_Jx4a65c_add_9ea2d
theorem dX3_begin_0 : decode cX3_begin 0 = .ok (.aload_n 1, 1) := by decide +kernel
theorem dX3_begin_1 : decode cX3_begin 1 = .ok (.invokevirtual 45, 3) := by decide +kernel
theorem dX3_begin_4 : decode cX3_begin 4 = .ok (.bipush 20, 2) := by decide +kernel
theorem dX3_begin_6 : decode cX3_begin 6 = .ok (.if_icmp .ge 12, 3) := by decide +kernel
theorem dX3_begin_9 : decode cX3_begin 9 = .ok (.aload_n 1, 1) := by decide +kernel
theorem dX3_begin_10 : decode cX3_begin 10 = .ok (.iload_n 0, 1) := by decide +kernel
theorem dX3_begin_11 : decode cX3_begin 11 = .ok (.invokestatic 51, 3) := by decide +kernel
theorem dX3_begin_14 : decode cX3_begin 14 = .ok (.invokevirtual 57, 3) := by decide +kernel
theorem dX3_begin_17 : decode cX3_begin 17 = .ok (.pop, 1) := by decide +kernel
theorem dX3_begin_18 : decode cX3_begin 18 = .ok (.return_, 1) := by decide +kernel
set_option maxRecDepth 20000 in
theorem ggX4_init_X3_init : GoodIn wsX4_init wsX3_init := goodIn_r _ [4, 5, 6, 7, 8, 9, 10, 11, 12, 13, 14, 15, 16, 17, 18, 19, 20, 21, 22, 23, 24, 25, 26, 27, 28, 29, 30, 31, 32, 33, 34, 35, 36, 37, 38, 39] (by decide +kernel) (by decide +kernel)
set_option maxRecDepth 20000 in
theorem gX4_init_X3_init : GoodIn wsX4_init (wsX3_init) := ggX4_init_X3_init
theorem dX4_init_0 : decode cX4_init 0 = .ok (.aload_n 0, 1) := by decide +kernel
theorem dX4_init_1 : decode cX4_init 1 = .ok (.iload_n 1, 1) := by decide +kernel
theorem dX4_init_2 : decode cX4_init 2 = .ok (.iload_n 2, 1) := by decide +kernel
theorem dX4_init_3 : decode cX4_init 3 = .ok (.iload_n 3, 1) := by decide +kernel
theorem dX4_init_4 : decode cX4_init 4 = .ok (.iload 4, 2) := by decide +kernel
theorem dX4_init_6 : decode cX4_init 6 = .ok (.invokespecial 1, 3) := by decide +kernel
theorem dX4_init_9 : decode cX4_init 9 = .ok (.return_, 1) := by decide +kernel
set_option maxRecDepth 20000 in
theorem ggX4_reachBy_X3_reachBy : GoodIn wsX4_reachBy wsX3_reachBy := goodIn_r _ [8, 9, 10, 11, 12] (by decide +kernel) (by decide +kernel)
set_option maxRecDepth 20000 in
theorem gX4_reachBy_X3_reachBy_s13 : GoodIn wsX4_reachBy (va_wsSU RX4 13 yX3_reachBy wsX3_reachBy) := goodIn_app (goodIn_of _ (by decide +kernel)) ggX4_reachBy_X3_reachBy
theorem dX4_reachBy_0 : decode cX4_reachBy 0 = .ok (.aload_n 0, 1) := by decide +kernel
theorem dX4_reachBy_1 : decode cX4_reachBy 1 = .ok (.iload_n 1, 1) := by decide +kernel
theorem dX4_reachBy_2 : decode cX4_reachBy 2 = .ok (.aload_n 0, 1) := by decide +kernel
theorem dX4_reachBy_3 : decode cX4_reachBy 3 = .ok (.getfield 7, 3) := by decide +kernel
theorem dX4_reachBy_6 : decode cX4_reachBy 6 = .ok (.iconst 3, 1) := by decide +kernel
theorem dX4_reachBy_7 : decode cX4_reachBy 7 = .ok (.idiv, 1) := by decide +kernel
theorem dX4_reachBy_8 : decode cX4_reachBy 8 = .ok (.iadd, 1) := by decide +kernel
theorem dX4_reachBy_9 : decode cX4_reachBy 9 = .ok (.iload_n 2, 1) := by decide +kernel
theorem dX4_reachBy_10 : decode cX4_reachBy 10 = .ok (.invokespecial 13, 3) := by decide +kernel
theorem dX4_reachBy_13 : decode cX4_reachBy 13 = .ok (.ireturn, 1) := by decide +kernel
set_option maxRecDepth 20000 in
theorem ggX4_doSees_X3_doSees : GoodIn wsX4_doSees wsX3_doSees := goodIn_r _ [6, 7, 8, 9, 5, 10, 11, 12, 13, 14, 15, 16, 17, 18, 19, 20, 21, 22, 23, 24, 25, 26, 27, 28, 29, 30, 31, 32, 33, 34, 35, 36, 37, 38, 39, 40, 41, 42, 43, 44, 45, 46, 47, 48, 49, 50, 51, 52, 53, 54, 55, 56, 57, 58, 59, 60, 61, 62, 63, 64, 65, 66, 67, 68, 69, 70, 71, 72, 73, 74, 75, 76, 77, 78, 79, 80, 81, 82, 83, 84, 85, 86, 87, 88, 89, 90, 91, 92, 93, 94, 95, 96, 97, 98, 99, 100, 101, 102, 103, 104, 105, 106, 107, 108, 109, 110, 111, 112, 113, 114, 115, 116, 117, 118, 119, 120, 121] (by decide +kernel) (by decide +kernel)
set_option maxRecDepth 20000 in
theorem gX4_doSees_X3_doSees_s21 : GoodIn wsX4_doSees (va_wsSU RX4 21 yX3_doSees wsX3_doSees) := goodIn_app (goodIn_of _ (by decide +kernel)) ggX4_doSees_X3_doSees
theorem dX4_doSees_0 : decode cX4_doSees 0 = .ok (.bipush 11, 2) := by decide +kernel
theorem dX4_doSees_2 : decode cX4_doSees 2 = .ok (.aload_n 2, 1) := by decide +kernel
theorem dX4_doSees_3 : decode cX4_doSees 3 = .ok (.invokestatic 17, 3) := by decide +kernel
theorem dX4_doSees_6 : decode cX4_doSees 6 = .ok (.aload_n 0, 1) := by decide +kernel
theorem dX4_doSees_7 : decode cX4_doSees 7 = .ok (.iload_n 1, 1) := by decide +kernel
theorem dX4_doSees_8 : decode cX4_doSees 8 = .ok (.iconst 3, 1) := by decide +kernel
theorem dX4_doSees_9 : decode cX4_doSees 9 = .ok (.imul, 1) := by decide +kernel
theorem dX4_doSees_10 : decode cX4_doSees 10 = .ok (.aload_n 2, 1) := by decide +kernel
theorem dX4_doSees_11 : decode cX4_doSees 11 = .ok (.invokespecial 21, 3) := by decide +kernel
theorem dX4_doSees_14 : decode cX4_doSees 14 = .ok (.ireturn, 1) := by decide +kernel
theorem dX5_init_0 : decode cX5_init 0 = .ok (.aload_n 0, 1) := by decide +kernel
theorem dX5_init_1 : decode cX5_init 1 = .ok (.invokespecial 3, 3) := by decide +kernel
theorem dX5_init_4 : decode cX5_init 4 = .ok (.aload_n 0, 1) := by decide +kernel
theorem dX5_init_5 : decode cX5_init 5 = .ok (.iconst 3, 1) := by decide +kernel
theorem dX5_init_6 : decode cX5_init 6 = .ok (.putfield 11, 3) := by decide +kernel
theorem dX5_init_9 : decode cX5_init 9 = .ok (.aload_n 0, 1) := by decide +kernel
theorem dX5_init_10 : decode cX5_init 10 = .ok (.bipush 10, 2) := by decide +kernel
theorem dX5_init_12 : decode cX5_init 12 = .ok (.newarray .int, 2) := by decide +kernel
theorem dX5_init_14 : decode cX5_init 14 = .ok (.putfield 15, 3) := by decide +kernel
theorem dX5_init_17 : decode cX5_init 17 = .ok (.aload_n 0, 1) := by decide +kernel
theorem dX5_init_18 : decode cX5_init 18 = .ok (.bipush 10, 2) := by decide +kernel
theorem dX5_init_20 : decode cX5_init 20 = .ok (.newarray .int, 2) := by decide +kernel
theorem dX5_init_22 : decode cX5_init 22 = .ok (.putfield 19, 3) := by decide +kernel
theorem dX5_init_25 : decode cX5_init 25 = .ok (.aload_n 0, 1) := by decide +kernel
theorem dX5_init_26 : decode cX5_init 26 = .ok (.bipush 10, 2) := by decide +kernel
theorem dX5_init_28 : decode cX5_init 28 = .ok (.newarray .int, 2) := by decide +kernel
theorem dX5_init_30 : decode cX5_init 30 = .ok (.putfield 22, 3) := by decide +kernel
theorem dX5_init_33 : decode cX5_init 33 = .ok (.aload_n 0, 1) := by decide +kernel
theorem dX5_init_34 : decode cX5_init 34 = .ok (.bipush 100, 2) := by decide +kernel
theorem dX5_init_36 : decode cX5_init 36 = .ok (.newarray .int, 2) := by decide +kernel
theorem dX5_init_38 : decode cX5_init 38 = .ok (.putfield 25, 3) := by decide +kernel
theorem dX5_init_41 : decode cX5_init 41 = .ok (.return_, 1) := by decide +kernel
set_option maxRecDepth 20000 in
theorem ggX5_read_X5_readWord : GoodIn wsX5_read wsX5_readWord := goodIn_r _ [15, 16, 17, 18, 19, 3, 20, 21, 14, 22, 23, 24, 25, 26, 2, 1, 27, 28, 29, 30, 31, 32, 33, 34, 35, 36, 37, 38, 39, 40, 41, 42, 43, 44, 45, 46, 47, 48, 49, 50, 51, 52, 53, 54, 55, 56, 57, 58, 59, 60, 61, 62, 63, 64, 65, 66, 67, 68, 69, 70, 71, 72, 73, 74, 75, 170, 171, 172, 173, 174, 175, 176, 177, 178, 179, 180] (by decide +kernel) (by decide +kernel)
set_option maxRecDepth 20000 in
theorem gX5_read_X5_readWord : GoodIn wsX5_read (wsV RX5 40 RX5 yX5_readWord wsX5_readWord) := goodIn_app (goodIn_of _ (by decide +kernel)) ggX5_read_X5_readWord
set_option maxRecDepth 20000 in
theorem ggX5_read_X5_readNumber : GoodIn wsX5_read wsX5_readNumber := goodIn_r _ [79, 8, 3, 80, 81, 82, 14, 83, 2, 1, 84, 85, 86, 170, 171, 172, 173, 174, 175, 176, 177, 178, 179, 180] (by decide +kernel) (by decide +kernel)
set_option maxRecDepth 20000 in
theorem gX5_read_X5_readNumber : GoodIn wsX5_read (wsV RX5 44 RX5 yX5_readNumber wsX5_readNumber) := goodIn_app (goodIn_of _ (by decide +kernel)) ggX5_read_X5_readNumber
set_option maxRecDepth 20000 in
theorem ggX5_read_X5_readSign : GoodIn wsX5_read wsX5_readSign := goodIn_r _ [90, 3, 80, 81, 82, 14, 83, 2, 1, 170, 171, 172, 173, 174, 175, 176, 177, 178, 179, 180] (by decide +kernel) (by decide +kernel)
set_option maxRecDepth 20000 in
theorem gX5_read_X5_readSign : GoodIn wsX5_read (wsV RX5 51 RX5 yX5_readSign wsX5_readSign) := goodIn_app (goodIn_of _ (by decide +kernel)) ggX5_read_X5_readSign
set_option maxRecDepth 20000 in
theorem ggX5_read_X5_readEither : GoodIn wsX5_read wsX5_readEither := goodIn_r _ [94, 2, 95, 96, 97, 14, 87, 88, 89, 90, 3, 80, 81, 82, 83, 1, 98, 99, 100, 101, 4, 102, 103, 104, 105, 106, 107, 108, 109, 110, 111, 8, 112, 113, 114, 30, 115, 116, 117, 118, 119, 32, 43, 44, 45, 46, 37, 38, 120, 28, 29, 31, 33, 34, 35, 36, 121, 122, 49, 123, 124, 17, 18, 19, 125, 126, 127, 128, 129, 130, 131, 132, 133, 134, 135, 61, 136, 137, 138, 139, 140, 141, 142, 143, 144, 145, 66, 67, 68, 146, 147, 148, 54, 149, 150, 57, 151, 152, 153, 154, 70, 71, 72, 73, 74, 75, 155, 156, 157, 158, 159, 160, 161, 162, 163, 164, 165, 166, 167, 168, 169, 76, 77, 78, 79, 84, 85, 86, 91, 92, 93, 170, 171, 172, 173, 174, 175, 176, 177, 178, 179, 180] (by decide +kernel) (by decide +kernel)
set_option maxRecDepth 20000 in
theorem gX5_read_X5_readEither : GoodIn wsX5_read (wsV RX5 55 RX5 yX5_readEither wsX5_readEither) := goodIn_app (goodIn_of _ (by decide +kernel)) ggX5_read_X5_readEither
theorem dX5_read_0 : decode cX5_read 0 = .ok (.aload_n 0, 1) := by decide +kernel
theorem dX5_read_1 : decode cX5_read 1 = .ok (.aload_n 1, 1) := by decide +kernel
theorem dX5_read_2 : decode cX5_read 2 = .ok (.putfield 28, 3) := by decide +kernel
theorem dX5_read_5 : decode cX5_read 5 = .ok (.aload_n 0, 1) := by decide +kernel
theorem dX5_read_6 : decode cX5_read 6 = .ok (.iload_n 2, 1) := by decide +kernel
theorem dX5_read_7 : decode cX5_read 7 = .ok (.putfield 31, 3) := by decide +kernel
theorem dX5_read_10 : decode cX5_read 10 = .ok (.aload_n 0, 1) := by decide +kernel
theorem dX5_read_11 : decode cX5_read 11 = .ok (.iconst 0, 1) := by decide +kernel
theorem dX5_read_12 : decode cX5_read 12 = .ok (.putfield 34, 3) := by decide +kernel
theorem dX5_read_15 : decode cX5_read 15 = .ok (.aload_n 0, 1) := by decide +kernel
theorem dX5_read_16 : decode cX5_read 16 = .ok (.iconst 0, 1) := by decide +kernel
theorem dX5_read_17 : decode cX5_read 17 = .ok (.putfield 37, 3) := by decide +kernel
theorem dX5_read_20 : decode cX5_read 20 = .ok (.aload_n 0, 1) := by decide +kernel
theorem dX5_read_21 : decode cX5_read 21 = .ok (.iconst 3, 1) := by decide +kernel
theorem dX5_read_22 : decode cX5_read 22 = .ok (.putfield 11, 3) := by decide +kernel
theorem dX5_read_25 : decode cX5_read 25 = .ok (.iconst 0, 1) := by decide +kernel
theorem dX5_read_26 : decode cX5_read 26 = .ok (.istore_n 3, 1) := by decide +kernel
theorem dX5_read_27 : decode cX5_read 27 = .ok (.iload_n 3, 1) := by decide +kernel
theorem dX5_read_28 : decode cX5_read 28 = .ok (.bipush 10, 2) := by decide +kernel
theorem dX5_read_30 : decode cX5_read 30 = .ok (.if_icmp .ge 134, 3) := by decide +kernel
theorem dX5_read_33 : decode cX5_read 33 = .ok (.aload_n 0, 1) := by decide +kernel
theorem dX5_read_34 : decode cX5_read 34 = .ok (.invokevirtual 40, 3) := by decide +kernel
theorem dX5_read_37 : decode cX5_read 37 = .ok (.istore 4, 2) := by decide +kernel
theorem dX5_read_39 : decode cX5_read 39 = .ok (.iload 4, 2) := by decide +kernel
theorem dX5_read_41 : decode cX5_read 41 = .ok (.iconst (-1), 1) := by decide +kernel
theorem dX5_read_42 : decode cX5_read 42 = .ok (.if_icmp .eq 10, 3) := by decide +kernel
theorem dX5_read_45 : decode cX5_read 45 = .ok (.aload_n 0, 1) := by decide +kernel
theorem dX5_read_46 : decode cX5_read 46 = .ok (.invokevirtual 44, 3) := by decide +kernel
theorem dX5_read_49 : decode cX5_read 49 = .ok (.ifCond .ne 8, 3) := by decide +kernel
theorem dX5_read_52 : decode cX5_read 52 = .ok (.aload_n 0, 1) := by decide +kernel
theorem dX5_read_53 : decode cX5_read 53 = .ok (.getfield 34, 3) := by decide +kernel
theorem dX5_read_56 : decode cX5_read 56 = .ok (.ireturn, 1) := by decide +kernel
theorem dX5_read_57 : decode cX5_read 57 = .ok (.aload_n 0, 1) := by decide +kernel
theorem dX5_read_58 : decode cX5_read 58 = .ok (.getfield 15, 3) := by decide +kernel
theorem dX5_read_61 : decode cX5_read 61 = .ok (.iload_n 3, 1) := by decide +kernel
theorem dX5_read_62 : decode cX5_read 62 = .ok (.iload 4, 2) := by decide +kernel
theorem dX5_read_64 : decode cX5_read 64 = .ok (.iastore, 1) := by decide +kernel
theorem dX5_read_65 : decode cX5_read 65 = .ok (.aload_n 0, 1) := by decide +kernel
theorem dX5_read_66 : decode cX5_read 66 = .ok (.getfield 19, 3) := by decide +kernel
theorem dX5_read_69 : decode cX5_read 69 = .ok (.iload_n 3, 1) := by decide +kernel
theorem dX5_read_70 : decode cX5_read 70 = .ok (.aload_n 0, 1) := by decide +kernel
theorem dX5_read_71 : decode cX5_read 71 = .ok (.getfield 48, 3) := by decide +kernel
theorem dX5_read_74 : decode cX5_read 74 = .ok (.iastore, 1) := by decide +kernel
theorem dX5_read_75 : decode cX5_read 75 = .ok (.iload 4, 2) := by decide +kernel
theorem dX5_read_77 : decode cX5_read 77 = .ok (.iconst 2, 1) := by decide +kernel
theorem dX5_read_78 : decode cX5_read 78 = .ok (.if_icmp .ne 14, 3) := by decide +kernel
theorem dX5_read_81 : decode cX5_read 81 = .ok (.aload_n 0, 1) := by decide +kernel
theorem dX5_read_82 : decode cX5_read 82 = .ok (.aload_n 0, 1) := by decide +kernel
theorem dX5_read_83 : decode cX5_read 83 = .ok (.getfield 48, 3) := by decide +kernel
theorem dX5_read_86 : decode cX5_read 86 = .ok (.putfield 11, 3) := by decide +kernel
theorem dX5_read_89 : decode cX5_read 89 = .ok (.goto 25, 3) := by decide +kernel
theorem dX5_read_92 : decode cX5_read 92 = .ok (.aload_n 0, 1) := by decide +kernel
theorem dX5_read_93 : decode cX5_read 93 = .ok (.bipush 32, 2) := by decide +kernel
theorem dX5_read_95 : decode cX5_read 95 = .ok (.invokevirtual 51, 3) := by decide +kernel
theorem dX5_read_98 : decode cX5_read 98 = .ok (.ifCond .eq 11, 3) := by decide +kernel
theorem dX5_read_101 : decode cX5_read 101 = .ok (.aload_n 0, 1) := by decide +kernel
theorem dX5_read_102 : decode cX5_read 102 = .ok (.iconst 0, 1) := by decide +kernel
theorem dX5_read_103 : decode cX5_read 103 = .ok (.invokevirtual 55, 3) := by decide +kernel
theorem dX5_read_106 : decode cX5_read 106 = .ok (.ifCond .ne 8, 3) := by decide +kernel
theorem dX5_read_109 : decode cX5_read 109 = .ok (.aload_n 0, 1) := by decide +kernel
theorem dX5_read_110 : decode cX5_read 110 = .ok (.getfield 34, 3) := by decide +kernel
theorem dX5_read_113 : decode cX5_read 113 = .ok (.ireturn, 1) := by decide +kernel
theorem dX5_read_114 : decode cX5_read 114 = .ok (.aload_n 0, 1) := by decide +kernel
theorem dX5_read_115 : decode cX5_read 115 = .ok (.getfield 22, 3) := by decide +kernel
theorem dX5_read_118 : decode cX5_read 118 = .ok (.iload_n 3, 1) := by decide +kernel
theorem dX5_read_119 : decode cX5_read 119 = .ok (.aload_n 0, 1) := by decide +kernel
theorem dX5_read_120 : decode cX5_read 120 = .ok (.getfield 37, 3) := by decide +kernel
theorem dX5_read_123 : decode cX5_read 123 = .ok (.iastore, 1) := by decide +kernel
theorem dX5_read_124 : decode cX5_read 124 = .ok (.aload_n 0, 1) := by decide +kernel
theorem dX5_read_125 : decode cX5_read 125 = .ok (.iload_n 3, 1) := by decide +kernel
theorem dX5_read_126 : decode cX5_read 126 = .ok (.iconst 1, 1) := by decide +kernel
theorem dX5_read_127 : decode cX5_read 127 = .ok (.iadd, 1) := by decide +kernel
theorem dX5_read_128 : decode cX5_read 128 = .ok (.putfield 59, 3) := by decide +kernel
theorem dX5_read_131 : decode cX5_read 131 = .ok (.aload_n 0, 1) := by decide +kernel
theorem dX5_read_132 : decode cX5_read 132 = .ok (.getfield 34, 3) := by decide +kernel
theorem dX5_read_135 : decode cX5_read 135 = .ok (.aload_n 0, 1) := by decide +kernel
theorem dX5_read_136 : decode cX5_read 136 = .ok (.getfield 31, 3) := by decide +kernel
theorem dX5_read_139 : decode cX5_read 139 = .ok (.if_icmp .ne 5, 3) := by decide +kernel
theorem dX5_read_142 : decode cX5_read 142 = .ok (.iconst (-1), 1) := by decide +kernel
theorem dX5_read_143 : decode cX5_read 143 = .ok (.ireturn, 1) := by decide +kernel
theorem dX5_read_144 : decode cX5_read 144 = .ok (.aload_n 0, 1) := by decide +kernel
theorem dX5_read_145 : decode cX5_read 145 = .ok (.bipush 59, 2) := by decide +kernel
theorem dX5_read_147 : decode cX5_read 147 = .ok (.invokevirtual 51, 3) := by decide +kernel
theorem dX5_read_150 : decode cX5_read 150 = .ok (.ifCond .ne 8, 3) := by decide +kernel
theorem dX5_read_153 : decode cX5_read 153 = .ok (.aload_n 0, 1) := by decide +kernel
theorem dX5_read_154 : decode cX5_read 154 = .ok (.getfield 34, 3) := by decide +kernel
theorem dX5_read_157 : decode cX5_read 157 = .ok (.ireturn, 1) := by decide +kernel
theorem dX5_read_158 : decode cX5_read 158 = .ok (.iinc 3 1, 3) := by decide +kernel
theorem dX5_read_161 : decode cX5_read 161 = .ok (.goto (-134), 3) := by decide +kernel
theorem dX5_read_164 : decode cX5_read 164 = .ok (.aload_n 0, 1) := by decide +kernel
theorem dX5_read_165 : decode cX5_read 165 = .ok (.getfield 34, 3) := by decide +kernel
theorem dX5_read_168 : decode cX5_read 168 = .ok (.iconst 1, 1) := by decide +kernel
theorem dX5_read_169 : decode cX5_read 169 = .ok (.isub, 1) := by decide +kernel
theorem dX5_read_170 : decode cX5_read 170 = .ok (.ireturn, 1) := by decide +kernel
set_option maxRecDepth 20000 in
theorem ggX5_readWord_X5_textOf : GoodIn wsX5_readWord wsX5_textOf := goodIn_r _ [9] (by decide +kernel) (by decide +kernel)
set_option maxRecDepth 20000 in
theorem gX5_readWord_X5_textOf : GoodIn wsX5_readWord (va_wsS RX5 62 yX5_textOf wsX5_textOf) := goodIn_app (goodIn_of _ (by decide +kernel)) ggX5_readWord_X5_textOf
set_option maxRecDepth 20000 in
theorem ggX5_readWord_X5_sameSigns : GoodIn wsX5_readWord wsX5_sameSigns := goodIn_r _ [13, 5, 14, 15, 16, 17, 18, 19, 20, 21, 22, 23, 24, 25, 26, 27, 28, 29, 30, 31, 32, 33, 34, 35, 36, 37, 38, 39, 40, 41, 42, 43, 44, 45, 46, 47, 48, 49, 50, 51, 52, 53, 54, 55, 56, 57, 58, 59, 60, 61, 62, 63, 64, 65, 66, 67, 68, 69, 70, 71, 72, 73, 74, 75] (by decide +kernel) (by decide +kernel)
set_option maxRecDepth 20000 in
theorem gX5_readWord_X5_sameSigns : GoodIn wsX5_readWord (wsV RX5 66 RX5 yX5_sameSigns wsX5_sameSigns) := goodIn_app (goodIn_of _ (by decide +kernel)) ggX5_readWord_X5_sameSigns
set_option maxRecDepth 20000 in
theorem ggX5_readWord_J0_length_8abf5 : GoodIn wsX5_readWord wsJ0_length_8abf5 := goodIn_r _ [20, 21, 22, 23, 24, 19, 25, 26, 27] (by decide +kernel) (by decide +kernel)
set_option maxRecDepth 20000 in
theorem gX5_readWord_J0_length_8abf5 : GoodIn wsX5_readWord (wsV RX5 76 RJ0 yJ0_length_8abf5 wsJ0_length_8abf5) := goodIn_app (goodIn_of _ (by decide +kernel)) ggX5_readWord_J0_length_8abf5
theorem dX5_readWord_0 : decode cX5_readWord 0 = .ok (.iconst 0, 1) := by decide +kernel
theorem dX5_readWord_1 : decode cX5_readWord 1 = .ok (.istore_n 1, 1) := by decide +kernel
theorem dX5_readWord_2 : decode cX5_readWord 2 = .ok (.iconst 0, 1) := by decide +kernel
theorem dX5_readWord_3 : decode cX5_readWord 3 = .ok (.istore_n 2, 1) := by decide +kernel
theorem dX5_readWord_4 : decode cX5_readWord 4 = .ok (.iload_n 2, 1) := by decide +kernel
theorem dX5_readWord_5 : decode cX5_readWord 5 = .ok (.iconst 4, 1) := by decide +kernel
theorem dX5_readWord_6 : decode cX5_readWord 6 = .ok (.if_icmp .ge 50, 3) := by decide +kernel
theorem dX5_readWord_9 : decode cX5_readWord 9 = .ok (.iload_n 2, 1) := by decide +kernel
theorem dX5_readWord_10 : decode cX5_readWord 10 = .ok (.invokestatic 62, 3) := by decide +kernel
theorem dX5_readWord_13 : decode cX5_readWord 13 = .ok (.astore_n 3, 1) := by decide +kernel
theorem dX5_readWord_14 : decode cX5_readWord 14 = .ok (.aload_n 0, 1) := by decide +kernel
theorem dX5_readWord_15 : decode cX5_readWord 15 = .ok (.aload_n 3, 1) := by decide +kernel
theorem dX5_readWord_16 : decode cX5_readWord 16 = .ok (.invokevirtual 66, 3) := by decide +kernel
theorem dX5_readWord_19 : decode cX5_readWord 19 = .ok (.istore 4, 2) := by decide +kernel
theorem dX5_readWord_21 : decode cX5_readWord 21 = .ok (.iload_n 1, 1) := by decide +kernel
theorem dX5_readWord_22 : decode cX5_readWord 22 = .ok (.iload 4, 2) := by decide +kernel
theorem dX5_readWord_24 : decode cX5_readWord 24 = .ok (.invokestatic 70, 3) := by decide +kernel
theorem dX5_readWord_27 : decode cX5_readWord 27 = .ok (.istore_n 1, 1) := by decide +kernel
theorem dX5_readWord_28 : decode cX5_readWord 28 = .ok (.iload 4, 2) := by decide +kernel
theorem dX5_readWord_30 : decode cX5_readWord 30 = .ok (.aload_n 3, 1) := by decide +kernel
theorem dX5_readWord_31 : decode cX5_readWord 31 = .ok (.invokevirtual 76, 3) := by decide +kernel
theorem dX5_readWord_34 : decode cX5_readWord 34 = .ok (.if_icmp .ne 16, 3) := by decide +kernel
theorem dX5_readWord_37 : decode cX5_readWord 37 = .ok (.aload_n 0, 1) := by decide +kernel
theorem dX5_readWord_38 : decode cX5_readWord 38 = .ok (.dup, 1) := by decide +kernel
theorem dX5_readWord_39 : decode cX5_readWord 39 = .ok (.getfield 34, 3) := by decide +kernel
theorem dX5_readWord_42 : decode cX5_readWord 42 = .ok (.iload 4, 2) := by decide +kernel
theorem dX5_readWord_44 : decode cX5_readWord 44 = .ok (.iadd, 1) := by decide +kernel
theorem dX5_readWord_45 : decode cX5_readWord 45 = .ok (.putfield 34, 3) := by decide +kernel
theorem dX5_readWord_48 : decode cX5_readWord 48 = .ok (.iload_n 2, 1) := by decide +kernel
theorem dX5_readWord_49 : decode cX5_readWord 49 = .ok (.ireturn, 1) := by decide +kernel
theorem dX5_readWord_50 : decode cX5_readWord 50 = .ok (.iinc 2 1, 3) := by decide +kernel
theorem dX5_readWord_53 : decode cX5_readWord 53 = .ok (.goto (-49), 3) := by decide +kernel
theorem dX5_readWord_56 : decode cX5_readWord 56 = .ok (.aload_n 0, 1) := by decide +kernel
theorem dX5_readWord_57 : decode cX5_readWord 57 = .ok (.dup, 1) := by decide +kernel
theorem dX5_readWord_58 : decode cX5_readWord 58 = .ok (.getfield 34, 3) := by decide +kernel
theorem dX5_readWord_61 : decode cX5_readWord 61 = .ok (.iload_n 1, 1) := by decide +kernel
theorem dX5_readWord_62 : decode cX5_readWord 62 = .ok (.iadd, 1) := by decide +kernel
theorem dX5_readWord_63 : decode cX5_readWord 63 = .ok (.putfield 34, 3) := by decide +kernel
theorem dX5_readWord_66 : decode cX5_readWord 66 = .ok (.iconst (-1), 1) := by decide +kernel
theorem dX5_readWord_67 : decode cX5_readWord 67 = .ok (.ireturn, 1) := by decide +kernel
theorem dX5_textOf_0 : decode cX5_textOf 0 = .ok (.iload_n 0, 1) := by decide +kernel
theorem dX5_textOf_1 : decode cX5_textOf 1 = .ok (.tableswitch 36 0 2 #[27, 30, 33], 27) := by decide +kernel
theorem dX5_textOf_28 : decode cX5_textOf 28 = .ok (.ldc 81, 2) := by decide +kernel
theorem dX5_textOf_30 : decode cX5_textOf 30 = .ok (.areturn, 1) := by decide +kernel
theorem dX5_textOf_31 : decode cX5_textOf 31 = .ok (.ldc 83, 2) := by decide +kernel
theorem dX5_textOf_33 : decode cX5_textOf 33 = .ok (.areturn, 1) := by decide +kernel
theorem dX5_textOf_34 : decode cX5_textOf 34 = .ok (.ldc 85, 2) := by decide +kernel
theorem dX5_textOf_36 : decode cX5_textOf 36 = .ok (.areturn, 1) := by decide +kernel
theorem dX5_textOf_37 : decode cX5_textOf 37 = .ok (.ldc 87, 2) := by decide +kernel
theorem dX5_textOf_39 : decode cX5_textOf 39 = .ok (.areturn, 1) := by decide +kernel
set_option maxRecDepth 20000 in
theorem ggX5_sameSigns_J0_length_8abf5 : GoodIn wsX5_sameSigns wsJ0_length_8abf5 := goodIn_r _ [8, 9, 10, 11, 12, 7, 13, 14, 15] (by decide +kernel) (by decide +kernel)
set_option maxRecDepth 20000 in
theorem gX5_sameSigns_J0_length_8abf5 : GoodIn wsX5_sameSigns (wsV RX5 76 RJ0 yJ0_length_8abf5 wsJ0_length_8abf5) := goodIn_app (goodIn_of _ (by decide +kernel)) ggX5_sameSigns_J0_length_8abf5
set_option maxRecDepth 20000 in
theorem ggX5_sameSigns_J0_charAt_5068e : GoodIn wsX5_sameSigns wsJ0_charAt_5068e := goodIn_r _ [19, 9, 20, 21, 22, 7, 23, 14, 15, 24, 25, 26, 27, 28, 29, 30, 31, 32, 33, 34, 35, 36, 37, 38, 39, 40, 41, 42, 43, 44, 45, 46, 47, 48, 49, 50, 51, 52] (by decide +kernel) (by decide +kernel)
set_option maxRecDepth 20000 in
theorem gX5_sameSigns_J0_charAt_5068e : GoodIn wsX5_sameSigns (wsV RX5 89 RJ0 yJ0_charAt_5068e wsJ0_charAt_5068e) := goodIn_app (goodIn_of _ (by decide +kernel)) ggX5_sameSigns_J0_charAt_5068e
theorem dX5_sameSigns_0 : decode cX5_sameSigns 0 = .ok (.iconst 0, 1) := by decide +kernel
theorem dX5_sameSigns_1 : decode cX5_sameSigns 1 = .ok (.istore_n 2, 1) := by decide +kernel
theorem dX5_sameSigns_2 : decode cX5_sameSigns 2 = .ok (.iload_n 2, 1) := by decide +kernel
theorem dX5_sameSigns_3 : decode cX5_sameSigns 3 = .ok (.aload_n 1, 1) := by decide +kernel
theorem dX5_sameSigns_4 : decode cX5_sameSigns 4 = .ok (.invokevirtual 76, 3) := by decide +kernel
theorem dX5_sameSigns_7 : decode cX5_sameSigns 7 = .ok (.if_icmp .ge 41, 3) := by decide +kernel
theorem dX5_sameSigns_10 : decode cX5_sameSigns 10 = .ok (.aload_n 0, 1) := by decide +kernel
theorem dX5_sameSigns_11 : decode cX5_sameSigns 11 = .ok (.getfield 34, 3) := by decide +kernel
theorem dX5_sameSigns_14 : decode cX5_sameSigns 14 = .ok (.iload_n 2, 1) := by decide +kernel
theorem dX5_sameSigns_15 : decode cX5_sameSigns 15 = .ok (.iadd, 1) := by decide +kernel
theorem dX5_sameSigns_16 : decode cX5_sameSigns 16 = .ok (.aload_n 0, 1) := by decide +kernel
theorem dX5_sameSigns_17 : decode cX5_sameSigns 17 = .ok (.getfield 31, 3) := by decide +kernel
theorem dX5_sameSigns_20 : decode cX5_sameSigns 20 = .ok (.if_icmp .ge 28, 3) := by decide +kernel
theorem dX5_sameSigns_23 : decode cX5_sameSigns 23 = .ok (.aload_n 0, 1) := by decide +kernel
theorem dX5_sameSigns_24 : decode cX5_sameSigns 24 = .ok (.getfield 28, 3) := by decide +kernel
theorem dX5_sameSigns_27 : decode cX5_sameSigns 27 = .ok (.aload_n 0, 1) := by decide +kernel
theorem dX5_sameSigns_28 : decode cX5_sameSigns 28 = .ok (.getfield 34, 3) := by decide +kernel
theorem dX5_sameSigns_31 : decode cX5_sameSigns 31 = .ok (.iload_n 2, 1) := by decide +kernel
theorem dX5_sameSigns_32 : decode cX5_sameSigns 32 = .ok (.iadd, 1) := by decide +kernel
theorem dX5_sameSigns_33 : decode cX5_sameSigns 33 = .ok (.iaload, 1) := by decide +kernel
theorem dX5_sameSigns_34 : decode cX5_sameSigns 34 = .ok (.aload_n 1, 1) := by decide +kernel
theorem dX5_sameSigns_35 : decode cX5_sameSigns 35 = .ok (.iload_n 2, 1) := by decide +kernel
theorem dX5_sameSigns_36 : decode cX5_sameSigns 36 = .ok (.invokevirtual 89, 3) := by decide +kernel
theorem dX5_sameSigns_39 : decode cX5_sameSigns 39 = .ok (.if_icmp .ne 9, 3) := by decide +kernel
theorem dX5_sameSigns_42 : decode cX5_sameSigns 42 = .ok (.iinc 2 1, 3) := by decide +kernel
theorem dX5_sameSigns_45 : decode cX5_sameSigns 45 = .ok (.goto (-43), 3) := by decide +kernel
theorem dX5_sameSigns_48 : decode cX5_sameSigns 48 = .ok (.iload_n 2, 1) := by decide +kernel
theorem dX5_sameSigns_49 : decode cX5_sameSigns 49 = .ok (.ireturn, 1) := by decide +kernel
set_option maxRecDepth 20000 in
theorem ggX5_readNumber_X5_sign : GoodIn wsX5_readNumber wsX5_sign := goodIn_r _ [7, 2, 8, 9, 13, 14, 15, 16, 17, 18, 19, 20, 21, 22, 23] (by decide +kernel) (by decide +kernel)
set_option maxRecDepth 20000 in
theorem gX5_readNumber_X5_sign : GoodIn wsX5_readNumber (wsV RX5 93 RX5 yX5_sign wsX5_sign) := goodIn_app (goodIn_of _ (by decide +kernel)) ggX5_readNumber_X5_sign
set_option maxRecDepth 20000 in
theorem ggX5_readNumber_X5_isDigit : GoodIn wsX5_readNumber wsX5_isDigit := goodIn_r _ [12] (by decide +kernel) (by decide +kernel)
set_option maxRecDepth 20000 in
theorem gX5_readNumber_X5_isDigit : GoodIn wsX5_readNumber (va_wsS RX5 96 yX5_isDigit wsX5_isDigit) := goodIn_app (goodIn_of _ (by decide +kernel)) ggX5_readNumber_X5_isDigit
theorem dX5_readNumber_0 : decode cX5_readNumber 0 = .ok (.aload_n 0, 1) := by decide +kernel
theorem dX5_readNumber_1 : decode cX5_readNumber 1 = .ok (.invokevirtual 93, 3) := by decide +kernel
theorem dX5_readNumber_4 : decode cX5_readNumber 4 = .ok (.invokestatic 96, 3) := by decide +kernel
theorem dX5_readNumber_7 : decode cX5_readNumber 7 = .ok (.ifCond .ne 5, 3) := by decide +kernel
theorem dX5_readNumber_10 : decode cX5_readNumber 10 = .ok (.iconst 0, 1) := by decide +kernel
theorem dX5_readNumber_11 : decode cX5_readNumber 11 = .ok (.ireturn, 1) := by decide +kernel
theorem dX5_readNumber_12 : decode cX5_readNumber 12 = .ok (.aload_n 0, 1) := by decide +kernel
theorem dX5_readNumber_13 : decode cX5_readNumber 13 = .ok (.aload_n 0, 1) := by decide +kernel
theorem dX5_readNumber_14 : decode cX5_readNumber 14 = .ok (.invokevirtual 93, 3) := by decide +kernel
theorem dX5_readNumber_17 : decode cX5_readNumber 17 = .ok (.bipush 48, 2) := by decide +kernel
theorem dX5_readNumber_19 : decode cX5_readNumber 19 = .ok (.isub, 1) := by decide +kernel
theorem dX5_readNumber_20 : decode cX5_readNumber 20 = .ok (.putfield 48, 3) := by decide +kernel
theorem dX5_readNumber_23 : decode cX5_readNumber 23 = .ok (.aload_n 0, 1) := by decide +kernel
theorem dX5_readNumber_24 : decode cX5_readNumber 24 = .ok (.dup, 1) := by decide +kernel
theorem dX5_readNumber_25 : decode cX5_readNumber 25 = .ok (.getfield 34, 3) := by decide +kernel
theorem dX5_readNumber_28 : decode cX5_readNumber 28 = .ok (.iconst 1, 1) := by decide +kernel
theorem dX5_readNumber_29 : decode cX5_readNumber 29 = .ok (.iadd, 1) := by decide +kernel
theorem dX5_readNumber_30 : decode cX5_readNumber 30 = .ok (.putfield 34, 3) := by decide +kernel
theorem dX5_readNumber_33 : decode cX5_readNumber 33 = .ok (.aload_n 0, 1) := by decide +kernel
theorem dX5_readNumber_34 : decode cX5_readNumber 34 = .ok (.getfield 48, 3) := by decide +kernel
theorem dX5_readNumber_37 : decode cX5_readNumber 37 = .ok (.ifCond .le 42, 3) := by decide +kernel
theorem dX5_readNumber_40 : decode cX5_readNumber 40 = .ok (.aload_n 0, 1) := by decide +kernel
theorem dX5_readNumber_41 : decode cX5_readNumber 41 = .ok (.invokevirtual 93, 3) := by decide +kernel
theorem dX5_readNumber_44 : decode cX5_readNumber 44 = .ok (.invokestatic 96, 3) := by decide +kernel
theorem dX5_readNumber_47 : decode cX5_readNumber 47 = .ok (.ifCond .eq 32, 3) := by decide +kernel
theorem dX5_readNumber_50 : decode cX5_readNumber 50 = .ok (.aload_n 0, 1) := by decide +kernel
theorem dX5_readNumber_51 : decode cX5_readNumber 51 = .ok (.aload_n 0, 1) := by decide +kernel
theorem dX5_readNumber_52 : decode cX5_readNumber 52 = .ok (.getfield 48, 3) := by decide +kernel
theorem dX5_readNumber_55 : decode cX5_readNumber 55 = .ok (.bipush 10, 2) := by decide +kernel
theorem dX5_readNumber_57 : decode cX5_readNumber 57 = .ok (.imul, 1) := by decide +kernel
theorem dX5_readNumber_58 : decode cX5_readNumber 58 = .ok (.aload_n 0, 1) := by decide +kernel
theorem dX5_readNumber_59 : decode cX5_readNumber 59 = .ok (.invokevirtual 93, 3) := by decide +kernel
theorem dX5_readNumber_62 : decode cX5_readNumber 62 = .ok (.iadd, 1) := by decide +kernel
theorem dX5_readNumber_63 : decode cX5_readNumber 63 = .ok (.bipush 48, 2) := by decide +kernel
theorem dX5_readNumber_65 : decode cX5_readNumber 65 = .ok (.isub, 1) := by decide +kernel
theorem dX5_readNumber_66 : decode cX5_readNumber 66 = .ok (.putfield 48, 3) := by decide +kernel
theorem dX5_readNumber_69 : decode cX5_readNumber 69 = .ok (.aload_n 0, 1) := by decide +kernel
theorem dX5_readNumber_70 : decode cX5_readNumber 70 = .ok (.dup, 1) := by decide +kernel
theorem dX5_readNumber_71 : decode cX5_readNumber 71 = .ok (.getfield 34, 3) := by decide +kernel
theorem dX5_readNumber_74 : decode cX5_readNumber 74 = .ok (.iconst 1, 1) := by decide +kernel
theorem dX5_readNumber_75 : decode cX5_readNumber 75 = .ok (.iadd, 1) := by decide +kernel
theorem dX5_readNumber_76 : decode cX5_readNumber 76 = .ok (.putfield 34, 3) := by decide +kernel
theorem dX5_readNumber_79 : decode cX5_readNumber 79 = .ok (.iconst 1, 1) := by decide +kernel
theorem dX5_readNumber_80 : decode cX5_readNumber 80 = .ok (.ireturn, 1) := by decide +kernel
theorem dX5_isDigit_0 : decode cX5_isDigit 0 = .ok (.iload_n 0, 1) := by decide +kernel
theorem dX5_isDigit_1 : decode cX5_isDigit 1 = .ok (.bipush 48, 2) := by decide +kernel
theorem dX5_isDigit_3 : decode cX5_isDigit 3 = .ok (.if_icmp .lt 13, 3) := by decide +kernel
theorem dX5_isDigit_6 : decode cX5_isDigit 6 = .ok (.iload_n 0, 1) := by decide +kernel
theorem dX5_isDigit_7 : decode cX5_isDigit 7 = .ok (.bipush 57, 2) := by decide +kernel
theorem dX5_isDigit_9 : decode cX5_isDigit 9 = .ok (.if_icmp .gt 7, 3) := by decide +kernel
theorem dX5_isDigit_12 : decode cX5_isDigit 12 = .ok (.iconst 1, 1) := by decide +kernel
theorem dX5_isDigit_13 : decode cX5_isDigit 13 = .ok (.goto 4, 3) := by decide +kernel
theorem dX5_isDigit_16 : decode cX5_isDigit 16 = .ok (.iconst 0, 1) := by decide +kernel
theorem dX5_isDigit_17 : decode cX5_isDigit 17 = .ok (.ireturn, 1) := by decide +kernel
theorem dX5_sign_0 : decode cX5_sign 0 = .ok (.aload_n 0, 1) := by decide +kernel
theorem dX5_sign_1 : decode cX5_sign 1 = .ok (.getfield 34, 3) := by decide +kernel
theorem dX5_sign_4 : decode cX5_sign 4 = .ok (.aload_n 0, 1) := by decide +kernel
theorem dX5_sign_5 : decode cX5_sign 5 = .ok (.getfield 31, 3) := by decide +kernel
theorem dX5_sign_8 : decode cX5_sign 8 = .ok (.if_icmp .ge 15, 3) := by decide +kernel
theorem dX5_sign_11 : decode cX5_sign 11 = .ok (.aload_n 0, 1) := by decide +kernel
theorem dX5_sign_12 : decode cX5_sign 12 = .ok (.getfield 28, 3) := by decide +kernel
theorem dX5_sign_15 : decode cX5_sign 15 = .ok (.aload_n 0, 1) := by decide +kernel
theorem dX5_sign_16 : decode cX5_sign 16 = .ok (.getfield 34, 3) := by decide +kernel
theorem dX5_sign_19 : decode cX5_sign 19 = .ok (.iaload, 1) := by decide +kernel
theorem dX5_sign_20 : decode cX5_sign 20 = .ok (.goto 4, 3) := by decide +kernel
theorem dX5_sign_23 : decode cX5_sign 23 = .ok (.iconst 0, 1) := by decide +kernel
theorem dX5_sign_24 : decode cX5_sign 24 = .ok (.ireturn, 1) := by decide +kernel
set_option maxRecDepth 20000 in
theorem ggX5_readSign_X5_sign : GoodIn wsX5_readSign wsX5_sign := goodIn_r _ [6, 1, 7, 8, 9, 10, 11, 12, 13, 14, 15, 16, 17, 18, 19] (by decide +kernel) (by decide +kernel)
set_option maxRecDepth 20000 in
theorem gX5_readSign_X5_sign : GoodIn wsX5_readSign (wsV RX5 93 RX5 yX5_sign wsX5_sign) := goodIn_app (goodIn_of _ (by decide +kernel)) ggX5_readSign_X5_sign
theorem dX5_readSign_0 : decode cX5_readSign 0 = .ok (.aload_n 0, 1) := by decide +kernel
theorem dX5_readSign_1 : decode cX5_readSign 1 = .ok (.invokevirtual 93, 3) := by decide +kernel
theorem dX5_readSign_4 : decode cX5_readSign 4 = .ok (.iload_n 1, 1) := by decide +kernel
theorem dX5_readSign_5 : decode cX5_readSign 5 = .ok (.if_icmp .eq 5, 3) := by decide +kernel
theorem dX5_readSign_8 : decode cX5_readSign 8 = .ok (.iconst 0, 1) := by decide +kernel
theorem dX5_readSign_9 : decode cX5_readSign 9 = .ok (.ireturn, 1) := by decide +kernel
theorem dX5_readSign_10 : decode cX5_readSign 10 = .ok (.aload_n 0, 1) := by decide +kernel
theorem dX5_readSign_11 : decode cX5_readSign 11 = .ok (.dup, 1) := by decide +kernel
theorem dX5_readSign_12 : decode cX5_readSign 12 = .ok (.getfield 34, 3) := by decide +kernel
theorem dX5_readSign_15 : decode cX5_readSign 15 = .ok (.iconst 1, 1) := by decide +kernel
theorem dX5_readSign_16 : decode cX5_readSign 16 = .ok (.iadd, 1) := by decide +kernel
theorem dX5_readSign_17 : decode cX5_readSign 17 = .ok (.putfield 34, 3) := by decide +kernel
theorem dX5_readSign_20 : decode cX5_readSign 20 = .ok (.iconst 1, 1) := by decide +kernel
theorem dX5_readSign_21 : decode cX5_readSign 21 = .ok (.ireturn, 1) := by decide +kernel
set_option maxRecDepth 20000 in
theorem ggX5_readEither_X5_readBoth : GoodIn wsX5_readEither wsX5_readBoth := goodIn_r _ [22, 1, 23, 24, 25, 5, 6, 7, 8, 9, 10, 11, 12, 13, 14, 15, 16, 17, 18, 19, 20, 21, 0, 2, 3, 4, 26, 27, 28, 29, 30, 31, 32, 33, 34, 35, 36, 37, 38, 39, 40, 41, 42, 43, 44, 45, 46, 47, 48, 49, 50, 51, 52, 53, 54, 55, 56, 57, 58, 59, 60, 61, 62, 63, 64, 65, 66, 67, 68, 69, 70, 71, 72, 73, 74, 75, 76, 77, 78, 79, 80, 81, 82, 83, 84, 85, 86, 87, 88, 89, 90, 91, 92, 93, 94, 95, 96, 97, 98, 99, 100, 101, 102, 103, 104, 105, 106, 107, 108, 109, 110, 111, 112, 113, 114, 115, 116, 117, 118, 119, 120, 121, 122, 123, 124, 125, 126, 127, 128, 129, 130, 131, 132, 133, 134, 135, 136, 137, 138, 139, 140, 141] (by decide +kernel) (by decide +kernel)
set_option maxRecDepth 20000 in
theorem gX5_readEither_X5_readBoth : GoodIn wsX5_readEither (wsV RX5 99 RX5 yX5_readBoth wsX5_readBoth) := goodIn_app (goodIn_of _ (by decide +kernel)) ggX5_readEither_X5_readBoth
set_option maxRecDepth 20000 in
theorem ggX5_readEither_X5_readSign : GoodIn wsX5_readEither wsX5_readSign := goodIn_r _ [9, 10, 11, 12, 13, 5, 14, 1, 15, 131, 132, 133, 134, 135, 136, 137, 138, 139, 140, 141] (by decide +kernel) (by decide +kernel)
set_option maxRecDepth 20000 in
theorem gX5_readEither_X5_readSign : GoodIn wsX5_readEither (wsV RX5 51 RX5 yX5_readSign wsX5_readSign) := goodIn_app (goodIn_of _ (by decide +kernel)) ggX5_readEither_X5_readSign
set_option maxRecDepth 20000 in
theorem ggX5_readEither_X5_code : GoodIn wsX5_readEither wsX5_code := goodIn_r _ [19, 20, 21, 131, 132, 133, 134, 135, 136, 137, 138, 139, 140, 141] (by decide +kernel) (by decide +kernel)
set_option maxRecDepth 20000 in
theorem gX5_readEither_X5_code : GoodIn wsX5_readEither (wsV RX5 102 RX5 yX5_code wsX5_code) := goodIn_app (goodIn_of _ (by decide +kernel)) ggX5_readEither_X5_code
theorem dX5_readEither_0 : decode cX5_readEither 0 = .ok (.aload_n 0, 1) := by decide +kernel
theorem dX5_readEither_1 : decode cX5_readEither 1 = .ok (.iload_n 1, 1) := by decide +kernel
theorem dX5_readEither_2 : decode cX5_readEither 2 = .ok (.invokevirtual 99, 3) := by decide +kernel
theorem dX5_readEither_5 : decode cX5_readEither 5 = .ok (.ifCond .ne 5, 3) := by decide +kernel
theorem dX5_readEither_8 : decode cX5_readEither 8 = .ok (.iconst 0, 1) := by decide +kernel
theorem dX5_readEither_9 : decode cX5_readEither 9 = .ok (.ireturn, 1) := by decide +kernel
theorem dX5_readEither_10 : decode cX5_readEither 10 = .ok (.iconst 0, 1) := by decide +kernel
theorem dX5_readEither_11 : decode cX5_readEither 11 = .ok (.istore_n 2, 1) := by decide +kernel
theorem dX5_readEither_12 : decode cX5_readEither 12 = .ok (.iload_n 2, 1) := by decide +kernel
theorem dX5_readEither_13 : decode cX5_readEither 13 = .ok (.aload_n 0, 1) := by decide +kernel
theorem dX5_readEither_14 : decode cX5_readEither 14 = .ok (.getfield 31, 3) := by decide +kernel
theorem dX5_readEither_17 : decode cX5_readEither 17 = .ok (.if_icmp .ge 34, 3) := by decide +kernel
theorem dX5_readEither_20 : decode cX5_readEither 20 = .ok (.aload_n 0, 1) := by decide +kernel
theorem dX5_readEither_21 : decode cX5_readEither 21 = .ok (.bipush 124, 2) := by decide +kernel
theorem dX5_readEither_23 : decode cX5_readEither 23 = .ok (.invokevirtual 51, 3) := by decide +kernel
theorem dX5_readEither_26 : decode cX5_readEither 26 = .ok (.ifCond .eq 25, 3) := by decide +kernel
theorem dX5_readEither_29 : decode cX5_readEither 29 = .ok (.aload_n 0, 1) := by decide +kernel
theorem dX5_readEither_30 : decode cX5_readEither 30 = .ok (.iload_n 1, 1) := by decide +kernel
theorem dX5_readEither_31 : decode cX5_readEither 31 = .ok (.invokevirtual 99, 3) := by decide +kernel
theorem dX5_readEither_34 : decode cX5_readEither 34 = .ok (.ifCond .ne 5, 3) := by decide +kernel
theorem dX5_readEither_37 : decode cX5_readEither 37 = .ok (.iconst 0, 1) := by decide +kernel
theorem dX5_readEither_38 : decode cX5_readEither 38 = .ok (.ireturn, 1) := by decide +kernel
theorem dX5_readEither_39 : decode cX5_readEither 39 = .ok (.aload_n 0, 1) := by decide +kernel
theorem dX5_readEither_40 : decode cX5_readEither 40 = .ok (.bipush (-3), 2) := by decide +kernel
theorem dX5_readEither_42 : decode cX5_readEither 42 = .ok (.invokevirtual 102, 3) := by decide +kernel
theorem dX5_readEither_45 : decode cX5_readEither 45 = .ok (.iinc 2 1, 3) := by decide +kernel
theorem dX5_readEither_48 : decode cX5_readEither 48 = .ok (.goto (-36), 3) := by decide +kernel
theorem dX5_readEither_51 : decode cX5_readEither 51 = .ok (.iconst 1, 1) := by decide +kernel
theorem dX5_readEither_52 : decode cX5_readEither 52 = .ok (.ireturn, 1) := by decide +kernel
set_option maxRecDepth 20000 in
theorem ggX5_readBoth_X5_readPlain : GoodIn wsX5_readBoth wsX5_readPlain := goodIn_r _ [26, 10, 11, 12, 13, 5, 14, 1, 15, 27, 28, 29, 30, 31, 32, 33, 34, 35, 36, 37, 38, 39, 40, 41, 42, 43, 44, 45, 46, 47, 48, 49, 50, 51, 52, 53, 54, 55, 56, 57, 58, 59, 60, 61, 62, 63, 64, 65, 66, 67, 68, 69, 70, 71, 72, 73, 74, 75, 76, 77, 78, 79, 80, 81, 82, 83, 84, 85, 86, 87, 88, 89, 90, 91, 92, 93, 94, 95, 96, 97, 98, 99, 100, 101, 102, 103, 104, 105, 106, 107, 108, 109, 110, 111, 112, 113, 114, 115, 116, 117, 118, 119, 120, 121, 122, 123, 124, 125, 126, 127, 16, 17, 18, 19, 20, 21, 128, 129, 130, 6, 7, 8, 9, 2, 3, 4, 0, 22, 23, 24, 25, 131, 132, 133, 134, 135, 136, 137, 138, 139, 140, 141] (by decide +kernel) (by decide +kernel)
set_option maxRecDepth 20000 in
theorem gX5_readBoth_X5_readPlain : GoodIn wsX5_readBoth (wsV RX5 106 RX5 yX5_readPlain wsX5_readPlain) := goodIn_app (goodIn_of _ (by decide +kernel)) ggX5_readBoth_X5_readPlain
set_option maxRecDepth 20000 in
theorem ggX5_readBoth_X5_readSign : GoodIn wsX5_readBoth wsX5_readSign := goodIn_r _ [9, 10, 11, 12, 13, 5, 14, 1, 15, 131, 132, 133, 134, 135, 136, 137, 138, 139, 140, 141] (by decide +kernel) (by decide +kernel)
set_option maxRecDepth 20000 in
theorem gX5_readBoth_X5_readSign : GoodIn wsX5_readBoth (wsV RX5 51 RX5 yX5_readSign wsX5_readSign) := goodIn_app (goodIn_of _ (by decide +kernel)) ggX5_readBoth_X5_readSign
set_option maxRecDepth 20000 in
theorem ggX5_readBoth_X5_code : GoodIn wsX5_readBoth wsX5_code := goodIn_r _ [19, 20, 21, 131, 132, 133, 134, 135, 136, 137, 138, 139, 140, 141] (by decide +kernel) (by decide +kernel)
set_option maxRecDepth 20000 in
theorem gX5_readBoth_X5_code : GoodIn wsX5_readBoth (wsV RX5 102 RX5 yX5_code wsX5_code) := goodIn_app (goodIn_of _ (by decide +kernel)) ggX5_readBoth_X5_code
theorem dX5_readBoth_0 : decode cX5_readBoth 0 = .ok (.aload_n 0, 1) := by decide +kernel
theorem dX5_readBoth_1 : decode cX5_readBoth 1 = .ok (.iload_n 1, 1) := by decide +kernel
theorem dX5_readBoth_2 : decode cX5_readBoth 2 = .ok (.invokevirtual 106, 3) := by decide +kernel
theorem dX5_readBoth_5 : decode cX5_readBoth 5 = .ok (.ifCond .ne 5, 3) := by decide +kernel
theorem dX5_readBoth_8 : decode cX5_readBoth 8 = .ok (.iconst 0, 1) := by decide +kernel
theorem dX5_readBoth_9 : decode cX5_readBoth 9 = .ok (.ireturn, 1) := by decide +kernel
theorem dX5_readBoth_10 : decode cX5_readBoth 10 = .ok (.iconst 0, 1) := by decide +kernel
theorem dX5_readBoth_11 : decode cX5_readBoth 11 = .ok (.istore_n 2, 1) := by decide +kernel
theorem dX5_readBoth_12 : decode cX5_readBoth 12 = .ok (.iload_n 2, 1) := by decide +kernel
theorem dX5_readBoth_13 : decode cX5_readBoth 13 = .ok (.aload_n 0, 1) := by decide +kernel
theorem dX5_readBoth_14 : decode cX5_readBoth 14 = .ok (.getfield 31, 3) := by decide +kernel
theorem dX5_readBoth_17 : decode cX5_readBoth 17 = .ok (.if_icmp .ge 34, 3) := by decide +kernel
theorem dX5_readBoth_20 : decode cX5_readBoth 20 = .ok (.aload_n 0, 1) := by decide +kernel
theorem dX5_readBoth_21 : decode cX5_readBoth 21 = .ok (.bipush 38, 2) := by decide +kernel
theorem dX5_readBoth_23 : decode cX5_readBoth 23 = .ok (.invokevirtual 51, 3) := by decide +kernel
theorem dX5_readBoth_26 : decode cX5_readBoth 26 = .ok (.ifCond .eq 25, 3) := by decide +kernel
theorem dX5_readBoth_29 : decode cX5_readBoth 29 = .ok (.aload_n 0, 1) := by decide +kernel
theorem dX5_readBoth_30 : decode cX5_readBoth 30 = .ok (.iload_n 1, 1) := by decide +kernel
theorem dX5_readBoth_31 : decode cX5_readBoth 31 = .ok (.invokevirtual 106, 3) := by decide +kernel
theorem dX5_readBoth_34 : decode cX5_readBoth 34 = .ok (.ifCond .ne 5, 3) := by decide +kernel
theorem dX5_readBoth_37 : decode cX5_readBoth 37 = .ok (.iconst 0, 1) := by decide +kernel
theorem dX5_readBoth_38 : decode cX5_readBoth 38 = .ok (.ireturn, 1) := by decide +kernel
theorem dX5_readBoth_39 : decode cX5_readBoth 39 = .ok (.aload_n 0, 1) := by decide +kernel
theorem dX5_readBoth_40 : decode cX5_readBoth 40 = .ok (.bipush (-2), 2) := by decide +kernel
theorem dX5_readBoth_42 : decode cX5_readBoth 42 = .ok (.invokevirtual 102, 3) := by decide +kernel
theorem dX5_readBoth_45 : decode cX5_readBoth 45 = .ok (.iinc 2 1, 3) := by decide +kernel
theorem dX5_readBoth_48 : decode cX5_readBoth 48 = .ok (.goto (-36), 3) := by decide +kernel
theorem dX5_readBoth_51 : decode cX5_readBoth 51 = .ok (.iconst 1, 1) := by decide +kernel
theorem dX5_readBoth_52 : decode cX5_readBoth 52 = .ok (.ireturn, 1) := by decide +kernel
set_option maxRecDepth 20000 in
theorem ggX5_readPlain_X5_sign : GoodIn wsX5_readPlain wsX5_sign := goodIn_r _ [6, 1, 7, 8, 131, 132, 133, 134, 135, 136, 137, 138, 139, 140, 141] (by decide +kernel) (by decide +kernel)
set_option maxRecDepth 20000 in
theorem gX5_readPlain_X5_sign : GoodIn wsX5_readPlain (wsV RX5 93 RX5 yX5_sign wsX5_sign) := goodIn_app (goodIn_of _ (by decide +kernel)) ggX5_readPlain_X5_sign
set_option maxRecDepth 20000 in
theorem ggX5_readPlain_X5_readTest : GoodIn wsX5_readPlain wsX5_readTest := goodIn_r _ [12, 1, 13, 2, 3, 4, 5, 6, 7, 8, 14, 15, 16, 17, 18, 19, 20, 21, 22, 23, 24, 25, 26, 27, 28, 29, 30, 31, 32, 33, 34, 35, 36, 37, 38, 39, 40, 41, 42, 43, 44, 45, 46, 47, 48, 49, 50, 51, 52, 53, 54, 55, 56, 57, 58, 59, 60, 61, 62, 63, 64, 65, 66, 67, 68, 69, 70, 71, 72, 73, 74, 75, 76, 77, 78, 79, 80, 81, 82, 83, 84, 85, 86, 87, 88, 89, 90, 91, 92, 93, 94, 95, 96, 97, 98, 99, 100, 101, 102, 103, 104, 105, 106, 107, 108, 109, 110, 111, 112, 113, 114, 115, 131, 132, 133, 134, 135, 136, 137, 138, 139, 140, 141] (by decide +kernel) (by decide +kernel)
set_option maxRecDepth 20000 in
theorem gX5_readPlain_X5_readTest : GoodIn wsX5_readPlain (wsV RX5 109 RX5 yX5_readTest wsX5_readTest) := goodIn_app (goodIn_of _ (by decide +kernel)) ggX5_readPlain_X5_readTest
set_option maxRecDepth 20000 in
theorem ggX5_readPlain_X5_readEither : GoodIn wsX5_readPlain wsX5_readEither := goodIn_r _ [127, 7, 128, 129, 130, 5, 119, 120, 121, 122, 1, 2, 3, 4, 6, 8, 110, 111, 112, 113, 114, 115, 126, 123, 124, 125, 0, 9, 10, 11, 12, 13, 14, 15, 16, 17, 18, 19, 20, 21, 22, 23, 24, 25, 26, 27, 28, 29, 30, 31, 32, 33, 34, 35, 36, 37, 38, 39, 40, 41, 42, 43, 44, 45, 46, 47, 48, 49, 50, 51, 52, 53, 54, 55, 56, 57, 58, 59, 60, 61, 62, 63, 64, 65, 66, 67, 68, 69, 70, 71, 72, 73, 74, 75, 76, 77, 78, 79, 80, 81, 82, 83, 84, 85, 86, 87, 88, 89, 90, 91, 92, 93, 94, 95, 96, 97, 98, 99, 100, 101, 102, 103, 104, 105, 106, 107, 108, 109, 116, 117, 118, 131, 132, 133, 134, 135, 136, 137, 138, 139, 140, 141] (by decide +kernel) (by decide +kernel)
set_option maxRecDepth 20000 in
theorem gX5_readPlain_X5_readEither : GoodIn wsX5_readPlain (wsV RX5 55 RX5 yX5_readEither wsX5_readEither) := goodIn_app (goodIn_of _ (by decide +kernel)) ggX5_readPlain_X5_readEither
set_option maxRecDepth 20000 in
theorem ggX5_readPlain_X5_readSign : GoodIn wsX5_readPlain wsX5_readSign := goodIn_r _ [122, 1, 2, 3, 4, 5, 6, 7, 8, 131, 132, 133, 134, 135, 136, 137, 138, 139, 140, 141] (by decide +kernel) (by decide +kernel)
set_option maxRecDepth 20000 in
theorem gX5_readPlain_X5_readSign : GoodIn wsX5_readPlain (wsV RX5 51 RX5 yX5_readSign wsX5_readSign) := goodIn_app (goodIn_of _ (by decide +kernel)) ggX5_readPlain_X5_readSign
set_option maxRecDepth 20000 in
theorem ggX5_readPlain_X5_readPlain : GoodIn wsX5_readPlain wsX5_readPlain := goodIn_r _ [0, 1, 2, 3, 4, 5, 6, 7, 8, 9, 10, 11, 12, 13, 14, 15, 16, 17, 18, 19, 20, 21, 22, 23, 24, 25, 26, 27, 28, 29, 30, 31, 32, 33, 34, 35, 36, 37, 38, 39, 40, 41, 42, 43, 44, 45, 46, 47, 48, 49, 50, 51, 52, 53, 54, 55, 56, 57, 58, 59, 60, 61, 62, 63, 64, 65, 66, 67, 68, 69, 70, 71, 72, 73, 74, 75, 76, 77, 78, 79, 80, 81, 82, 83, 84, 85, 86, 87, 88, 89, 90, 91, 92, 93, 94, 95, 96, 97, 98, 99, 100, 101, 102, 103, 104, 105, 106, 107, 108, 109, 110, 111, 112, 113, 114, 115, 116, 117, 118, 119, 120, 121, 122, 123, 124, 125, 126, 127, 128, 129, 130, 131, 132, 133, 134, 135, 136, 137, 138, 139, 140, 141] (by decide +kernel) (by decide +kernel)
set_option maxRecDepth 20000 in
theorem gX5_readPlain_X5_readPlain : GoodIn wsX5_readPlain (wsV RX5 106 RX5 yX5_readPlain wsX5_readPlain) := goodIn_app (goodIn_of _ (by decide +kernel)) ggX5_readPlain_X5_readPlain
set_option maxRecDepth 20000 in
theorem ggX5_readPlain_X5_code : GoodIn wsX5_readPlain wsX5_code := goodIn_r _ [113, 114, 115, 131, 132, 133, 134, 135, 136, 137, 138, 139, 140, 141] (by decide +kernel) (by decide +kernel)
set_option maxRecDepth 20000 in
theorem gX5_readPlain_X5_code : GoodIn wsX5_readPlain (wsV RX5 102 RX5 yX5_code wsX5_code) := goodIn_app (goodIn_of _ (by decide +kernel)) ggX5_readPlain_X5_code
theorem dX5_readPlain_0 : decode cX5_readPlain 0 = .ok (.aload_n 0, 1) := by decide +kernel
theorem dX5_readPlain_1 : decode cX5_readPlain 1 = .ok (.invokevirtual 93, 3) := by decide +kernel
theorem dX5_readPlain_4 : decode cX5_readPlain 4 = .ok (.istore_n 2, 1) := by decide +kernel
theorem dX5_readPlain_5 : decode cX5_readPlain 5 = .ok (.iload_n 2, 1) := by decide +kernel
theorem dX5_readPlain_6 : decode cX5_readPlain 6 = .ok (.bipush 33, 2) := by decide +kernel
theorem dX5_readPlain_8 : decode cX5_readPlain 8 = .ok (.if_icmp .eq 14, 3) := by decide +kernel
theorem dX5_readPlain_11 : decode cX5_readPlain 11 = .ok (.iload_n 2, 1) := by decide +kernel
theorem dX5_readPlain_12 : decode cX5_readPlain 12 = .ok (.bipush 40, 2) := by decide +kernel
theorem dX5_readPlain_14 : decode cX5_readPlain 14 = .ok (.if_icmp .eq 8, 3) := by decide +kernel
theorem dX5_readPlain_17 : decode cX5_readPlain 17 = .ok (.aload_n 0, 1) := by decide +kernel
theorem dX5_readPlain_18 : decode cX5_readPlain 18 = .ok (.invokevirtual 109, 3) := by decide +kernel
theorem dX5_readPlain_21 : decode cX5_readPlain 21 = .ok (.ireturn, 1) := by decide +kernel
theorem dX5_readPlain_22 : decode cX5_readPlain 22 = .ok (.iload_n 1, 1) := by decide +kernel
theorem dX5_readPlain_23 : decode cX5_readPlain 23 = .ok (.iconst 5, 1) := by decide +kernel
theorem dX5_readPlain_24 : decode cX5_readPlain 24 = .ok (.if_icmp .lt 5, 3) := by decide +kernel
theorem dX5_readPlain_27 : decode cX5_readPlain 27 = .ok (.iconst 0, 1) := by decide +kernel
theorem dX5_readPlain_28 : decode cX5_readPlain 28 = .ok (.ireturn, 1) := by decide +kernel
theorem dX5_readPlain_29 : decode cX5_readPlain 29 = .ok (.aload_n 0, 1) := by decide +kernel
theorem dX5_readPlain_30 : decode cX5_readPlain 30 = .ok (.dup, 1) := by decide +kernel
theorem dX5_readPlain_31 : decode cX5_readPlain 31 = .ok (.getfield 34, 3) := by decide +kernel
theorem dX5_readPlain_34 : decode cX5_readPlain 34 = .ok (.iconst 1, 1) := by decide +kernel
theorem dX5_readPlain_35 : decode cX5_readPlain 35 = .ok (.iadd, 1) := by decide +kernel
theorem dX5_readPlain_36 : decode cX5_readPlain 36 = .ok (.putfield 34, 3) := by decide +kernel
theorem dX5_readPlain_39 : decode cX5_readPlain 39 = .ok (.iload_n 2, 1) := by decide +kernel
theorem dX5_readPlain_40 : decode cX5_readPlain 40 = .ok (.bipush 40, 2) := by decide +kernel
theorem dX5_readPlain_42 : decode cX5_readPlain 42 = .ok (.if_icmp .ne 28, 3) := by decide +kernel
theorem dX5_readPlain_45 : decode cX5_readPlain 45 = .ok (.aload_n 0, 1) := by decide +kernel
theorem dX5_readPlain_46 : decode cX5_readPlain 46 = .ok (.iload_n 1, 1) := by decide +kernel
theorem dX5_readPlain_47 : decode cX5_readPlain 47 = .ok (.iconst 1, 1) := by decide +kernel
theorem dX5_readPlain_48 : decode cX5_readPlain 48 = .ok (.iadd, 1) := by decide +kernel
theorem dX5_readPlain_49 : decode cX5_readPlain 49 = .ok (.invokevirtual 55, 3) := by decide +kernel
theorem dX5_readPlain_52 : decode cX5_readPlain 52 = .ok (.ifCond .eq 16, 3) := by decide +kernel
theorem dX5_readPlain_55 : decode cX5_readPlain 55 = .ok (.aload_n 0, 1) := by decide +kernel
theorem dX5_readPlain_56 : decode cX5_readPlain 56 = .ok (.bipush 41, 2) := by decide +kernel
theorem dX5_readPlain_58 : decode cX5_readPlain 58 = .ok (.invokevirtual 51, 3) := by decide +kernel
theorem dX5_readPlain_61 : decode cX5_readPlain 61 = .ok (.ifCond .eq 7, 3) := by decide +kernel
theorem dX5_readPlain_64 : decode cX5_readPlain 64 = .ok (.iconst 1, 1) := by decide +kernel
theorem dX5_readPlain_65 : decode cX5_readPlain 65 = .ok (.goto 4, 3) := by decide +kernel
theorem dX5_readPlain_68 : decode cX5_readPlain 68 = .ok (.iconst 0, 1) := by decide +kernel
theorem dX5_readPlain_69 : decode cX5_readPlain 69 = .ok (.ireturn, 1) := by decide +kernel
theorem dX5_readPlain_70 : decode cX5_readPlain 70 = .ok (.aload_n 0, 1) := by decide +kernel
theorem dX5_readPlain_71 : decode cX5_readPlain 71 = .ok (.iload_n 1, 1) := by decide +kernel
theorem dX5_readPlain_72 : decode cX5_readPlain 72 = .ok (.iconst 1, 1) := by decide +kernel
theorem dX5_readPlain_73 : decode cX5_readPlain 73 = .ok (.iadd, 1) := by decide +kernel
theorem dX5_readPlain_74 : decode cX5_readPlain 74 = .ok (.invokevirtual 106, 3) := by decide +kernel
theorem dX5_readPlain_77 : decode cX5_readPlain 77 = .ok (.ifCond .ne 5, 3) := by decide +kernel
theorem dX5_readPlain_80 : decode cX5_readPlain 80 = .ok (.iconst 0, 1) := by decide +kernel
theorem dX5_readPlain_81 : decode cX5_readPlain 81 = .ok (.ireturn, 1) := by decide +kernel
theorem dX5_readPlain_82 : decode cX5_readPlain 82 = .ok (.aload_n 0, 1) := by decide +kernel
theorem dX5_readPlain_83 : decode cX5_readPlain 83 = .ok (.iconst (-1), 1) := by decide +kernel
theorem dX5_readPlain_84 : decode cX5_readPlain 84 = .ok (.invokevirtual 102, 3) := by decide +kernel
theorem dX5_readPlain_87 : decode cX5_readPlain 87 = .ok (.iconst 1, 1) := by decide +kernel
theorem dX5_readPlain_88 : decode cX5_readPlain 88 = .ok (.ireturn, 1) := by decide +kernel
set_option maxRecDepth 20000 in
theorem ggX5_readTest_X5_sign : GoodIn wsX5_readTest wsX5_sign := goodIn_r _ [7, 1, 8, 9, 112, 113, 114, 115, 116, 117, 118, 119, 120, 121, 122] (by decide +kernel) (by decide +kernel)
set_option maxRecDepth 20000 in
theorem gX5_readTest_X5_sign : GoodIn wsX5_readTest (wsV RX5 93 RX5 yX5_sign wsX5_sign) := goodIn_app (goodIn_of _ (by decide +kernel)) ggX5_readTest_X5_sign
set_option maxRecDepth 20000 in
theorem ggX5_readTest_J0_indexOf_0f7a4 : GoodIn wsX5_readTest wsJ0_indexOf_0f7a4 := goodIn_r _ [14, 15, 16, 17, 13, 18, 19, 20, 21, 22, 23, 24, 25, 26, 27, 28, 29, 30, 31, 32, 33, 34, 35, 36, 37, 38, 39, 40, 41, 42, 43, 44, 45, 46, 47, 48, 49, 50, 51, 52, 53, 54, 55, 56, 57, 58, 59, 60, 61, 62, 63, 64, 65, 66, 67, 68, 69, 70, 71, 72, 73, 74, 75, 76, 77, 78, 79, 80, 81, 82, 83, 84, 85, 86, 87, 88, 89, 90, 91, 92, 93, 94, 95, 96, 97, 98] (by decide +kernel) (by decide +kernel)
set_option maxRecDepth 20000 in
theorem gX5_readTest_J0_indexOf_0f7a4 : GoodIn wsX5_readTest (wsV RX5 114 RJ0 yJ0_indexOf_0f7a4 wsJ0_indexOf_0f7a4) := goodIn_app (goodIn_of _ (by decide +kernel)) ggX5_readTest_J0_indexOf_0f7a4
set_option maxRecDepth 20000 in
theorem ggX5_readTest_X5_readNumber : GoodIn wsX5_readTest wsX5_readNumber := goodIn_r _ [102, 2, 1, 3, 4, 5, 6, 7, 8, 9, 103, 104, 105, 112, 113, 114, 115, 116, 117, 118, 119, 120, 121, 122] (by decide +kernel) (by decide +kernel)
set_option maxRecDepth 20000 in
theorem gX5_readTest_X5_readNumber : GoodIn wsX5_readTest (wsV RX5 44 RX5 yX5_readNumber wsX5_readNumber) := goodIn_app (goodIn_of _ (by decide +kernel)) ggX5_readTest_X5_readNumber
set_option maxRecDepth 20000 in
theorem ggX5_readTest_X5_code : GoodIn wsX5_readTest wsX5_code := goodIn_r _ [109, 110, 111, 112, 113, 114, 115, 116, 117, 118, 119, 120, 121, 122] (by decide +kernel) (by decide +kernel)
set_option maxRecDepth 20000 in
theorem gX5_readTest_X5_code : GoodIn wsX5_readTest (wsV RX5 102 RX5 yX5_code wsX5_code) := goodIn_app (goodIn_of _ (by decide +kernel)) ggX5_readTest_X5_code
theorem dX5_readTest_0 : decode cX5_readTest 0 = .ok (.ldc 112, 2) := by decide +kernel
theorem dX5_readTest_2 : decode cX5_readTest 2 = .ok (.aload_n 0, 1) := by decide +kernel
theorem dX5_readTest_3 : decode cX5_readTest 3 = .ok (.invokevirtual 93, 3) := by decide +kernel
theorem dX5_readTest_6 : decode cX5_readTest 6 = .ok (.i2c, 1) := by decide +kernel
theorem dX5_readTest_7 : decode cX5_readTest 7 = .ok (.invokevirtual 114, 3) := by decide +kernel
theorem dX5_readTest_10 : decode cX5_readTest 10 = .ok (.istore_n 1, 1) := by decide +kernel
theorem dX5_readTest_11 : decode cX5_readTest 11 = .ok (.iload_n 1, 1) := by decide +kernel
theorem dX5_readTest_12 : decode cX5_readTest 12 = .ok (.ifCond .ge 5, 3) := by decide +kernel
theorem dX5_readTest_15 : decode cX5_readTest 15 = .ok (.iconst 0, 1) := by decide +kernel
theorem dX5_readTest_16 : decode cX5_readTest 16 = .ok (.ireturn, 1) := by decide +kernel
theorem dX5_readTest_17 : decode cX5_readTest 17 = .ok (.aload_n 0, 1) := by decide +kernel
theorem dX5_readTest_18 : decode cX5_readTest 18 = .ok (.dup, 1) := by decide +kernel
theorem dX5_readTest_19 : decode cX5_readTest 19 = .ok (.getfield 34, 3) := by decide +kernel
theorem dX5_readTest_22 : decode cX5_readTest 22 = .ok (.iconst 1, 1) := by decide +kernel
theorem dX5_readTest_23 : decode cX5_readTest 23 = .ok (.iadd, 1) := by decide +kernel
theorem dX5_readTest_24 : decode cX5_readTest 24 = .ok (.putfield 34, 3) := by decide +kernel
theorem dX5_readTest_27 : decode cX5_readTest 27 = .ok (.ldc 118, 2) := by decide +kernel
theorem dX5_readTest_29 : decode cX5_readTest 29 = .ok (.aload_n 0, 1) := by decide +kernel
theorem dX5_readTest_30 : decode cX5_readTest 30 = .ok (.invokevirtual 93, 3) := by decide +kernel
theorem dX5_readTest_33 : decode cX5_readTest 33 = .ok (.i2c, 1) := by decide +kernel
theorem dX5_readTest_34 : decode cX5_readTest 34 = .ok (.invokevirtual 114, 3) := by decide +kernel
theorem dX5_readTest_37 : decode cX5_readTest 37 = .ok (.istore_n 2, 1) := by decide +kernel
theorem dX5_readTest_38 : decode cX5_readTest 38 = .ok (.iload_n 2, 1) := by decide +kernel
theorem dX5_readTest_39 : decode cX5_readTest 39 = .ok (.ifCond .ge 5, 3) := by decide +kernel
theorem dX5_readTest_42 : decode cX5_readTest 42 = .ok (.iconst 0, 1) := by decide +kernel
theorem dX5_readTest_43 : decode cX5_readTest 43 = .ok (.ireturn, 1) := by decide +kernel
theorem dX5_readTest_44 : decode cX5_readTest 44 = .ok (.aload_n 0, 1) := by decide +kernel
theorem dX5_readTest_45 : decode cX5_readTest 45 = .ok (.dup, 1) := by decide +kernel
theorem dX5_readTest_46 : decode cX5_readTest 46 = .ok (.getfield 34, 3) := by decide +kernel
theorem dX5_readTest_49 : decode cX5_readTest 49 = .ok (.iconst 1, 1) := by decide +kernel
theorem dX5_readTest_50 : decode cX5_readTest 50 = .ok (.iadd, 1) := by decide +kernel
theorem dX5_readTest_51 : decode cX5_readTest 51 = .ok (.putfield 34, 3) := by decide +kernel
theorem dX5_readTest_54 : decode cX5_readTest 54 = .ok (.aload_n 0, 1) := by decide +kernel
theorem dX5_readTest_55 : decode cX5_readTest 55 = .ok (.invokevirtual 44, 3) := by decide +kernel
theorem dX5_readTest_58 : decode cX5_readTest 58 = .ok (.ifCond .ne 5, 3) := by decide +kernel
theorem dX5_readTest_61 : decode cX5_readTest 61 = .ok (.iconst 0, 1) := by decide +kernel
theorem dX5_readTest_62 : decode cX5_readTest 62 = .ok (.ireturn, 1) := by decide +kernel
theorem dX5_readTest_63 : decode cX5_readTest 63 = .ok (.aload_n 0, 1) := by decide +kernel
theorem dX5_readTest_64 : decode cX5_readTest 64 = .ok (.iload_n 1, 1) := by decide +kernel
theorem dX5_readTest_65 : decode cX5_readTest 65 = .ok (.sipush 300, 3) := by decide +kernel
theorem dX5_readTest_68 : decode cX5_readTest 68 = .ok (.imul, 1) := by decide +kernel
theorem dX5_readTest_69 : decode cX5_readTest 69 = .ok (.iload_n 2, 1) := by decide +kernel
theorem dX5_readTest_70 : decode cX5_readTest 70 = .ok (.bipush 100, 2) := by decide +kernel
theorem dX5_readTest_72 : decode cX5_readTest 72 = .ok (.imul, 1) := by decide +kernel
theorem dX5_readTest_73 : decode cX5_readTest 73 = .ok (.iadd, 1) := by decide +kernel
theorem dX5_readTest_74 : decode cX5_readTest 74 = .ok (.aload_n 0, 1) := by decide +kernel
theorem dX5_readTest_75 : decode cX5_readTest 75 = .ok (.getfield 48, 3) := by decide +kernel
theorem dX5_readTest_78 : decode cX5_readTest 78 = .ok (.iadd, 1) := by decide +kernel
theorem dX5_readTest_79 : decode cX5_readTest 79 = .ok (.invokevirtual 102, 3) := by decide +kernel
theorem dX5_readTest_82 : decode cX5_readTest 82 = .ok (.iconst 1, 1) := by decide +kernel
theorem dX5_readTest_83 : decode cX5_readTest 83 = .ok (.ireturn, 1) := by decide +kernel
theorem dX5_code_0 : decode cX5_code 0 = .ok (.aload_n 0, 1) := by decide +kernel
theorem dX5_code_1 : decode cX5_code 1 = .ok (.getfield 37, 3) := by decide +kernel
theorem dX5_code_4 : decode cX5_code 4 = .ok (.bipush 100, 2) := by decide +kernel
theorem dX5_code_6 : decode cX5_code 6 = .ok (.if_icmp .lt 4, 3) := by decide +kernel
theorem dX5_code_9 : decode cX5_code 9 = .ok (.return_, 1) := by decide +kernel
theorem dX5_code_10 : decode cX5_code 10 = .ok (.aload_n 0, 1) := by decide +kernel
theorem dX5_code_11 : decode cX5_code 11 = .ok (.getfield 25, 3) := by decide +kernel
theorem dX5_code_14 : decode cX5_code 14 = .ok (.aload_n 0, 1) := by decide +kernel
theorem dX5_code_15 : decode cX5_code 15 = .ok (.getfield 37, 3) := by decide +kernel
theorem dX5_code_18 : decode cX5_code 18 = .ok (.iload_n 1, 1) := by decide +kernel
theorem dX5_code_19 : decode cX5_code 19 = .ok (.iastore, 1) := by decide +kernel
theorem dX5_code_20 : decode cX5_code 20 = .ok (.aload_n 0, 1) := by decide +kernel
theorem dX5_code_21 : decode cX5_code 21 = .ok (.dup, 1) := by decide +kernel
theorem dX5_code_22 : decode cX5_code 22 = .ok (.getfield 37, 3) := by decide +kernel
theorem dX5_code_25 : decode cX5_code 25 = .ok (.iconst 1, 1) := by decide +kernel
theorem dX5_code_26 : decode cX5_code 26 = .ok (.iadd, 1) := by decide +kernel
theorem dX5_code_27 : decode cX5_code 27 = .ok (.putfield 37, 3) := by decide +kernel
theorem dX5_code_30 : decode cX5_code 30 = .ok (.return_, 1) := by decide +kernel
set_option maxRecDepth 20000 in
theorem ggX5_total_X5_holds : GoodIn wsX5_total wsX5_holds := goodIn_r _ [8, 9, 10, 11, 12, 7, 13, 14, 15, 16, 17, 18, 19, 20, 21, 22, 23, 24] (by decide +kernel) (by decide +kernel)
set_option maxRecDepth 20000 in
theorem gX5_total_X5_holds : GoodIn wsX5_total (wsV RX5 120 RX5 yX5_holds wsX5_holds) := goodIn_app (goodIn_of _ (by decide +kernel)) ggX5_total_X5_holds
theorem dX5_total_0 : decode cX5_total 0 = .ok (.iconst 0, 1) := by decide +kernel
theorem dX5_total_1 : decode cX5_total 1 = .ok (.istore_n 3, 1) := by decide +kernel
theorem dX5_total_2 : decode cX5_total 2 = .ok (.iconst 0, 1) := by decide +kernel
theorem dX5_total_3 : decode cX5_total 3 = .ok (.istore 4, 2) := by decide +kernel
theorem dX5_total_5 : decode cX5_total 5 = .ok (.iload 4, 2) := by decide +kernel
theorem dX5_total_7 : decode cX5_total 7 = .ok (.aload_n 0, 1) := by decide +kernel
theorem dX5_total_8 : decode cX5_total 8 = .ok (.getfield 59, 3) := by decide +kernel
theorem dX5_total_11 : decode cX5_total 11 = .ok (.if_icmp .ge 40, 3) := by decide +kernel
theorem dX5_total_14 : decode cX5_total 14 = .ok (.aload_n 0, 1) := by decide +kernel
theorem dX5_total_15 : decode cX5_total 15 = .ok (.getfield 15, 3) := by decide +kernel
theorem dX5_total_18 : decode cX5_total 18 = .ok (.iload 4, 2) := by decide +kernel
theorem dX5_total_20 : decode cX5_total 20 = .ok (.iaload, 1) := by decide +kernel
theorem dX5_total_21 : decode cX5_total 21 = .ok (.iload_n 1, 1) := by decide +kernel
theorem dX5_total_22 : decode cX5_total 22 = .ok (.if_icmp .ne 23, 3) := by decide +kernel
theorem dX5_total_25 : decode cX5_total 25 = .ok (.aload_n 0, 1) := by decide +kernel
theorem dX5_total_26 : decode cX5_total 26 = .ok (.iload 4, 2) := by decide +kernel
theorem dX5_total_28 : decode cX5_total 28 = .ok (.aload_n 2, 1) := by decide +kernel
theorem dX5_total_29 : decode cX5_total 29 = .ok (.invokevirtual 120, 3) := by decide +kernel
theorem dX5_total_32 : decode cX5_total 32 = .ok (.ifCond .eq 13, 3) := by decide +kernel
theorem dX5_total_35 : decode cX5_total 35 = .ok (.iload_n 3, 1) := by decide +kernel
theorem dX5_total_36 : decode cX5_total 36 = .ok (.aload_n 0, 1) := by decide +kernel
theorem dX5_total_37 : decode cX5_total 37 = .ok (.getfield 19, 3) := by decide +kernel
theorem dX5_total_40 : decode cX5_total 40 = .ok (.iload 4, 2) := by decide +kernel
theorem dX5_total_42 : decode cX5_total 42 = .ok (.iaload, 1) := by decide +kernel
theorem dX5_total_43 : decode cX5_total 43 = .ok (.iadd, 1) := by decide +kernel
theorem dX5_total_44 : decode cX5_total 44 = .ok (.istore_n 3, 1) := by decide +kernel
theorem dX5_total_45 : decode cX5_total 45 = .ok (.iinc 4 1, 3) := by decide +kernel
theorem dX5_total_48 : decode cX5_total 48 = .ok (.goto (-43), 3) := by decide +kernel
theorem dX5_total_51 : decode cX5_total 51 = .ok (.iload_n 3, 1) := by decide +kernel
theorem dX5_total_52 : decode cX5_total 52 = .ok (.ireturn, 1) := by decide +kernel
set_option maxRecDepth 20000 in
theorem ggX5_holds_X5_isSo : GoodIn wsX5_holds wsX5_isSo := goodIn_r _ [6] (by decide +kernel) (by decide +kernel)
set_option maxRecDepth 20000 in
theorem gX5_holds_X5_isSo : GoodIn wsX5_holds (va_wsS RX5 124 yX5_isSo wsX5_isSo) := goodIn_app (goodIn_of _ (by decide +kernel)) ggX5_holds_X5_isSo
theorem dX5_holds_0 : decode cX5_holds 0 = .ok (.iload_n 1, 1) := by decide +kernel
theorem dX5_holds_1 : decode cX5_holds 1 = .ok (.ifCond .ne 7, 3) := by decide +kernel
theorem dX5_holds_4 : decode cX5_holds 4 = .ok (.iconst 0, 1) := by decide +kernel
theorem dX5_holds_5 : decode cX5_holds 5 = .ok (.goto 11, 3) := by decide +kernel
theorem dX5_holds_8 : decode cX5_holds 8 = .ok (.aload_n 0, 1) := by decide +kernel
theorem dX5_holds_9 : decode cX5_holds 9 = .ok (.getfield 22, 3) := by decide +kernel
theorem dX5_holds_12 : decode cX5_holds 12 = .ok (.iload_n 1, 1) := by decide +kernel
theorem dX5_holds_13 : decode cX5_holds 13 = .ok (.iconst 1, 1) := by decide +kernel
theorem dX5_holds_14 : decode cX5_holds 14 = .ok (.isub, 1) := by decide +kernel
theorem dX5_holds_15 : decode cX5_holds 15 = .ok (.iaload, 1) := by decide +kernel
theorem dX5_holds_16 : decode cX5_holds 16 = .ok (.istore_n 3, 1) := by decide +kernel
theorem dX5_holds_17 : decode cX5_holds 17 = .ok (.iconst 0, 1) := by decide +kernel
theorem dX5_holds_18 : decode cX5_holds 18 = .ok (.istore 4, 2) := by decide +kernel
theorem dX5_holds_20 : decode cX5_holds 20 = .ok (.iload_n 3, 1) := by decide +kernel
theorem dX5_holds_21 : decode cX5_holds 21 = .ok (.istore 5, 2) := by decide +kernel
theorem dX5_holds_23 : decode cX5_holds 23 = .ok (.iload 5, 2) := by decide +kernel
theorem dX5_holds_25 : decode cX5_holds 25 = .ok (.aload_n 0, 1) := by decide +kernel
theorem dX5_holds_26 : decode cX5_holds 26 = .ok (.getfield 22, 3) := by decide +kernel
theorem dX5_holds_29 : decode cX5_holds 29 = .ok (.iload_n 1, 1) := by decide +kernel
theorem dX5_holds_30 : decode cX5_holds 30 = .ok (.iaload, 1) := by decide +kernel
theorem dX5_holds_31 : decode cX5_holds 31 = .ok (.if_icmp .ge 97, 3) := by decide +kernel
theorem dX5_holds_34 : decode cX5_holds 34 = .ok (.aload_n 0, 1) := by decide +kernel
theorem dX5_holds_35 : decode cX5_holds 35 = .ok (.getfield 25, 3) := by decide +kernel
theorem dX5_holds_38 : decode cX5_holds 38 = .ok (.iload 5, 2) := by decide +kernel
theorem dX5_holds_40 : decode cX5_holds 40 = .ok (.iaload, 1) := by decide +kernel
theorem dX5_holds_41 : decode cX5_holds 41 = .ok (.istore 6, 2) := by decide +kernel
theorem dX5_holds_43 : decode cX5_holds 43 = .ok (.iload 6, 2) := by decide +kernel
theorem dX5_holds_45 : decode cX5_holds 45 = .ok (.iconst (-1), 1) := by decide +kernel
theorem dX5_holds_46 : decode cX5_holds 46 = .ok (.if_icmp .ne 12, 3) := by decide +kernel
theorem dX5_holds_49 : decode cX5_holds 49 = .ok (.iload 4, 2) := by decide +kernel
theorem dX5_holds_51 : decode cX5_holds 51 = .ok (.iconst 1, 1) := by decide +kernel
theorem dX5_holds_52 : decode cX5_holds 52 = .ok (.ixor, 1) := by decide +kernel
theorem dX5_holds_53 : decode cX5_holds 53 = .ok (.istore 4, 2) := by decide +kernel
theorem dX5_holds_55 : decode cX5_holds 55 = .ok (.goto 67, 3) := by decide +kernel
theorem dX5_holds_58 : decode cX5_holds 58 = .ok (.iload 6, 2) := by decide +kernel
theorem dX5_holds_60 : decode cX5_holds 60 = .ok (.bipush (-2), 2) := by decide +kernel
theorem dX5_holds_62 : decode cX5_holds 62 = .ok (.if_icmp .ne 18, 3) := by decide +kernel
theorem dX5_holds_65 : decode cX5_holds 65 = .ok (.iload 4, 2) := by decide +kernel
theorem dX5_holds_67 : decode cX5_holds 67 = .ok (.iconst 1, 1) := by decide +kernel
theorem dX5_holds_68 : decode cX5_holds 68 = .ok (.ishr, 1) := by decide +kernel
theorem dX5_holds_69 : decode cX5_holds 69 = .ok (.iload 4, 2) := by decide +kernel
theorem dX5_holds_71 : decode cX5_holds 71 = .ok (.bipush (-2), 2) := by decide +kernel
theorem dX5_holds_73 : decode cX5_holds 73 = .ok (.ior, 1) := by decide +kernel
theorem dX5_holds_74 : decode cX5_holds 74 = .ok (.iand, 1) := by decide +kernel
theorem dX5_holds_75 : decode cX5_holds 75 = .ok (.istore 4, 2) := by decide +kernel
theorem dX5_holds_77 : decode cX5_holds 77 = .ok (.goto 45, 3) := by decide +kernel
theorem dX5_holds_80 : decode cX5_holds 80 = .ok (.iload 6, 2) := by decide +kernel
theorem dX5_holds_82 : decode cX5_holds 82 = .ok (.bipush (-3), 2) := by decide +kernel
theorem dX5_holds_84 : decode cX5_holds 84 = .ok (.if_icmp .ne 17, 3) := by decide +kernel
theorem dX5_holds_87 : decode cX5_holds 87 = .ok (.iload 4, 2) := by decide +kernel
theorem dX5_holds_89 : decode cX5_holds 89 = .ok (.iconst 1, 1) := by decide +kernel
theorem dX5_holds_90 : decode cX5_holds 90 = .ok (.ishr, 1) := by decide +kernel
theorem dX5_holds_91 : decode cX5_holds 91 = .ok (.iload 4, 2) := by decide +kernel
theorem dX5_holds_93 : decode cX5_holds 93 = .ok (.iconst 1, 1) := by decide +kernel
theorem dX5_holds_94 : decode cX5_holds 94 = .ok (.iand, 1) := by decide +kernel
theorem dX5_holds_95 : decode cX5_holds 95 = .ok (.ior, 1) := by decide +kernel
theorem dX5_holds_96 : decode cX5_holds 96 = .ok (.istore 4, 2) := by decide +kernel
theorem dX5_holds_98 : decode cX5_holds 98 = .ok (.goto 24, 3) := by decide +kernel
theorem dX5_holds_101 : decode cX5_holds 101 = .ok (.iload 4, 2) := by decide +kernel
theorem dX5_holds_103 : decode cX5_holds 103 = .ok (.iconst 1, 1) := by decide +kernel
theorem dX5_holds_104 : decode cX5_holds 104 = .ok (.ishl, 1) := by decide +kernel
theorem dX5_holds_105 : decode cX5_holds 105 = .ok (.iload 6, 2) := by decide +kernel
theorem dX5_holds_107 : decode cX5_holds 107 = .ok (.aload_n 2, 1) := by decide +kernel
theorem dX5_holds_108 : decode cX5_holds 108 = .ok (.invokestatic 124, 3) := by decide +kernel
theorem dX5_holds_111 : decode cX5_holds 111 = .ok (.ifCond .eq 7, 3) := by decide +kernel
theorem dX5_holds_114 : decode cX5_holds 114 = .ok (.iconst 1, 1) := by decide +kernel
theorem dX5_holds_115 : decode cX5_holds 115 = .ok (.goto 4, 3) := by decide +kernel
theorem dX5_holds_118 : decode cX5_holds 118 = .ok (.iconst 0, 1) := by decide +kernel
theorem dX5_holds_119 : decode cX5_holds 119 = .ok (.ior, 1) := by decide +kernel
theorem dX5_holds_120 : decode cX5_holds 120 = .ok (.istore 4, 2) := by decide +kernel
theorem dX5_holds_122 : decode cX5_holds 122 = .ok (.iinc 5 1, 3) := by decide +kernel
theorem dX5_holds_125 : decode cX5_holds 125 = .ok (.goto (-102), 3) := by decide +kernel
theorem dX5_holds_128 : decode cX5_holds 128 = .ok (.iload 4, 2) := by decide +kernel
theorem dX5_holds_130 : decode cX5_holds 130 = .ok (.iconst 1, 1) := by decide +kernel
theorem dX5_holds_131 : decode cX5_holds 131 = .ok (.iand, 1) := by decide +kernel
theorem dX5_holds_132 : decode cX5_holds 132 = .ok (.iconst 1, 1) := by decide +kernel
theorem dX5_holds_133 : decode cX5_holds 133 = .ok (.if_icmp .ne 7, 3) := by decide +kernel
theorem dX5_holds_136 : decode cX5_holds 136 = .ok (.iconst 1, 1) := by decide +kernel
theorem dX5_holds_137 : decode cX5_holds 137 = .ok (.goto 4, 3) := by decide +kernel
theorem dX5_holds_140 : decode cX5_holds 140 = .ok (.iconst 0, 1) := by decide +kernel
theorem dX5_holds_141 : decode cX5_holds 141 = .ok (.ireturn, 1) := by decide +kernel
theorem dX5_isSo_0 : decode cX5_isSo 0 = .ok (.aload_n 1, 1) := by decide +kernel
theorem dX5_isSo_1 : decode cX5_isSo 1 = .ok (.iload_n 0, 1) := by decide +kernel
theorem dX5_isSo_2 : decode cX5_isSo 2 = .ok (.sipush 300, 3) := by decide +kernel
theorem dX5_isSo_5 : decode cX5_isSo 5 = .ok (.idiv, 1) := by decide +kernel
theorem dX5_isSo_6 : decode cX5_isSo 6 = .ok (.iaload, 1) := by decide +kernel
theorem dX5_isSo_7 : decode cX5_isSo 7 = .ok (.istore_n 2, 1) := by decide +kernel
theorem dX5_isSo_8 : decode cX5_isSo 8 = .ok (.iload_n 0, 1) := by decide +kernel
theorem dX5_isSo_9 : decode cX5_isSo 9 = .ok (.bipush 100, 2) := by decide +kernel
theorem dX5_isSo_11 : decode cX5_isSo 11 = .ok (.irem, 1) := by decide +kernel
theorem dX5_isSo_12 : decode cX5_isSo 12 = .ok (.istore_n 3, 1) := by decide +kernel
theorem dX5_isSo_13 : decode cX5_isSo 13 = .ok (.iload_n 0, 1) := by decide +kernel
theorem dX5_isSo_14 : decode cX5_isSo 14 = .ok (.bipush 100, 2) := by decide +kernel
theorem dX5_isSo_16 : decode cX5_isSo 16 = .ok (.idiv, 1) := by decide +kernel
theorem dX5_isSo_17 : decode cX5_isSo 17 = .ok (.iconst 3, 1) := by decide +kernel
theorem dX5_isSo_18 : decode cX5_isSo 18 = .ok (.irem, 1) := by decide +kernel
theorem dX5_isSo_19 : decode cX5_isSo 19 = .ok (.lookupswitch 47 #[(0, 25), (1, 36)], 25) := by decide +kernel
theorem dX5_isSo_44 : decode cX5_isSo 44 = .ok (.iload_n 2, 1) := by decide +kernel
theorem dX5_isSo_45 : decode cX5_isSo 45 = .ok (.iload_n 3, 1) := by decide +kernel
theorem dX5_isSo_46 : decode cX5_isSo 46 = .ok (.if_icmp .ge 7, 3) := by decide +kernel
theorem dX5_isSo_49 : decode cX5_isSo 49 = .ok (.iconst 1, 1) := by decide +kernel
theorem dX5_isSo_50 : decode cX5_isSo 50 = .ok (.goto 4, 3) := by decide +kernel
theorem dX5_isSo_53 : decode cX5_isSo 53 = .ok (.iconst 0, 1) := by decide +kernel
theorem dX5_isSo_54 : decode cX5_isSo 54 = .ok (.ireturn, 1) := by decide +kernel
theorem dX5_isSo_55 : decode cX5_isSo 55 = .ok (.iload_n 2, 1) := by decide +kernel
theorem dX5_isSo_56 : decode cX5_isSo 56 = .ok (.iload_n 3, 1) := by decide +kernel
theorem dX5_isSo_57 : decode cX5_isSo 57 = .ok (.if_icmp .ne 7, 3) := by decide +kernel
theorem dX5_isSo_60 : decode cX5_isSo 60 = .ok (.iconst 1, 1) := by decide +kernel
theorem dX5_isSo_61 : decode cX5_isSo 61 = .ok (.goto 4, 3) := by decide +kernel
theorem dX5_isSo_64 : decode cX5_isSo 64 = .ok (.iconst 0, 1) := by decide +kernel
theorem dX5_isSo_65 : decode cX5_isSo 65 = .ok (.ireturn, 1) := by decide +kernel
theorem dX5_isSo_66 : decode cX5_isSo 66 = .ok (.iload_n 2, 1) := by decide +kernel
theorem dX5_isSo_67 : decode cX5_isSo 67 = .ok (.iload_n 3, 1) := by decide +kernel
theorem dX5_isSo_68 : decode cX5_isSo 68 = .ok (.if_icmp .le 7, 3) := by decide +kernel
theorem dX5_isSo_71 : decode cX5_isSo 71 = .ok (.iconst 1, 1) := by decide +kernel
theorem dX5_isSo_72 : decode cX5_isSo 72 = .ok (.goto 4, 3) := by decide +kernel
theorem dX5_isSo_75 : decode cX5_isSo 75 = .ok (.iconst 0, 1) := by decide +kernel
theorem dX5_isSo_76 : decode cX5_isSo 76 = .ok (.ireturn, 1) := by decide +kernel
set_option maxRecDepth 20000 in
theorem ggX6_init_X3_init : GoodIn wsX6_init wsX3_init := goodIn_r _ [4, 5, 6, 7, 8, 9, 10, 11, 12, 13, 14, 15, 16, 17, 18, 19, 20, 21, 22, 23, 24, 25, 26, 27, 28, 29, 30, 31, 32, 33, 34, 35, 36, 37, 38, 39] (by decide +kernel) (by decide +kernel)
set_option maxRecDepth 20000 in
theorem gX6_init_X3_init : GoodIn wsX6_init (wsX3_init) := ggX6_init_X3_init
theorem dX6_init_0 : decode cX6_init 0 = .ok (.aload_n 0, 1) := by decide +kernel
theorem dX6_init_1 : decode cX6_init 1 = .ok (.iload_n 1, 1) := by decide +kernel
theorem dX6_init_2 : decode cX6_init 2 = .ok (.iload_n 2, 1) := by decide +kernel
theorem dX6_init_3 : decode cX6_init 3 = .ok (.iload_n 3, 1) := by decide +kernel
theorem dX6_init_4 : decode cX6_init 4 = .ok (.iload 4, 2) := by decide +kernel
theorem dX6_init_6 : decode cX6_init 6 = .ok (.invokespecial 1, 3) := by decide +kernel
theorem dX6_init_9 : decode cX6_init 9 = .ok (.return_, 1) := by decide +kernel
set_option maxRecDepth 20000 in
theorem ggX6_reachBy_X3_reachBy : GoodIn wsX6_reachBy wsX3_reachBy := goodIn_r _ [6, 7, 8, 9, 10] (by decide +kernel) (by decide +kernel)
set_option maxRecDepth 20000 in
theorem gX6_reachBy_X3_reachBy_s7 : GoodIn wsX6_reachBy (va_wsSU RX6 7 yX3_reachBy wsX3_reachBy) := goodIn_app (goodIn_of _ (by decide +kernel)) ggX6_reachBy_X3_reachBy
theorem dX6_reachBy_0 : decode cX6_reachBy 0 = .ok (.aload_n 0, 1) := by decide +kernel
theorem dX6_reachBy_1 : decode cX6_reachBy 1 = .ok (.iload_n 1, 1) := by decide +kernel
theorem dX6_reachBy_2 : decode cX6_reachBy 2 = .ok (.iconst 1, 1) := by decide +kernel
theorem dX6_reachBy_3 : decode cX6_reachBy 3 = .ok (.isub, 1) := by decide +kernel
theorem dX6_reachBy_4 : decode cX6_reachBy 4 = .ok (.iload_n 2, 1) := by decide +kernel
theorem dX6_reachBy_5 : decode cX6_reachBy 5 = .ok (.invokespecial 7, 3) := by decide +kernel
theorem dX6_reachBy_8 : decode cX6_reachBy 8 = .ok (.ireturn, 1) := by decide +kernel
set_option maxRecDepth 20000 in
theorem ggX6_doGoes_X3_doGoes : GoodIn wsX6_doGoes wsX3_doGoes := goodIn_r _ [6, 7, 8, 9, 5, 10, 11, 12, 13, 14, 15, 16, 17, 18, 19, 20, 21, 22, 23, 24, 25, 26, 27, 28, 29, 30, 31, 32, 33, 34, 35, 36, 37, 38, 39, 40, 41, 42, 43, 44, 45, 46, 47, 48, 49, 50, 51, 52, 53, 54, 55, 56, 57, 58, 59, 60, 61, 62, 63, 64, 65, 66, 67, 68, 69, 70, 71, 72, 73, 74, 75, 76, 77, 78, 79, 80, 81, 82, 83, 84, 85, 86, 87, 88, 89, 90, 91, 92, 93, 94, 95, 96, 97, 98, 99, 100, 101, 102, 103, 104, 105, 106, 107, 108, 109, 110, 111, 112, 113, 114, 115, 116, 117, 118, 119, 120, 121, 122, 123, 124, 125, 126, 127, 128, 129, 130, 131, 132, 133, 134, 135, 136, 137, 138, 139, 140, 141, 142, 143, 144, 145] (by decide +kernel) (by decide +kernel)
set_option maxRecDepth 20000 in
theorem gX6_doGoes_X3_doGoes_s17 : GoodIn wsX6_doGoes (va_wsSU RX6 17 yX3_doGoes wsX3_doGoes) := goodIn_app (goodIn_of _ (by decide +kernel)) ggX6_doGoes_X3_doGoes
theorem dX6_doGoes_0 : decode cX6_doGoes 0 = .ok (.bipush 21, 2) := by decide +kernel
theorem dX6_doGoes_2 : decode cX6_doGoes 2 = .ok (.aload_n 2, 1) := by decide +kernel
theorem dX6_doGoes_3 : decode cX6_doGoes 3 = .ok (.invokestatic 11, 3) := by decide +kernel
theorem dX6_doGoes_6 : decode cX6_doGoes 6 = .ok (.aload_n 0, 1) := by decide +kernel
theorem dX6_doGoes_7 : decode cX6_doGoes 7 = .ok (.iload_n 1, 1) := by decide +kernel
theorem dX6_doGoes_8 : decode cX6_doGoes 8 = .ok (.aload_n 2, 1) := by decide +kernel
theorem dX6_doGoes_9 : decode cX6_doGoes 9 = .ok (.invokespecial 17, 3) := by decide +kernel
theorem dX6_doGoes_12 : decode cX6_doGoes 12 = .ok (.ineg, 1) := by decide +kernel
theorem dX6_doGoes_13 : decode cX6_doGoes 13 = .ok (.ireturn, 1) := by decide +kernel
set_option maxRecDepth 20000 in
theorem ggX7_init_X1_init : GoodIn wsX7_init wsX1_init := goodIn_r _ [4, 5, 6, 7, 8, 9, 10, 11, 12, 13, 14, 15, 16, 17, 18, 19, 20, 21, 22, 23, 24, 25, 26, 27, 28, 29, 30, 31, 32, 33, 34, 35, 36, 37, 38, 39, 40, 41, 42, 43] (by decide +kernel) (by decide +kernel)
set_option maxRecDepth 20000 in
theorem gX7_init_X1_init : GoodIn wsX7_init (wsX1_init) := ggX7_init_X1_init
theorem dX7_init_0 : decode cX7_init 0 = .ok (.aload_n 0, 1) := by decide +kernel
theorem dX7_init_1 : decode cX7_init 1 = .ok (.iload_n 1, 1) := by decide +kernel
theorem dX7_init_2 : decode cX7_init 2 = .ok (.iload_n 2, 1) := by decide +kernel
theorem dX7_init_3 : decode cX7_init 3 = .ok (.iload_n 3, 1) := by decide +kernel
theorem dX7_init_4 : decode cX7_init 4 = .ok (.iload 4, 2) := by decide +kernel
theorem dX7_init_6 : decode cX7_init 6 = .ok (.invokespecial 1, 3) := by decide +kernel
theorem dX7_init_9 : decode cX7_init 9 = .ok (.return_, 1) := by decide +kernel
theorem dX7_reachBy_0 : decode cX7_reachBy 0 = .ok (.iconst 1, 1) := by decide +kernel
theorem dX7_reachBy_1 : decode cX7_reachBy 1 = .ok (.aload_n 0, 1) := by decide +kernel
theorem dX7_reachBy_2 : decode cX7_reachBy 2 = .ok (.iload_n 1, 1) := by decide +kernel
theorem dX7_reachBy_3 : decode cX7_reachBy 3 = .ok (.iload_n 2, 1) := by decide +kernel
theorem dX7_reachBy_4 : decode cX7_reachBy 4 = .ok (.invokespecial 7, 3) := by decide +kernel
theorem dX7_reachBy_7 : decode cX7_reachBy 7 = .ok (.invokestatic 11, 3) := by decide +kernel
theorem dX7_reachBy_10 : decode cX7_reachBy 10 = .ok (.ireturn, 1) := by decide +kernel
theorem dX7_doGoes_0 : decode cX7_doGoes 0 = .ok (.bipush 61, 2) := by decide +kernel
theorem dX7_doGoes_2 : decode cX7_doGoes 2 = .ok (.aload_n 2, 1) := by decide +kernel
theorem dX7_doGoes_3 : decode cX7_doGoes 3 = .ok (.invokestatic 16, 3) := by decide +kernel
theorem dX7_doGoes_6 : decode cX7_doGoes 6 = .ok (.aload_n 0, 1) := by decide +kernel
theorem dX7_doGoes_7 : decode cX7_doGoes 7 = .ok (.iload_n 1, 1) := by decide +kernel
theorem dX7_doGoes_8 : decode cX7_doGoes 8 = .ok (.aload_n 2, 1) := by decide +kernel
theorem dX7_doGoes_9 : decode cX7_doGoes 9 = .ok (.invokespecial 22, 3) := by decide +kernel
theorem dX7_doGoes_12 : decode cX7_doGoes 12 = .ok (.aload_n 0, 1) := by decide +kernel
theorem dX7_doGoes_13 : decode cX7_doGoes 13 = .ok (.getfield 26, 3) := by decide +kernel
theorem dX7_doGoes_16 : decode cX7_doGoes 16 = .ok (.iadd, 1) := by decide +kernel
theorem dX7_doGoes_17 : decode cX7_doGoes 17 = .ok (.ireturn, 1) := by decide +kernel
set_option maxRecDepth 20000 in
theorem ggX8_init_X5_init : GoodIn wsX8_init wsX5_init := goodIn_r _ [17, 18, 2, 3, 19, 4, 20, 21, 22, 23, 38, 39, 40, 41, 42, 43, 44, 45, 46, 47, 48] (by decide +kernel) (by decide +kernel)
set_option maxRecDepth 20000 in
theorem gX8_init_X5_init : GoodIn wsX8_init (wsX5_init) := ggX8_init_X5_init
theorem dX8_init_0 : decode cX8_init 0 = .ok (.aload_n 0, 1) := by decide +kernel
theorem dX8_init_1 : decode cX8_init 1 = .ok (.invokespecial 3, 3) := by decide +kernel
theorem dX8_init_4 : decode cX8_init 4 = .ok (.aload_n 0, 1) := by decide +kernel
theorem dX8_init_5 : decode cX8_init 5 = .ok (.bipush 100, 2) := by decide +kernel
theorem dX8_init_7 : decode cX8_init 7 = .ok (.newarray .int, 2) := by decide +kernel
theorem dX8_init_9 : decode cX8_init 9 = .ok (.putfield 9, 3) := by decide +kernel
theorem dX8_init_12 : decode cX8_init 12 = .ok (.aload_n 0, 1) := by decide +kernel
theorem dX8_init_13 : decode cX8_init 13 = .ok (.new 15, 3) := by decide +kernel
theorem dX8_init_16 : decode cX8_init 16 = .ok (.dup, 1) := by decide +kernel
theorem dX8_init_17 : decode cX8_init 17 = .ok (.invokespecial 17, 3) := by decide +kernel
theorem dX8_init_20 : decode cX8_init 20 = .ok (.putfield 18, 3) := by decide +kernel
theorem dX8_init_23 : decode cX8_init 23 = .ok (.aload_n 0, 1) := by decide +kernel
theorem dX8_init_24 : decode cX8_init 24 = .ok (.bipush 8, 2) := by decide +kernel
theorem dX8_init_26 : decode cX8_init 26 = .ok (.anewarray 22, 3) := by decide +kernel
theorem dX8_init_29 : decode cX8_init 29 = .ok (.putfield 24, 3) := by decide +kernel
theorem dX8_init_32 : decode cX8_init 32 = .ok (.aload_n 0, 1) := by decide +kernel
theorem dX8_init_33 : decode cX8_init 33 = .ok (.bipush 6, 2) := by decide +kernel
theorem dX8_init_35 : decode cX8_init 35 = .ok (.newarray .int, 2) := by decide +kernel
theorem dX8_init_37 : decode cX8_init 37 = .ok (.putfield 28, 3) := by decide +kernel
theorem dX8_init_40 : decode cX8_init 40 = .ok (.aload_n 0, 1) := by decide +kernel
theorem dX8_init_41 : decode cX8_init 41 = .ok (.bipush 12, 2) := by decide +kernel
theorem dX8_init_43 : decode cX8_init 43 = .ok (.newarray .int, 2) := by decide +kernel
theorem dX8_init_45 : decode cX8_init 45 = .ok (.putfield 31, 3) := by decide +kernel
theorem dX8_init_48 : decode cX8_init 48 = .ok (.aload_n 0, 1) := by decide +kernel
theorem dX8_init_49 : decode cX8_init 49 = .ok (.bipush 6, 2) := by decide +kernel
theorem dX8_init_51 : decode cX8_init 51 = .ok (.newarray .int, 2) := by decide +kernel
theorem dX8_init_53 : decode cX8_init 53 = .ok (.putfield 34, 3) := by decide +kernel
theorem dX8_init_56 : decode cX8_init 56 = .ok (.return_, 1) := by decide +kernel
theorem dX8_copyFrom_0 : decode cX8_copyFrom 0 = .ok (.aload_n 1, 1) := by decide +kernel
theorem dX8_copyFrom_1 : decode cX8_copyFrom 1 = .ok (.getfield 9, 3) := by decide +kernel
theorem dX8_copyFrom_4 : decode cX8_copyFrom 4 = .ok (.iconst 0, 1) := by decide +kernel
theorem dX8_copyFrom_5 : decode cX8_copyFrom 5 = .ok (.aload_n 0, 1) := by decide +kernel
theorem dX8_copyFrom_6 : decode cX8_copyFrom 6 = .ok (.getfield 9, 3) := by decide +kernel
theorem dX8_copyFrom_9 : decode cX8_copyFrom 9 = .ok (.iconst 0, 1) := by decide +kernel
theorem dX8_copyFrom_10 : decode cX8_copyFrom 10 = .ok (.bipush 100, 2) := by decide +kernel
theorem dX8_copyFrom_12 : decode cX8_copyFrom 12 = .ok (.invokestatic 37, 3) := by decide +kernel
theorem dX8_copyFrom_15 : decode cX8_copyFrom 15 = .ok (.aload_n 0, 1) := by decide +kernel
theorem dX8_copyFrom_16 : decode cX8_copyFrom 16 = .ok (.aload_n 1, 1) := by decide +kernel
theorem dX8_copyFrom_17 : decode cX8_copyFrom 17 = .ok (.getfield 43, 3) := by decide +kernel
theorem dX8_copyFrom_20 : decode cX8_copyFrom 20 = .ok (.putfield 43, 3) := by decide +kernel
theorem dX8_copyFrom_23 : decode cX8_copyFrom 23 = .ok (.aload_n 0, 1) := by decide +kernel
theorem dX8_copyFrom_24 : decode cX8_copyFrom 24 = .ok (.aload_n 1, 1) := by decide +kernel
theorem dX8_copyFrom_25 : decode cX8_copyFrom 25 = .ok (.getfield 18, 3) := by decide +kernel
theorem dX8_copyFrom_28 : decode cX8_copyFrom 28 = .ok (.putfield 18, 3) := by decide +kernel
theorem dX8_copyFrom_31 : decode cX8_copyFrom 31 = .ok (.aload_n 0, 1) := by decide +kernel
theorem dX8_copyFrom_32 : decode cX8_copyFrom 32 = .ok (.aload_n 1, 1) := by decide +kernel
theorem dX8_copyFrom_33 : decode cX8_copyFrom 33 = .ok (.getfield 47, 3) := by decide +kernel
theorem dX8_copyFrom_36 : decode cX8_copyFrom 36 = .ok (.putfield 47, 3) := by decide +kernel
theorem dX8_copyFrom_39 : decode cX8_copyFrom 39 = .ok (.aload_n 0, 1) := by decide +kernel
theorem dX8_copyFrom_40 : decode cX8_copyFrom 40 = .ok (.aload_n 1, 1) := by decide +kernel
theorem dX8_copyFrom_41 : decode cX8_copyFrom 41 = .ok (.getfield 50, 3) := by decide +kernel
theorem dX8_copyFrom_44 : decode cX8_copyFrom 44 = .ok (.putfield 50, 3) := by decide +kernel
theorem dX8_copyFrom_47 : decode cX8_copyFrom 47 = .ok (.aload_n 0, 1) := by decide +kernel
theorem dX8_copyFrom_48 : decode cX8_copyFrom 48 = .ok (.aload_n 1, 1) := by decide +kernel
theorem dX8_copyFrom_49 : decode cX8_copyFrom 49 = .ok (.getfield 54, 3) := by decide +kernel
theorem dX8_copyFrom_52 : decode cX8_copyFrom 52 = .ok (.putfield 54, 3) := by decide +kernel
theorem dX8_copyFrom_55 : decode cX8_copyFrom 55 = .ok (.aload_n 0, 1) := by decide +kernel
theorem dX8_copyFrom_56 : decode cX8_copyFrom 56 = .ok (.aload_n 1, 1) := by decide +kernel
theorem dX8_copyFrom_57 : decode cX8_copyFrom 57 = .ok (.getfield 57, 3) := by decide +kernel
theorem dX8_copyFrom_60 : decode cX8_copyFrom 60 = .ok (.putfield 57, 3) := by decide +kernel
theorem dX8_copyFrom_63 : decode cX8_copyFrom 63 = .ok (.iconst 0, 1) := by decide +kernel
theorem dX8_copyFrom_64 : decode cX8_copyFrom 64 = .ok (.istore_n 2, 1) := by decide +kernel
theorem dX8_copyFrom_65 : decode cX8_copyFrom 65 = .ok (.iload_n 2, 1) := by decide +kernel
theorem dX8_copyFrom_66 : decode cX8_copyFrom 66 = .ok (.bipush 8, 2) := by decide +kernel
theorem dX8_copyFrom_68 : decode cX8_copyFrom 68 = .ok (.if_icmp .ge 21, 3) := by decide +kernel
theorem dX8_copyFrom_71 : decode cX8_copyFrom 71 = .ok (.aload_n 0, 1) := by decide +kernel
theorem dX8_copyFrom_72 : decode cX8_copyFrom 72 = .ok (.getfield 24, 3) := by decide +kernel
theorem dX8_copyFrom_75 : decode cX8_copyFrom 75 = .ok (.iload_n 2, 1) := by decide +kernel
theorem dX8_copyFrom_76 : decode cX8_copyFrom 76 = .ok (.aload_n 1, 1) := by decide +kernel
theorem dX8_copyFrom_77 : decode cX8_copyFrom 77 = .ok (.getfield 24, 3) := by decide +kernel
theorem dX8_copyFrom_80 : decode cX8_copyFrom 80 = .ok (.iload_n 2, 1) := by decide +kernel
theorem dX8_copyFrom_81 : decode cX8_copyFrom 81 = .ok (.aaload, 1) := by decide +kernel
theorem dX8_copyFrom_82 : decode cX8_copyFrom 82 = .ok (.aastore, 1) := by decide +kernel
theorem dX8_copyFrom_83 : decode cX8_copyFrom 83 = .ok (.iinc 2 1, 3) := by decide +kernel
theorem dX8_copyFrom_86 : decode cX8_copyFrom 86 = .ok (.goto (-21), 3) := by decide +kernel
theorem dX8_copyFrom_89 : decode cX8_copyFrom 89 = .ok (.aload_n 0, 1) := by decide +kernel
theorem dX8_copyFrom_90 : decode cX8_copyFrom 90 = .ok (.aload_n 1, 1) := by decide +kernel
theorem dX8_copyFrom_91 : decode cX8_copyFrom 91 = .ok (.getfield 60, 3) := by decide +kernel
theorem dX8_copyFrom_94 : decode cX8_copyFrom 94 = .ok (.putfield 60, 3) := by decide +kernel
theorem dX8_copyFrom_97 : decode cX8_copyFrom 97 = .ok (.aload_n 1, 1) := by decide +kernel
theorem dX8_copyFrom_98 : decode cX8_copyFrom 98 = .ok (.getfield 28, 3) := by decide +kernel
theorem dX8_copyFrom_101 : decode cX8_copyFrom 101 = .ok (.iconst 0, 1) := by decide +kernel
theorem dX8_copyFrom_102 : decode cX8_copyFrom 102 = .ok (.aload_n 0, 1) := by decide +kernel
theorem dX8_copyFrom_103 : decode cX8_copyFrom 103 = .ok (.getfield 28, 3) := by decide +kernel
theorem dX8_copyFrom_106 : decode cX8_copyFrom 106 = .ok (.iconst 0, 1) := by decide +kernel
theorem dX8_copyFrom_107 : decode cX8_copyFrom 107 = .ok (.bipush 6, 2) := by decide +kernel
theorem dX8_copyFrom_109 : decode cX8_copyFrom 109 = .ok (.invokestatic 37, 3) := by decide +kernel
theorem dX8_copyFrom_112 : decode cX8_copyFrom 112 = .ok (.aload_n 0, 1) := by decide +kernel
theorem dX8_copyFrom_113 : decode cX8_copyFrom 113 = .ok (.aload_n 1, 1) := by decide +kernel
theorem dX8_copyFrom_114 : decode cX8_copyFrom 114 = .ok (.getfield 63, 3) := by decide +kernel
theorem dX8_copyFrom_117 : decode cX8_copyFrom 117 = .ok (.putfield 63, 3) := by decide +kernel
theorem dX8_copyFrom_120 : decode cX8_copyFrom 120 = .ok (.aload_n 1, 1) := by decide +kernel
theorem dX8_copyFrom_121 : decode cX8_copyFrom 121 = .ok (.getfield 31, 3) := by decide +kernel
theorem dX8_copyFrom_124 : decode cX8_copyFrom 124 = .ok (.iconst 0, 1) := by decide +kernel
theorem dX8_copyFrom_125 : decode cX8_copyFrom 125 = .ok (.aload_n 0, 1) := by decide +kernel
theorem dX8_copyFrom_126 : decode cX8_copyFrom 126 = .ok (.getfield 31, 3) := by decide +kernel
theorem dX8_copyFrom_129 : decode cX8_copyFrom 129 = .ok (.iconst 0, 1) := by decide +kernel
theorem dX8_copyFrom_130 : decode cX8_copyFrom 130 = .ok (.bipush 12, 2) := by decide +kernel
theorem dX8_copyFrom_132 : decode cX8_copyFrom 132 = .ok (.invokestatic 37, 3) := by decide +kernel
theorem dX8_copyFrom_135 : decode cX8_copyFrom 135 = .ok (.aload_n 0, 1) := by decide +kernel
theorem dX8_copyFrom_136 : decode cX8_copyFrom 136 = .ok (.aload_n 1, 1) := by decide +kernel
theorem dX8_copyFrom_137 : decode cX8_copyFrom 137 = .ok (.getfield 66, 3) := by decide +kernel
theorem dX8_copyFrom_140 : decode cX8_copyFrom 140 = .ok (.putfield 66, 3) := by decide +kernel
theorem dX8_copyFrom_143 : decode cX8_copyFrom 143 = .ok (.return_, 1) := by decide +kernel
theorem dX8_heapAt_0 : decode cX8_heapAt 0 = .ok (.iload_n 1, 1) := by decide +kernel
theorem dX8_heapAt_1 : decode cX8_heapAt 1 = .ok (.ifCond .lt 20, 3) := by decide +kernel
theorem dX8_heapAt_4 : decode cX8_heapAt 4 = .ok (.iload_n 1, 1) := by decide +kernel
theorem dX8_heapAt_5 : decode cX8_heapAt 5 = .ok (.aload_n 0, 1) := by decide +kernel
theorem dX8_heapAt_6 : decode cX8_heapAt 6 = .ok (.getfield 60, 3) := by decide +kernel
theorem dX8_heapAt_9 : decode cX8_heapAt 9 = .ok (.if_icmp .ge 12, 3) := by decide +kernel
theorem dX8_heapAt_12 : decode cX8_heapAt 12 = .ok (.aload_n 0, 1) := by decide +kernel
theorem dX8_heapAt_13 : decode cX8_heapAt 13 = .ok (.getfield 24, 3) := by decide +kernel
theorem dX8_heapAt_16 : decode cX8_heapAt 16 = .ok (.iload_n 1, 1) := by decide +kernel
theorem dX8_heapAt_17 : decode cX8_heapAt 17 = .ok (.aaload, 1) := by decide +kernel
theorem dX8_heapAt_18 : decode cX8_heapAt 18 = .ok (.goto 4, 3) := by decide +kernel
theorem dX8_heapAt_21 : decode cX8_heapAt 21 = .ok (.aconst_null, 1) := by decide +kernel
theorem dX8_heapAt_22 : decode cX8_heapAt 22 = .ok (.areturn, 1) := by decide +kernel
set_option maxRecDepth 20000 in
theorem ggX8_areHeaps_X8_heapAt : GoodIn wsX8_areHeaps wsX8_heapAt := goodIn_r _ [5, 6, 7, 8, 9, 10, 11, 12, 13, 14, 15, 16, 17, 18, 19, 20, 21] (by decide +kernel) (by decide +kernel)
set_option maxRecDepth 20000 in
theorem gX8_areHeaps_X8_heapAt : GoodIn wsX8_areHeaps (wsV RX8 69 RX8 yX8_heapAt wsX8_heapAt) := goodIn_app (goodIn_of _ (by decide +kernel)) ggX8_areHeaps_X8_heapAt
theorem dX8_areHeaps_0 : decode cX8_areHeaps 0 = .ok (.aload_n 0, 1) := by decide +kernel
theorem dX8_areHeaps_1 : decode cX8_areHeaps 1 = .ok (.iload_n 1, 1) := by decide +kernel
theorem dX8_areHeaps_2 : decode cX8_areHeaps 2 = .ok (.invokevirtual 69, 3) := by decide +kernel
theorem dX8_areHeaps_5 : decode cX8_areHeaps 5 = .ok (.ifnull 15, 3) := by decide +kernel
theorem dX8_areHeaps_8 : decode cX8_areHeaps 8 = .ok (.aload_n 0, 1) := by decide +kernel
theorem dX8_areHeaps_9 : decode cX8_areHeaps 9 = .ok (.iload_n 2, 1) := by decide +kernel
theorem dX8_areHeaps_10 : decode cX8_areHeaps 10 = .ok (.invokevirtual 69, 3) := by decide +kernel
theorem dX8_areHeaps_13 : decode cX8_areHeaps 13 = .ok (.ifnull 7, 3) := by decide +kernel
theorem dX8_areHeaps_16 : decode cX8_areHeaps 16 = .ok (.iconst 1, 1) := by decide +kernel
theorem dX8_areHeaps_17 : decode cX8_areHeaps 17 = .ok (.goto 4, 3) := by decide +kernel
theorem dX8_areHeaps_20 : decode cX8_areHeaps 20 = .ok (.iconst 0, 1) := by decide +kernel
theorem dX8_areHeaps_21 : decode cX8_areHeaps 21 = .ok (.ireturn, 1) := by decide +kernel
theorem dX8_isTaken_0 : decode cX8_isTaken 0 = .ok (.iconst 0, 1) := by decide +kernel
theorem dX8_isTaken_1 : decode cX8_isTaken 1 = .ok (.istore_n 2, 1) := by decide +kernel
theorem dX8_isTaken_2 : decode cX8_isTaken 2 = .ok (.iload_n 2, 1) := by decide +kernel
theorem dX8_isTaken_3 : decode cX8_isTaken 3 = .ok (.aload_n 0, 1) := by decide +kernel
theorem dX8_isTaken_4 : decode cX8_isTaken 4 = .ok (.getfield 60, 3) := by decide +kernel
theorem dX8_isTaken_7 : decode cX8_isTaken 7 = .ok (.if_icmp .ge 24, 3) := by decide +kernel
theorem dX8_isTaken_10 : decode cX8_isTaken 10 = .ok (.aload_n 0, 1) := by decide +kernel
theorem dX8_isTaken_11 : decode cX8_isTaken 11 = .ok (.getfield 24, 3) := by decide +kernel
theorem dX8_isTaken_14 : decode cX8_isTaken 14 = .ok (.iload_n 2, 1) := by decide +kernel
theorem dX8_isTaken_15 : decode cX8_isTaken 15 = .ok (.aaload, 1) := by decide +kernel
theorem dX8_isTaken_16 : decode cX8_isTaken 16 = .ok (.getfield 73, 3) := by decide +kernel
theorem dX8_isTaken_19 : decode cX8_isTaken 19 = .ok (.iload_n 1, 1) := by decide +kernel
theorem dX8_isTaken_20 : decode cX8_isTaken 20 = .ok (.if_icmp .ne 5, 3) := by decide +kernel
theorem dX8_isTaken_23 : decode cX8_isTaken 23 = .ok (.iconst 1, 1) := by decide +kernel
theorem dX8_isTaken_24 : decode cX8_isTaken 24 = .ok (.ireturn, 1) := by decide +kernel
theorem dX8_isTaken_25 : decode cX8_isTaken 25 = .ok (.iinc 2 1, 3) := by decide +kernel
theorem dX8_isTaken_28 : decode cX8_isTaken 28 = .ok (.goto (-26), 3) := by decide +kernel
theorem dX8_isTaken_31 : decode cX8_isTaken 31 = .ok (.iconst 0, 1) := by decide +kernel
theorem dX8_isTaken_32 : decode cX8_isTaken 32 = .ok (.ireturn, 1) := by decide +kernel
set_option maxRecDepth 20000 in
theorem ggX8_reachOf_X8_tellFacts : GoodIn wsX8_reachOf wsX8_tellFacts := goodIn_r _ [12, 6, 7, 13, 14, 15, 16, 17, 107, 108, 109, 110, 111, 112, 113, 114, 115, 116, 117, 118, 119, 120] (by decide +kernel) (by decide +kernel)
set_option maxRecDepth 20000 in
theorem gX8_reachOf_X8_tellFacts : GoodIn wsX8_reachOf (wsV RX8 82 RX8 yX8_tellFacts wsX8_tellFacts) := goodIn_app (goodIn_of _ (by decide +kernel)) ggX8_reachOf_X8_tellFacts
set_option maxRecDepth 20000 in
theorem ggX8_reachOf_X5_total : GoodIn wsX8_reachOf wsX5_total := goodIn_r _ [22, 23, 24, 25, 26, 27, 28, 21, 29, 30, 31, 32, 33, 34, 121, 122, 123, 124, 125, 126, 127, 128, 129, 130, 131] (by decide +kernel) (by decide +kernel)
set_option maxRecDepth 20000 in
theorem gX8_reachOf_X5_total : GoodIn wsX8_reachOf (wsV RX8 89 RX5 yX5_total wsX5_total) := goodIn_app (goodIn_of _ (by decide +kernel)) ggX8_reachOf_X5_total
set_option maxRecDepth 20000 in
theorem ggX8_reachOf_X3_reachBy : GoodIn wsX8_reachOf wsX3_reachBy := goodIn_r _ [40, 41, 42, 43, 44] (by decide +kernel) (by decide +kernel)
set_option maxRecDepth 20000 in
theorem gX8_reachOf_X3_reachBy_u93X1 : GoodIn wsX8_reachOf (va_wsU RX8 93 RX1 "MistHeaps$Heap" ⟨"MistHeaps$Heap", "reachBy", "(II)I"⟩ yX3_reachBy wsX3_reachBy) := goodIn_app (goodIn_of _ (by decide +kernel)) ggX8_reachOf_X3_reachBy
set_option maxRecDepth 20000 in
theorem gX8_reachOf_X3_reachBy : GoodIn wsX8_reachOf (wsV RX8 93 RX3 yX3_reachBy wsX3_reachBy) := goodIn_app (goodIn_of _ (by decide +kernel)) ggX8_reachOf_X3_reachBy
set_option maxRecDepth 20000 in
theorem ggX8_reachOf_X4_reachBy : GoodIn wsX8_reachOf wsX4_reachBy := goodIn_r _ [51, 52, 53, 54, 36, 55, 38, 39, 40, 41, 42, 43, 44, 79, 80, 81, 82, 83, 84, 85, 86, 87, 88, 89, 90, 91, 92, 93, 94, 95, 96, 97, 98, 99, 100, 101, 102, 103, 104, 105, 106] (by decide +kernel) (by decide +kernel)
set_option maxRecDepth 20000 in
theorem gX8_reachOf_X4_reachBy_u93X4 : GoodIn wsX8_reachOf (va_wsO RX8 93 RX4 "MistHeaps$Heap" ⟨"MistHeaps$Heap", "reachBy", "(II)I"⟩ yX4_reachBy wsX4_reachBy) := goodIn_app (goodIn_of _ (by decide +kernel)) ggX8_reachOf_X4_reachBy
set_option maxRecDepth 20000 in
theorem ggX8_reachOf_X6_reachBy : GoodIn wsX8_reachOf wsX6_reachBy := goodIn_r _ [59, 60, 36, 61, 38, 39, 40, 41, 42, 43, 44] (by decide +kernel) (by decide +kernel)
set_option maxRecDepth 20000 in
theorem gX8_reachOf_X6_reachBy_u93X6 : GoodIn wsX8_reachOf (va_wsO RX8 93 RX6 "MistHeaps$Heap" ⟨"MistHeaps$Heap", "reachBy", "(II)I"⟩ yX6_reachBy wsX6_reachBy) := goodIn_app (goodIn_of _ (by decide +kernel)) ggX8_reachOf_X6_reachBy
set_option maxRecDepth 20000 in
theorem ggX8_reachOf_X7_reachBy : GoodIn wsX8_reachOf wsX7_reachBy := goodIn_r _ [65, 66, 67, 43, 68] (by decide +kernel) (by decide +kernel)
set_option maxRecDepth 20000 in
theorem gX8_reachOf_X7_reachBy_u93X7 : GoodIn wsX8_reachOf (va_wsO RX8 93 RX7 "MistHeaps$Heap" ⟨"MistHeaps$Heap", "reachBy", "(II)I"⟩ yX7_reachBy wsX7_reachBy) := goodIn_app (goodIn_of _ (by decide +kernel)) ggX8_reachOf_X7_reachBy
set_option maxRecDepth 20000 in
theorem ggX8_reachOf_X9_reachBy : GoodIn wsX8_reachOf wsX9_reachBy := goodIn_r _ [72, 73, 74, 75, 76, 77, 57, 58, 59, 60, 36, 61, 38, 39, 40, 41, 42, 43, 44, 79, 80, 81, 82, 83, 84, 85, 86, 87, 88, 89, 90, 91, 92, 93, 94, 95, 96, 97, 98, 99, 100, 101, 102, 103, 104, 105, 106] (by decide +kernel) (by decide +kernel)
set_option maxRecDepth 20000 in
theorem gX8_reachOf_X9_reachBy_u93X9 : GoodIn wsX8_reachOf (va_wsO RX8 93 RX9 "MistHeaps$Heap" ⟨"MistHeaps$Heap", "reachBy", "(II)I"⟩ yX9_reachBy wsX9_reachBy) := goodIn_app (goodIn_of _ (by decide +kernel)) ggX8_reachOf_X9_reachBy
set_option maxRecDepth 20000 in
theorem gX8_reachOf_X4_reachBy_u93X10 : GoodIn wsX8_reachOf (va_wsO RX8 93 RX10 "MistHeaps$Heap" ⟨"MistHeaps$Heap", "reachBy", "(II)I"⟩ yX4_reachBy wsX4_reachBy) := goodIn_app (goodIn_of _ (by decide +kernel)) ggX8_reachOf_X4_reachBy
theorem dX8_reachOf_0 : decode cX8_reachOf 0 = .ok (.aload_n 0, 1) := by decide +kernel
theorem dX8_reachOf_1 : decode cX8_reachOf 1 = .ok (.aload_n 1, 1) := by decide +kernel
theorem dX8_reachOf_2 : decode cX8_reachOf 2 = .ok (.getfield 76, 3) := by decide +kernel
theorem dX8_reachOf_5 : decode cX8_reachOf 5 = .ok (.aload_n 1, 1) := by decide +kernel
theorem dX8_reachOf_6 : decode cX8_reachOf 6 = .ok (.getfield 79, 3) := by decide +kernel
theorem dX8_reachOf_9 : decode cX8_reachOf 9 = .ok (.aload_n 1, 1) := by decide +kernel
theorem dX8_reachOf_10 : decode cX8_reachOf 10 = .ok (.getfield 73, 3) := by decide +kernel
theorem dX8_reachOf_13 : decode cX8_reachOf 13 = .ok (.iload_n 2, 1) := by decide +kernel
theorem dX8_reachOf_14 : decode cX8_reachOf 14 = .ok (.invokevirtual 82, 3) := by decide +kernel
theorem dX8_reachOf_17 : decode cX8_reachOf 17 = .ok (.aload_n 0, 1) := by decide +kernel
theorem dX8_reachOf_18 : decode cX8_reachOf 18 = .ok (.getfield 18, 3) := by decide +kernel
theorem dX8_reachOf_21 : decode cX8_reachOf 21 = .ok (.getfield 86, 3) := by decide +kernel
theorem dX8_reachOf_24 : decode cX8_reachOf 24 = .ok (.aload_n 0, 1) := by decide +kernel
theorem dX8_reachOf_25 : decode cX8_reachOf 25 = .ok (.getfield 18, 3) := by decide +kernel
theorem dX8_reachOf_28 : decode cX8_reachOf 28 = .ok (.iconst 0, 1) := by decide +kernel
theorem dX8_reachOf_29 : decode cX8_reachOf 29 = .ok (.aload_n 0, 1) := by decide +kernel
theorem dX8_reachOf_30 : decode cX8_reachOf 30 = .ok (.getfield 34, 3) := by decide +kernel
theorem dX8_reachOf_33 : decode cX8_reachOf 33 = .ok (.invokevirtual 89, 3) := by decide +kernel
theorem dX8_reachOf_36 : decode cX8_reachOf 36 = .ok (.iadd, 1) := by decide +kernel
theorem dX8_reachOf_37 : decode cX8_reachOf 37 = .ok (.aload_n 0, 1) := by decide +kernel
theorem dX8_reachOf_38 : decode cX8_reachOf 38 = .ok (.getfield 18, 3) := by decide +kernel
theorem dX8_reachOf_41 : decode cX8_reachOf 41 = .ok (.iconst 1, 1) := by decide +kernel
theorem dX8_reachOf_42 : decode cX8_reachOf 42 = .ok (.aload_n 0, 1) := by decide +kernel
theorem dX8_reachOf_43 : decode cX8_reachOf 43 = .ok (.getfield 34, 3) := by decide +kernel
theorem dX8_reachOf_46 : decode cX8_reachOf 46 = .ok (.invokevirtual 89, 3) := by decide +kernel
theorem dX8_reachOf_49 : decode cX8_reachOf 49 = .ok (.isub, 1) := by decide +kernel
theorem dX8_reachOf_50 : decode cX8_reachOf 50 = .ok (.aload_n 0, 1) := by decide +kernel
theorem dX8_reachOf_51 : decode cX8_reachOf 51 = .ok (.getfield 54, 3) := by decide +kernel
theorem dX8_reachOf_54 : decode cX8_reachOf 54 = .ok (.isub, 1) := by decide +kernel
theorem dX8_reachOf_55 : decode cX8_reachOf 55 = .ok (.istore_n 3, 1) := by decide +kernel
theorem dX8_reachOf_56 : decode cX8_reachOf 56 = .ok (.aload_n 1, 1) := by decide +kernel
theorem dX8_reachOf_57 : decode cX8_reachOf 57 = .ok (.iload_n 3, 1) := by decide +kernel
theorem dX8_reachOf_58 : decode cX8_reachOf 58 = .ok (.iload_n 2, 1) := by decide +kernel
theorem dX8_reachOf_59 : decode cX8_reachOf 59 = .ok (.invokevirtual 93, 3) := by decide +kernel
theorem dX8_reachOf_62 : decode cX8_reachOf 62 = .ok (.ireturn, 1) := by decide +kernel
set_option maxRecDepth 20000 in
theorem ggX8_driftOn_X8_tellFacts : GoodIn wsX8_driftOn wsX8_tellFacts := goodIn_r _ [12, 3, 13, 14, 15, 16, 17, 18, 36, 37, 38, 39, 40, 41, 42, 43, 44, 45, 46, 47, 48, 49] (by decide +kernel) (by decide +kernel)
set_option maxRecDepth 20000 in
theorem gX8_driftOn_X8_tellFacts : GoodIn wsX8_driftOn (wsV RX8 82 RX8 yX8_tellFacts wsX8_tellFacts) := goodIn_app (goodIn_of _ (by decide +kernel)) ggX8_driftOn_X8_tellFacts
set_option maxRecDepth 20000 in
theorem ggX8_driftOn_X5_total : GoodIn wsX8_driftOn wsX5_total := goodIn_r _ [23, 24, 25, 26, 27, 28, 29, 22, 30, 31, 32, 33, 34, 35, 50, 51, 52, 53, 54, 55, 56, 57, 58, 59, 60] (by decide +kernel) (by decide +kernel)
set_option maxRecDepth 20000 in
theorem gX8_driftOn_X5_total : GoodIn wsX8_driftOn (wsV RX8 89 RX5 yX5_total wsX5_total) := goodIn_app (goodIn_of _ (by decide +kernel)) ggX8_driftOn_X5_total
theorem dX8_driftOn_0 : decode cX8_driftOn 0 = .ok (.aload_n 0, 1) := by decide +kernel
theorem dX8_driftOn_1 : decode cX8_driftOn 1 = .ok (.bipush 99, 2) := by decide +kernel
theorem dX8_driftOn_3 : decode cX8_driftOn 3 = .ok (.bipush 99, 2) := by decide +kernel
theorem dX8_driftOn_5 : decode cX8_driftOn 5 = .ok (.iload_n 1, 1) := by decide +kernel
theorem dX8_driftOn_6 : decode cX8_driftOn 6 = .ok (.aload_n 0, 1) := by decide +kernel
theorem dX8_driftOn_7 : decode cX8_driftOn 7 = .ok (.getfield 57, 3) := by decide +kernel
theorem dX8_driftOn_10 : decode cX8_driftOn 10 = .ok (.invokevirtual 82, 3) := by decide +kernel
theorem dX8_driftOn_13 : decode cX8_driftOn 13 = .ok (.iconst 5, 1) := by decide +kernel
theorem dX8_driftOn_14 : decode cX8_driftOn 14 = .ok (.aload_n 0, 1) := by decide +kernel
theorem dX8_driftOn_15 : decode cX8_driftOn 15 = .ok (.getfield 18, 3) := by decide +kernel
theorem dX8_driftOn_18 : decode cX8_driftOn 18 = .ok (.iconst 3, 1) := by decide +kernel
theorem dX8_driftOn_19 : decode cX8_driftOn 19 = .ok (.aload_n 0, 1) := by decide +kernel
theorem dX8_driftOn_20 : decode cX8_driftOn 20 = .ok (.getfield 34, 3) := by decide +kernel
theorem dX8_driftOn_23 : decode cX8_driftOn 23 = .ok (.invokevirtual 89, 3) := by decide +kernel
theorem dX8_driftOn_26 : decode cX8_driftOn 26 = .ok (.invokestatic 97, 3) := by decide +kernel
theorem dX8_driftOn_29 : decode cX8_driftOn 29 = .ok (.ireturn, 1) := by decide +kernel
set_option maxRecDepth 20000 in
theorem ggX8_tellFacts_X11_rowOf : GoodIn wsX8_tellFacts wsX11_rowOf := goodIn_r _ [5] (by decide +kernel) (by decide +kernel)
set_option maxRecDepth 20000 in
theorem gX8_tellFacts_X11_rowOf_n102 : GoodIn wsX8_tellFacts (wsX11_rowOf) := ggX8_tellFacts_X11_rowOf
set_option maxRecDepth 20000 in
theorem ggX8_tellFacts_X11_columnOf : GoodIn wsX8_tellFacts wsX11_columnOf := goodIn_r _ [7] (by decide +kernel) (by decide +kernel)
set_option maxRecDepth 20000 in
theorem gX8_tellFacts_X11_columnOf_n106 : GoodIn wsX8_tellFacts (wsX11_columnOf) := ggX8_tellFacts_X11_columnOf
theorem dX8_tellFacts_0 : decode cX8_tellFacts 0 = .ok (.aload_n 0, 1) := by decide +kernel
theorem dX8_tellFacts_1 : decode cX8_tellFacts 1 = .ok (.getfield 34, 3) := by decide +kernel
theorem dX8_tellFacts_4 : decode cX8_tellFacts 4 = .ok (.iconst 0, 1) := by decide +kernel
theorem dX8_tellFacts_5 : decode cX8_tellFacts 5 = .ok (.iload_n 1, 1) := by decide +kernel
theorem dX8_tellFacts_6 : decode cX8_tellFacts 6 = .ok (.iastore, 1) := by decide +kernel
theorem dX8_tellFacts_7 : decode cX8_tellFacts 7 = .ok (.aload_n 0, 1) := by decide +kernel
theorem dX8_tellFacts_8 : decode cX8_tellFacts 8 = .ok (.getfield 34, 3) := by decide +kernel
theorem dX8_tellFacts_11 : decode cX8_tellFacts 11 = .ok (.iconst 1, 1) := by decide +kernel
theorem dX8_tellFacts_12 : decode cX8_tellFacts 12 = .ok (.iload_n 2, 1) := by decide +kernel
theorem dX8_tellFacts_13 : decode cX8_tellFacts 13 = .ok (.iastore, 1) := by decide +kernel
theorem dX8_tellFacts_14 : decode cX8_tellFacts 14 = .ok (.aload_n 0, 1) := by decide +kernel
theorem dX8_tellFacts_15 : decode cX8_tellFacts 15 = .ok (.getfield 34, 3) := by decide +kernel
theorem dX8_tellFacts_18 : decode cX8_tellFacts 18 = .ok (.iconst 2, 1) := by decide +kernel
theorem dX8_tellFacts_19 : decode cX8_tellFacts 19 = .ok (.iload_n 3, 1) := by decide +kernel
theorem dX8_tellFacts_20 : decode cX8_tellFacts 20 = .ok (.invokestatic 102, 3) := by decide +kernel
theorem dX8_tellFacts_23 : decode cX8_tellFacts 23 = .ok (.iastore, 1) := by decide +kernel
theorem dX8_tellFacts_24 : decode cX8_tellFacts 24 = .ok (.aload_n 0, 1) := by decide +kernel
theorem dX8_tellFacts_25 : decode cX8_tellFacts 25 = .ok (.getfield 34, 3) := by decide +kernel
theorem dX8_tellFacts_28 : decode cX8_tellFacts 28 = .ok (.iconst 3, 1) := by decide +kernel
theorem dX8_tellFacts_29 : decode cX8_tellFacts 29 = .ok (.iload_n 3, 1) := by decide +kernel
theorem dX8_tellFacts_30 : decode cX8_tellFacts 30 = .ok (.invokestatic 106, 3) := by decide +kernel
theorem dX8_tellFacts_33 : decode cX8_tellFacts 33 = .ok (.iastore, 1) := by decide +kernel
theorem dX8_tellFacts_34 : decode cX8_tellFacts 34 = .ok (.aload_n 0, 1) := by decide +kernel
theorem dX8_tellFacts_35 : decode cX8_tellFacts 35 = .ok (.getfield 34, 3) := by decide +kernel
theorem dX8_tellFacts_38 : decode cX8_tellFacts 38 = .ok (.iconst 4, 1) := by decide +kernel
theorem dX8_tellFacts_39 : decode cX8_tellFacts 39 = .ok (.aload_n 0, 1) := by decide +kernel
theorem dX8_tellFacts_40 : decode cX8_tellFacts 40 = .ok (.getfield 54, 3) := by decide +kernel
theorem dX8_tellFacts_43 : decode cX8_tellFacts 43 = .ok (.iastore, 1) := by decide +kernel
theorem dX8_tellFacts_44 : decode cX8_tellFacts 44 = .ok (.aload_n 0, 1) := by decide +kernel
theorem dX8_tellFacts_45 : decode cX8_tellFacts 45 = .ok (.getfield 34, 3) := by decide +kernel
theorem dX8_tellFacts_48 : decode cX8_tellFacts 48 = .ok (.iconst 5, 1) := by decide +kernel
theorem dX8_tellFacts_49 : decode cX8_tellFacts 49 = .ok (.iload 4, 2) := by decide +kernel
theorem dX8_tellFacts_51 : decode cX8_tellFacts 51 = .ok (.iastore, 1) := by decide +kernel
theorem dX8_tellFacts_52 : decode cX8_tellFacts 52 = .ok (.return_, 1) := by decide +kernel
set_option maxRecDepth 20000 in
theorem ggX8_cellsSeeing_X8_heapAt : GoodIn wsX8_cellsSeeing wsX8_heapAt := goodIn_r _ [7, 8, 9, 98, 99, 100, 101, 102, 103, 104, 105, 106, 107, 108, 109, 110, 111] (by decide +kernel) (by decide +kernel)
set_option maxRecDepth 20000 in
theorem gX8_cellsSeeing_X8_heapAt : GoodIn wsX8_cellsSeeing (wsV RX8 69 RX8 yX8_heapAt wsX8_heapAt) := goodIn_app (goodIn_of _ (by decide +kernel)) ggX8_cellsSeeing_X8_heapAt
set_option maxRecDepth 20000 in
theorem ggX8_cellsSeeing_X8_reachOf : GoodIn wsX8_cellsSeeing wsX8_reachOf := goodIn_r _ [13, 14, 15, 2, 16, 17, 18, 19, 20, 21, 22, 6, 23, 24, 25, 26, 27, 28, 29, 30, 31, 32, 33, 34, 35, 36, 37, 38, 39, 40, 41, 42, 43, 44, 45, 46, 47, 48, 49, 50, 51, 52, 53, 54, 55, 56, 57, 58, 59, 60, 61, 62, 63, 64, 65, 66, 67, 68, 69, 70, 71, 72, 73, 74, 75, 76, 77, 78, 79, 80, 81, 82, 83, 84, 85, 86, 87, 88, 89, 112, 113, 114, 115, 116, 117, 118, 119, 120, 121, 122, 123, 124, 125, 126, 127, 128, 129, 130, 131, 132, 133, 134, 135, 136, 137, 138, 139, 98, 99, 100, 101, 102, 103, 104, 105, 106, 107, 108, 109, 110, 111, 140, 141, 142, 143, 144, 145, 146, 147, 148, 149, 150] (by decide +kernel) (by decide +kernel)
set_option maxRecDepth 20000 in
theorem gX8_cellsSeeing_X8_reachOf : GoodIn wsX8_cellsSeeing (wsV RX8 109 RX8 yX8_reachOf wsX8_reachOf) := goodIn_app (goodIn_of _ (by decide +kernel)) ggX8_cellsSeeing_X8_reachOf
set_option maxRecDepth 20000 in
theorem ggX8_cellsSeeing_X11_apart : GoodIn wsX8_cellsSeeing wsX11_apart := goodIn_r _ [91, 92, 93, 54, 94, 95, 53, 55, 96, 24, 25, 26, 97, 27, 28] (by decide +kernel) (by decide +kernel)
set_option maxRecDepth 20000 in
theorem gX8_cellsSeeing_X11_apart_n113 : GoodIn wsX8_cellsSeeing (wsX11_apart) := ggX8_cellsSeeing_X11_apart
theorem dX8_cellsSeeing_0 : decode cX8_cellsSeeing 0 = .ok (.aload_n 0, 1) := by decide +kernel
theorem dX8_cellsSeeing_1 : decode cX8_cellsSeeing 1 = .ok (.iload_n 1, 1) := by decide +kernel
theorem dX8_cellsSeeing_2 : decode cX8_cellsSeeing 2 = .ok (.invokevirtual 69, 3) := by decide +kernel
theorem dX8_cellsSeeing_5 : decode cX8_cellsSeeing 5 = .ok (.astore_n 2, 1) := by decide +kernel
theorem dX8_cellsSeeing_6 : decode cX8_cellsSeeing 6 = .ok (.aload_n 2, 1) := by decide +kernel
theorem dX8_cellsSeeing_7 : decode cX8_cellsSeeing 7 = .ok (.ifnonnull 5, 3) := by decide +kernel
theorem dX8_cellsSeeing_10 : decode cX8_cellsSeeing 10 = .ok (.lconst 0, 1) := by decide +kernel
theorem dX8_cellsSeeing_11 : decode cX8_cellsSeeing 11 = .ok (.lreturn, 1) := by decide +kernel
theorem dX8_cellsSeeing_12 : decode cX8_cellsSeeing 12 = .ok (.aload_n 0, 1) := by decide +kernel
theorem dX8_cellsSeeing_13 : decode cX8_cellsSeeing 13 = .ok (.aload_n 2, 1) := by decide +kernel
theorem dX8_cellsSeeing_14 : decode cX8_cellsSeeing 14 = .ok (.aload_n 0, 1) := by decide +kernel
theorem dX8_cellsSeeing_15 : decode cX8_cellsSeeing 15 = .ok (.getfield 57, 3) := by decide +kernel
theorem dX8_cellsSeeing_18 : decode cX8_cellsSeeing 18 = .ok (.invokevirtual 109, 3) := by decide +kernel
theorem dX8_cellsSeeing_21 : decode cX8_cellsSeeing 21 = .ok (.istore_n 3, 1) := by decide +kernel
theorem dX8_cellsSeeing_22 : decode cX8_cellsSeeing 22 = .ok (.lconst 0, 1) := by decide +kernel
theorem dX8_cellsSeeing_23 : decode cX8_cellsSeeing 23 = .ok (.lstore 4, 2) := by decide +kernel
theorem dX8_cellsSeeing_25 : decode cX8_cellsSeeing 25 = .ok (.iconst 0, 1) := by decide +kernel
theorem dX8_cellsSeeing_26 : decode cX8_cellsSeeing 26 = .ok (.istore 6, 2) := by decide +kernel
theorem dX8_cellsSeeing_28 : decode cX8_cellsSeeing 28 = .ok (.iload 6, 2) := by decide +kernel
theorem dX8_cellsSeeing_30 : decode cX8_cellsSeeing 30 = .ok (.bipush 36, 2) := by decide +kernel
theorem dX8_cellsSeeing_32 : decode cX8_cellsSeeing 32 = .ok (.if_icmp .ge 31, 3) := by decide +kernel
theorem dX8_cellsSeeing_35 : decode cX8_cellsSeeing 35 = .ok (.iload 6, 2) := by decide +kernel
theorem dX8_cellsSeeing_37 : decode cX8_cellsSeeing 37 = .ok (.aload_n 2, 1) := by decide +kernel
theorem dX8_cellsSeeing_38 : decode cX8_cellsSeeing 38 = .ok (.getfield 73, 3) := by decide +kernel
theorem dX8_cellsSeeing_41 : decode cX8_cellsSeeing 41 = .ok (.invokestatic 113, 3) := by decide +kernel
theorem dX8_cellsSeeing_44 : decode cX8_cellsSeeing 44 = .ok (.iload_n 3, 1) := by decide +kernel
theorem dX8_cellsSeeing_45 : decode cX8_cellsSeeing 45 = .ok (.if_icmp .gt 12, 3) := by decide +kernel
theorem dX8_cellsSeeing_48 : decode cX8_cellsSeeing 48 = .ok (.lload 4, 2) := by decide +kernel
theorem dX8_cellsSeeing_50 : decode cX8_cellsSeeing 50 = .ok (.lconst 1, 1) := by decide +kernel
theorem dX8_cellsSeeing_51 : decode cX8_cellsSeeing 51 = .ok (.iload 6, 2) := by decide +kernel
theorem dX8_cellsSeeing_53 : decode cX8_cellsSeeing 53 = .ok (.lshl, 1) := by decide +kernel
theorem dX8_cellsSeeing_54 : decode cX8_cellsSeeing 54 = .ok (.lor, 1) := by decide +kernel
theorem dX8_cellsSeeing_55 : decode cX8_cellsSeeing 55 = .ok (.lstore 4, 2) := by decide +kernel
theorem dX8_cellsSeeing_57 : decode cX8_cellsSeeing 57 = .ok (.iinc 6 1, 3) := by decide +kernel
theorem dX8_cellsSeeing_60 : decode cX8_cellsSeeing 60 = .ok (.goto (-32), 3) := by decide +kernel
theorem dX8_cellsSeeing_63 : decode cX8_cellsSeeing 63 = .ok (.lload 4, 2) := by decide +kernel
theorem dX8_cellsSeeing_65 : decode cX8_cellsSeeing 65 = .ok (.lreturn, 1) := by decide +kernel
set_option maxRecDepth 20000 in
theorem ggX9_init_X6_init : GoodIn wsX9_init wsX6_init := goodIn_r _ [4, 5, 6, 7, 8, 9, 10, 11, 12, 13, 14, 15, 16, 17, 18, 19, 20, 21, 22, 23, 24, 25, 26, 27, 28, 29, 30, 31, 32, 33, 34, 35, 36, 37, 38, 39, 40, 41, 42, 43] (by decide +kernel) (by decide +kernel)
set_option maxRecDepth 20000 in
theorem gX9_init_X6_init : GoodIn wsX9_init (wsX6_init) := ggX9_init_X6_init
theorem dX9_init_0 : decode cX9_init 0 = .ok (.aload_n 0, 1) := by decide +kernel
theorem dX9_init_1 : decode cX9_init 1 = .ok (.iload_n 1, 1) := by decide +kernel
theorem dX9_init_2 : decode cX9_init 2 = .ok (.iload_n 2, 1) := by decide +kernel
theorem dX9_init_3 : decode cX9_init 3 = .ok (.iload_n 3, 1) := by decide +kernel
theorem dX9_init_4 : decode cX9_init 4 = .ok (.iload 4, 2) := by decide +kernel
theorem dX9_init_6 : decode cX9_init 6 = .ok (.invokespecial 1, 3) := by decide +kernel
theorem dX9_init_9 : decode cX9_init 9 = .ok (.return_, 1) := by decide +kernel
set_option maxRecDepth 20000 in
theorem ggX9_reachBy_X6_reachBy : GoodIn wsX9_reachBy wsX6_reachBy := goodIn_r _ [8, 9, 10, 11, 12, 13, 14, 15, 16, 17, 18] (by decide +kernel) (by decide +kernel)
set_option maxRecDepth 20000 in
theorem gX9_reachBy_X6_reachBy_s13 : GoodIn wsX9_reachBy (va_wsSU RX9 13 yX6_reachBy wsX6_reachBy) := goodIn_app (goodIn_of _ (by decide +kernel)) ggX9_reachBy_X6_reachBy
theorem dX9_reachBy_0 : decode cX9_reachBy 0 = .ok (.iload_n 2, 1) := by decide +kernel
theorem dX9_reachBy_1 : decode cX9_reachBy 1 = .ok (.aload_n 0, 1) := by decide +kernel
theorem dX9_reachBy_2 : decode cX9_reachBy 2 = .ok (.getfield 7, 3) := by decide +kernel
theorem dX9_reachBy_5 : decode cX9_reachBy 5 = .ok (.if_icmp .le 7, 3) := by decide +kernel
theorem dX9_reachBy_8 : decode cX9_reachBy 8 = .ok (.iconst 0, 1) := by decide +kernel
theorem dX9_reachBy_9 : decode cX9_reachBy 9 = .ok (.goto 9, 3) := by decide +kernel
theorem dX9_reachBy_12 : decode cX9_reachBy 12 = .ok (.aload_n 0, 1) := by decide +kernel
theorem dX9_reachBy_13 : decode cX9_reachBy 13 = .ok (.iload_n 1, 1) := by decide +kernel
theorem dX9_reachBy_14 : decode cX9_reachBy 14 = .ok (.iload_n 2, 1) := by decide +kernel
theorem dX9_reachBy_15 : decode cX9_reachBy 15 = .ok (.invokespecial 13, 3) := by decide +kernel
theorem dX9_reachBy_18 : decode cX9_reachBy 18 = .ok (.ireturn, 1) := by decide +kernel
theorem dX9_doSees_0 : decode cX9_doSees 0 = .ok (.bipush 51, 2) := by decide +kernel
theorem dX9_doSees_2 : decode cX9_doSees 2 = .ok (.aload_n 2, 1) := by decide +kernel
theorem dX9_doSees_3 : decode cX9_doSees 3 = .ok (.invokestatic 17, 3) := by decide +kernel
theorem dX9_doSees_6 : decode cX9_doSees 6 = .ok (.aload_n 0, 1) := by decide +kernel
theorem dX9_doSees_7 : decode cX9_doSees 7 = .ok (.iload_n 1, 1) := by decide +kernel
theorem dX9_doSees_8 : decode cX9_doSees 8 = .ok (.aload_n 2, 1) := by decide +kernel
theorem dX9_doSees_9 : decode cX9_doSees 9 = .ok (.invokespecial 21, 3) := by decide +kernel
theorem dX9_doSees_12 : decode cX9_doSees 12 = .ok (.aload_n 0, 1) := by decide +kernel
theorem dX9_doSees_13 : decode cX9_doSees 13 = .ok (.getfield 25, 3) := by decide +kernel
theorem dX9_doSees_16 : decode cX9_doSees 16 = .ok (.ixor, 1) := by decide +kernel
theorem dX9_doSees_17 : decode cX9_doSees 17 = .ok (.ireturn, 1) := by decide +kernel
set_option maxRecDepth 20000 in
theorem ggX10_init_X4_init : GoodIn wsX10_init wsX4_init := goodIn_r _ [4, 5, 6, 7, 8, 9, 10, 11, 12, 13, 14, 15, 16, 17, 18, 19, 20, 21, 22, 23, 24, 25, 26, 27, 28, 29, 30, 31, 32, 33, 34, 35, 36, 37, 38, 39, 40, 41, 42, 43] (by decide +kernel) (by decide +kernel)
set_option maxRecDepth 20000 in
theorem gX10_init_X4_init : GoodIn wsX10_init (wsX4_init) := ggX10_init_X4_init
theorem dX10_init_0 : decode cX10_init 0 = .ok (.aload_n 0, 1) := by decide +kernel
theorem dX10_init_1 : decode cX10_init 1 = .ok (.iload_n 1, 1) := by decide +kernel
theorem dX10_init_2 : decode cX10_init 2 = .ok (.iload_n 2, 1) := by decide +kernel
theorem dX10_init_3 : decode cX10_init 3 = .ok (.iload_n 3, 1) := by decide +kernel
theorem dX10_init_4 : decode cX10_init 4 = .ok (.iload 4, 2) := by decide +kernel
theorem dX10_init_6 : decode cX10_init 6 = .ok (.invokespecial 3, 3) := by decide +kernel
theorem dX10_init_9 : decode cX10_init 9 = .ok (.return_, 1) := by decide +kernel
set_option maxRecDepth 20000 in
theorem ggX10_leadsTo_X11_rowOf : GoodIn wsX10_leadsTo wsX11_rowOf := goodIn_r _ [7] (by decide +kernel) (by decide +kernel)
set_option maxRecDepth 20000 in
theorem gX10_leadsTo_X11_rowOf_n19 : GoodIn wsX10_leadsTo (wsX11_rowOf) := ggX10_leadsTo_X11_rowOf
set_option maxRecDepth 20000 in
theorem ggX10_leadsTo_X10_isOnSide : GoodIn wsX10_leadsTo wsX10_isOnSide := goodIn_r _ [11] (by decide +kernel) (by decide +kernel)
set_option maxRecDepth 20000 in
theorem gX10_leadsTo_X10_isOnSide : GoodIn wsX10_leadsTo (va_wsS RX10 26 yX10_isOnSide wsX10_isOnSide) := goodIn_app (goodIn_of _ (by decide +kernel)) ggX10_leadsTo_X10_isOnSide
set_option maxRecDepth 20000 in
theorem ggX10_leadsTo_X11_columnOf : GoodIn wsX10_leadsTo wsX11_columnOf := goodIn_r _ [13] (by decide +kernel) (by decide +kernel)
set_option maxRecDepth 20000 in
theorem gX10_leadsTo_X11_columnOf_n33 : GoodIn wsX10_leadsTo (wsX11_columnOf) := ggX10_leadsTo_X11_columnOf
theorem dX10_leadsTo_0 : decode cX10_leadsTo 0 = .ok (.aload_n 0, 1) := by decide +kernel
theorem dX10_leadsTo_1 : decode cX10_leadsTo 1 = .ok (.getfield 9, 3) := by decide +kernel
theorem dX10_leadsTo_4 : decode cX10_leadsTo 4 = .ok (.bipush 8, 2) := by decide +kernel
theorem dX10_leadsTo_6 : decode cX10_leadsTo 6 = .ok (.irem, 1) := by decide +kernel
theorem dX10_leadsTo_7 : decode cX10_leadsTo 7 = .ok (.istore_n 2, 1) := by decide +kernel
theorem dX10_leadsTo_8 : decode cX10_leadsTo 8 = .ok (.getstatic 15, 3) := by decide +kernel
theorem dX10_leadsTo_11 : decode cX10_leadsTo 11 = .ok (.iload_n 2, 1) := by decide +kernel
theorem dX10_leadsTo_12 : decode cX10_leadsTo 12 = .ok (.iaload, 1) := by decide +kernel
theorem dX10_leadsTo_13 : decode cX10_leadsTo 13 = .ok (.iload_n 1, 1) := by decide +kernel
theorem dX10_leadsTo_14 : decode cX10_leadsTo 14 = .ok (.invokestatic 19, 3) := by decide +kernel
theorem dX10_leadsTo_17 : decode cX10_leadsTo 17 = .ok (.aload_n 0, 1) := by decide +kernel
theorem dX10_leadsTo_18 : decode cX10_leadsTo 18 = .ok (.getfield 23, 3) := by decide +kernel
theorem dX10_leadsTo_21 : decode cX10_leadsTo 21 = .ok (.invokestatic 19, 3) := by decide +kernel
theorem dX10_leadsTo_24 : decode cX10_leadsTo 24 = .ok (.isub, 1) := by decide +kernel
theorem dX10_leadsTo_25 : decode cX10_leadsTo 25 = .ok (.invokestatic 26, 3) := by decide +kernel
theorem dX10_leadsTo_28 : decode cX10_leadsTo 28 = .ok (.ifCond .eq 30, 3) := by decide +kernel
theorem dX10_leadsTo_31 : decode cX10_leadsTo 31 = .ok (.getstatic 30, 3) := by decide +kernel
theorem dX10_leadsTo_34 : decode cX10_leadsTo 34 = .ok (.iload_n 2, 1) := by decide +kernel
theorem dX10_leadsTo_35 : decode cX10_leadsTo 35 = .ok (.iaload, 1) := by decide +kernel
theorem dX10_leadsTo_36 : decode cX10_leadsTo 36 = .ok (.iload_n 1, 1) := by decide +kernel
theorem dX10_leadsTo_37 : decode cX10_leadsTo 37 = .ok (.invokestatic 33, 3) := by decide +kernel
theorem dX10_leadsTo_40 : decode cX10_leadsTo 40 = .ok (.aload_n 0, 1) := by decide +kernel
theorem dX10_leadsTo_41 : decode cX10_leadsTo 41 = .ok (.getfield 23, 3) := by decide +kernel
theorem dX10_leadsTo_44 : decode cX10_leadsTo 44 = .ok (.invokestatic 33, 3) := by decide +kernel
theorem dX10_leadsTo_47 : decode cX10_leadsTo 47 = .ok (.isub, 1) := by decide +kernel
theorem dX10_leadsTo_48 : decode cX10_leadsTo 48 = .ok (.invokestatic 26, 3) := by decide +kernel
theorem dX10_leadsTo_51 : decode cX10_leadsTo 51 = .ok (.ifCond .eq 7, 3) := by decide +kernel
theorem dX10_leadsTo_54 : decode cX10_leadsTo 54 = .ok (.iconst 1, 1) := by decide +kernel
theorem dX10_leadsTo_55 : decode cX10_leadsTo 55 = .ok (.goto 4, 3) := by decide +kernel
theorem dX10_leadsTo_58 : decode cX10_leadsTo 58 = .ok (.iconst 0, 1) := by decide +kernel
