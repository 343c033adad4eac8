theorem dX10_leadsTo_59 : decode cX10_leadsTo 59 = .ok (.ireturn, 1) := by decide +kernel
theorem dX10_isOnSide_0 : decode cX10_isOnSide 0 = .ok (.iload_n 0, 1) := by decide +kernel
theorem dX10_isOnSide_1 : decode cX10_isOnSide 1 = .ok (.ifCond .eq 9, 3) := by decide +kernel
theorem dX10_isOnSide_4 : decode cX10_isOnSide 4 = .ok (.iload_n 0, 1) := by decide +kernel
theorem dX10_isOnSide_5 : decode cX10_isOnSide 5 = .ok (.iload_n 1, 1) := by decide +kernel
theorem dX10_isOnSide_6 : decode cX10_isOnSide 6 = .ok (.imul, 1) := by decide +kernel
theorem dX10_isOnSide_7 : decode cX10_isOnSide 7 = .ok (.ifCond .le 7, 3) := by decide +kernel
theorem dX10_isOnSide_10 : decode cX10_isOnSide 10 = .ok (.iconst 1, 1) := by decide +kernel
theorem dX10_isOnSide_11 : decode cX10_isOnSide 11 = .ok (.goto 4, 3) := by decide +kernel
theorem dX10_isOnSide_14 : decode cX10_isOnSide 14 = .ok (.iconst 0, 1) := by decide +kernel
theorem dX10_isOnSide_15 : decode cX10_isOnSide 15 = .ok (.ireturn, 1) := by decide +kernel
set_option maxRecDepth 20000 in
theorem ggX10_doLooks_X4_doSees : GoodIn wsX10_doLooks wsX4_doSees := goodIn_r _ [6, 7, 8, 9, 10, 11, 12, 13, 14, 15, 16, 17, 18, 19, 20, 21, 22, 23, 24, 25, 26, 27, 28, 29, 30, 31, 32, 33, 34, 35, 36, 37, 38, 39, 40, 41, 42, 43, 44, 45, 46, 47, 48, 49, 50, 51, 52, 53, 54, 55, 56, 57, 58, 59, 60, 61, 62, 63, 64, 65, 66, 67, 68, 69, 70, 71, 72, 73, 74, 75, 76, 77, 78, 79, 80, 81, 82, 83, 84, 85, 86, 87, 88, 89, 90, 91, 92, 93, 94, 95, 96, 97, 98, 99, 100, 101, 102, 103, 104, 105, 106, 107, 108, 109, 110, 111, 112, 113, 114, 115, 116, 117, 118, 119, 120, 121, 122, 123, 124, 125, 126, 127] (by decide +kernel) (by decide +kernel)
set_option maxRecDepth 20000 in
theorem gX10_doLooks_X4_doSees_u44X10 : GoodIn wsX10_doLooks (va_wsU RX10 44 RX10 "MistHeaps$High" ⟨"MistHeaps$Turning", "doSees", "(ILjava/util/ArrayList;)I"⟩ yX4_doSees wsX4_doSees) := goodIn_app (goodIn_of _ (by decide +kernel)) ggX10_doLooks_X4_doSees
theorem dX10_doLooks_0 : decode cX10_doLooks 0 = .ok (.bipush 41, 2) := by decide +kernel
theorem dX10_doLooks_2 : decode cX10_doLooks 2 = .ok (.aload_n 2, 1) := by decide +kernel
theorem dX10_doLooks_3 : decode cX10_doLooks 3 = .ok (.invokestatic 36, 3) := by decide +kernel
theorem dX10_doLooks_6 : decode cX10_doLooks 6 = .ok (.aload_n 0, 1) := by decide +kernel
theorem dX10_doLooks_7 : decode cX10_doLooks 7 = .ok (.iload_n 1, 1) := by decide +kernel
theorem dX10_doLooks_8 : decode cX10_doLooks 8 = .ok (.iconst 1, 1) := by decide +kernel
theorem dX10_doLooks_9 : decode cX10_doLooks 9 = .ok (.isub, 1) := by decide +kernel
theorem dX10_doLooks_10 : decode cX10_doLooks 10 = .ok (.aload_n 2, 1) := by decide +kernel
theorem dX10_doLooks_11 : decode cX10_doLooks 11 = .ok (.invokespecial 40, 3) := by decide +kernel
theorem dX10_doLooks_14 : decode cX10_doLooks 14 = .ok (.istore_n 3, 1) := by decide +kernel
theorem dX10_doLooks_15 : decode cX10_doLooks 15 = .ok (.iload_n 3, 1) := by decide +kernel
theorem dX10_doLooks_16 : decode cX10_doLooks 16 = .ok (.aload_n 0, 1) := by decide +kernel
theorem dX10_doLooks_17 : decode cX10_doLooks 17 = .ok (.iconst 2, 1) := by decide +kernel
theorem dX10_doLooks_18 : decode cX10_doLooks 18 = .ok (.aload_n 2, 1) := by decide +kernel
theorem dX10_doLooks_19 : decode cX10_doLooks 19 = .ok (.invokevirtual 44, 3) := by decide +kernel
theorem dX10_doLooks_22 : decode cX10_doLooks 22 = .ok (.iadd, 1) := by decide +kernel
theorem dX10_doLooks_23 : decode cX10_doLooks 23 = .ok (.ireturn, 1) := by decide +kernel
set_option maxRecDepth 20000 in
theorem ggX11_init_X8_init : GoodIn wsX11_init wsX8_init := goodIn_r _ [28, 29, 2, 3, 30, 31, 32, 11, 12, 33, 34, 35, 36, 37, 38, 39, 40, 41, 42, 43, 44, 45, 46, 47, 92, 93, 94, 95, 96, 97, 98, 99, 100, 101, 102, 103, 104, 105, 113, 114, 115, 116, 117, 118, 119, 120, 121, 122, 123] (by decide +kernel) (by decide +kernel)
set_option maxRecDepth 20000 in
theorem gX11_init_X8_init : GoodIn wsX11_init (wsX8_init) := ggX11_init_X8_init
set_option maxRecDepth 20000 in
theorem ggX11_init_X5_init : GoodIn wsX11_init wsX5_init := goodIn_r _ [41, 42, 2, 3, 43, 30, 44, 45, 46, 47, 113, 114, 115, 116, 117, 118, 119, 120, 121, 122, 123] (by decide +kernel) (by decide +kernel)
set_option maxRecDepth 20000 in
theorem gX11_init_X5_init : GoodIn wsX11_init (wsX5_init) := ggX11_init_X5_init
set_option maxRecDepth 20000 in
theorem ggX11_init_X2_init : GoodIn wsX11_init wsX2_init := goodIn_r _ [51, 52, 2, 3, 30, 53, 54, 55, 56, 57, 58, 59, 60, 61, 62, 63, 64, 65, 66, 124, 125, 126, 127, 136, 137, 138, 139, 140, 141, 142, 143, 144, 145, 146, 147, 148, 149, 150, 151, 152, 153, 154, 155, 156, 157, 158, 159, 160, 161, 162, 163] (by decide +kernel) (by decide +kernel)
set_option maxRecDepth 20000 in
theorem gX11_init_X2_init : GoodIn wsX11_init (wsX2_init) := ggX11_init_X2_init
set_option maxRecDepth 20000 in
theorem ggX11_init_X0_init : GoodIn wsX11_init wsX0_init := goodIn_r _ [69, 70, 2, 3, 30, 71, 72, 73, 74, 75, 76, 128, 129, 130, 131, 132] (by decide +kernel) (by decide +kernel)
set_option maxRecDepth 20000 in
theorem gX11_init_X0_init : GoodIn wsX11_init (wsX0_init) := ggX11_init_X0_init
set_option maxRecDepth 20000 in
theorem ggX11_init_Jx4a65c_init_da8c8 : GoodIn wsX11_init wsJx4a65c_init_da8c8 := goodIn_r _ [79, 80, 81, 82, 83, 84, 85, 86, 87, 88, 89, 90, 91, 2, 3, 133, 134, 135] (by decide +kernel) (by decide +kernel)
set_option maxRecDepth 20000 in
theorem gX11_init_Jx4a65c_init_da8c8 : GoodIn wsX11_init (wsJx4a65c_init_da8c8) := ggX11_init_Jx4a65c_init_da8c8
theorem dX11_init_0 : decode cX11_init 0 = .ok (.aload_n 0, 1) := by decide +kernel
theorem dX11_init_1 : decode cX11_init 1 = .ok (.invokespecial 5, 3) := by decide +kernel
theorem dX11_init_4 : decode cX11_init 4 = .ok (.aload_n 0, 1) := by decide +kernel
theorem dX11_init_5 : decode cX11_init 5 = .ok (.new 11, 3) := by decide +kernel
theorem dX11_init_8 : decode cX11_init 8 = .ok (.dup, 1) := by decide +kernel
theorem dX11_init_9 : decode cX11_init 9 = .ok (.invokespecial 13, 3) := by decide +kernel
theorem dX11_init_12 : decode cX11_init 12 = .ok (.putfield 14, 3) := by decide +kernel
theorem dX11_init_15 : decode cX11_init 15 = .ok (.aload_n 0, 1) := by decide +kernel
theorem dX11_init_16 : decode cX11_init 16 = .ok (.new 11, 3) := by decide +kernel
theorem dX11_init_19 : decode cX11_init 19 = .ok (.dup, 1) := by decide +kernel
theorem dX11_init_20 : decode cX11_init 20 = .ok (.invokespecial 13, 3) := by decide +kernel
theorem dX11_init_23 : decode cX11_init 23 = .ok (.putfield 18, 3) := by decide +kernel
theorem dX11_init_26 : decode cX11_init 26 = .ok (.aload_n 0, 1) := by decide +kernel
theorem dX11_init_27 : decode cX11_init 27 = .ok (.iconst 0, 1) := by decide +kernel
theorem dX11_init_28 : decode cX11_init 28 = .ok (.putfield 21, 3) := by decide +kernel
theorem dX11_init_31 : decode cX11_init 31 = .ok (.aload_n 0, 1) := by decide +kernel
theorem dX11_init_32 : decode cX11_init 32 = .ok (.new 25, 3) := by decide +kernel
theorem dX11_init_35 : decode cX11_init 35 = .ok (.dup, 1) := by decide +kernel
theorem dX11_init_36 : decode cX11_init 36 = .ok (.invokespecial 27, 3) := by decide +kernel
theorem dX11_init_39 : decode cX11_init 39 = .ok (.putfield 28, 3) := by decide +kernel
theorem dX11_init_42 : decode cX11_init 42 = .ok (.aload_n 0, 1) := by decide +kernel
theorem dX11_init_43 : decode cX11_init 43 = .ok (.new 32, 3) := by decide +kernel
theorem dX11_init_46 : decode cX11_init 46 = .ok (.dup, 1) := by decide +kernel
theorem dX11_init_47 : decode cX11_init 47 = .ok (.invokespecial 34, 3) := by decide +kernel
theorem dX11_init_50 : decode cX11_init 50 = .ok (.putfield 35, 3) := by decide +kernel
theorem dX11_init_53 : decode cX11_init 53 = .ok (.aload_n 0, 1) := by decide +kernel
theorem dX11_init_54 : decode cX11_init 54 = .ok (.new 39, 3) := by decide +kernel
theorem dX11_init_57 : decode cX11_init 57 = .ok (.dup, 1) := by decide +kernel
theorem dX11_init_58 : decode cX11_init 58 = .ok (.invokespecial 41, 3) := by decide +kernel
theorem dX11_init_61 : decode cX11_init 61 = .ok (.putfield 42, 3) := by decide +kernel
theorem dX11_init_64 : decode cX11_init 64 = .ok (.aload_n 0, 1) := by decide +kernel
theorem dX11_init_65 : decode cX11_init 65 = .ok (.new 46, 3) := by decide +kernel
theorem dX11_init_68 : decode cX11_init 68 = .ok (.dup, 1) := by decide +kernel
theorem dX11_init_69 : decode cX11_init 69 = .ok (.invokespecial 48, 3) := by decide +kernel
theorem dX11_init_72 : decode cX11_init 72 = .ok (.putfield 49, 3) := by decide +kernel
theorem dX11_init_75 : decode cX11_init 75 = .ok (.return_, 1) := by decide +kernel
theorem dX11_feed_0 : decode cX11_feed 0 = .ok (.iload_n 1, 1) := by decide +kernel
theorem dX11_feed_1 : decode cX11_feed 1 = .ok (.ifCond .lt 9, 3) := by decide +kernel
theorem dX11_feed_4 : decode cX11_feed 4 = .ok (.iload_n 1, 1) := by decide +kernel
theorem dX11_feed_5 : decode cX11_feed 5 = .ok (.bipush 127, 2) := by decide +kernel
theorem dX11_feed_7 : decode cX11_feed 7 = .ok (.if_icmp .le 6, 3) := by decide +kernel
theorem dX11_feed_10 : decode cX11_feed 10 = .ok (.bipush (-2), 2) := by decide +kernel
theorem dX11_feed_12 : decode cX11_feed 12 = .ok (.ireturn, 1) := by decide +kernel
theorem dX11_feed_13 : decode cX11_feed 13 = .ok (.aload_n 0, 1) := by decide +kernel
theorem dX11_feed_14 : decode cX11_feed 14 = .ok (.getfield 14, 3) := by decide +kernel
theorem dX11_feed_17 : decode cX11_feed 17 = .ok (.getfield 53, 3) := by decide +kernel
theorem dX11_feed_20 : decode cX11_feed 20 = .ok (.bipush 100, 2) := by decide +kernel
theorem dX11_feed_22 : decode cX11_feed 22 = .ok (.if_icmp .lt 6, 3) := by decide +kernel
theorem dX11_feed_25 : decode cX11_feed 25 = .ok (.bipush (-4), 2) := by decide +kernel
theorem dX11_feed_27 : decode cX11_feed 27 = .ok (.ireturn, 1) := by decide +kernel
theorem dX11_feed_28 : decode cX11_feed 28 = .ok (.aload_n 0, 1) := by decide +kernel
theorem dX11_feed_29 : decode cX11_feed 29 = .ok (.getfield 14, 3) := by decide +kernel
theorem dX11_feed_32 : decode cX11_feed 32 = .ok (.getfield 57, 3) := by decide +kernel
theorem dX11_feed_35 : decode cX11_feed 35 = .ok (.aload_n 0, 1) := by decide +kernel
theorem dX11_feed_36 : decode cX11_feed 36 = .ok (.getfield 14, 3) := by decide +kernel
theorem dX11_feed_39 : decode cX11_feed 39 = .ok (.getfield 53, 3) := by decide +kernel
theorem dX11_feed_42 : decode cX11_feed 42 = .ok (.iload_n 1, 1) := by decide +kernel
theorem dX11_feed_43 : decode cX11_feed 43 = .ok (.iastore, 1) := by decide +kernel
theorem dX11_feed_44 : decode cX11_feed 44 = .ok (.aload_n 0, 1) := by decide +kernel
theorem dX11_feed_45 : decode cX11_feed 45 = .ok (.getfield 14, 3) := by decide +kernel
theorem dX11_feed_48 : decode cX11_feed 48 = .ok (.dup, 1) := by decide +kernel
theorem dX11_feed_49 : decode cX11_feed 49 = .ok (.getfield 53, 3) := by decide +kernel
theorem dX11_feed_52 : decode cX11_feed 52 = .ok (.iconst 1, 1) := by decide +kernel
theorem dX11_feed_53 : decode cX11_feed 53 = .ok (.iadd, 1) := by decide +kernel
theorem dX11_feed_54 : decode cX11_feed 54 = .ok (.putfield 53, 3) := by decide +kernel
theorem dX11_feed_57 : decode cX11_feed 57 = .ok (.aload_n 0, 1) := by decide +kernel
theorem dX11_feed_58 : decode cX11_feed 58 = .ok (.getfield 14, 3) := by decide +kernel
theorem dX11_feed_61 : decode cX11_feed 61 = .ok (.getfield 53, 3) := by decide +kernel
theorem dX11_feed_64 : decode cX11_feed 64 = .ok (.ireturn, 1) := by decide +kernel
set_option maxRecDepth 20000 in
theorem ggX11_hill_X5_read : GoodIn wsX11_hill wsX5_read := goodIn_r _ [13, 14, 15, 16, 17, 18, 19, 20, 21, 22, 23, 24, 25, 26, 9, 27, 28, 29, 30, 31, 32, 33, 34, 35, 36, 37, 38, 39, 40, 41, 42, 43, 44, 45, 46, 47, 48, 49, 50, 51, 52, 53, 54, 55, 56, 57, 58, 59, 60, 61, 62, 63, 64, 65, 66, 67, 68, 69, 70, 71, 72, 73, 74, 75, 76, 77, 78, 79, 80, 81, 82, 83, 84, 85, 86, 87, 88, 89, 90, 91, 92, 93, 94, 95, 96, 97, 98, 99, 100, 101, 102, 103, 104, 105, 106, 107, 108, 109, 110, 111, 112, 113, 114, 115, 116, 117, 118, 119, 120, 121, 122, 123, 124, 125, 126, 127, 128, 129, 130, 131, 132, 133, 134, 135, 136, 137, 138, 139, 140, 141, 142, 143, 144, 145, 146, 147, 148, 149, 150, 151, 152, 153, 154, 155, 156, 157, 158, 159, 160, 161, 162, 163, 164, 165, 166, 167, 168, 169, 170, 171, 172, 173, 174, 175, 176, 177, 178, 179, 180, 181, 210, 211, 212, 213, 214, 215, 216, 217, 218, 219, 220] (by decide +kernel) (by decide +kernel)
set_option maxRecDepth 20000 in
theorem gX11_hill_X5_read : GoodIn wsX11_hill (wsV RX11 64 RX5 yX5_read wsX5_read) := goodIn_app (goodIn_of _ (by decide +kernel)) ggX11_hill_X5_read
set_option maxRecDepth 20000 in
theorem ggX11_hill_X5_init : GoodIn wsX11_hill wsX5_init := goodIn_r _ [184, 185, 186, 187, 18, 188, 19, 20, 22, 114, 210, 211, 212, 213, 214, 215, 216, 217, 218, 219, 220] (by decide +kernel) (by decide +kernel)
set_option maxRecDepth 20000 in
theorem gX11_hill_X5_init : GoodIn wsX11_hill (wsX5_init) := ggX11_hill_X5_init
theorem dX11_hill_0 : decode cX11_hill 0 = .ok (.aload_n 0, 1) := by decide +kernel
theorem dX11_hill_1 : decode cX11_hill 1 = .ok (.getfield 14, 3) := by decide +kernel
theorem dX11_hill_4 : decode cX11_hill 4 = .ok (.getfield 61, 3) := by decide +kernel
theorem dX11_hill_7 : decode cX11_hill 7 = .ok (.iconst 5, 1) := by decide +kernel
theorem dX11_hill_8 : decode cX11_hill 8 = .ok (.if_icmp .lt 6, 3) := by decide +kernel
theorem dX11_hill_11 : decode cX11_hill 11 = .ok (.bipush (-4), 2) := by decide +kernel
theorem dX11_hill_13 : decode cX11_hill 13 = .ok (.ireturn, 1) := by decide +kernel
theorem dX11_hill_14 : decode cX11_hill 14 = .ok (.aload_n 0, 1) := by decide +kernel
theorem dX11_hill_15 : decode cX11_hill 15 = .ok (.getfield 28, 3) := by decide +kernel
theorem dX11_hill_18 : decode cX11_hill 18 = .ok (.aload_n 0, 1) := by decide +kernel
theorem dX11_hill_19 : decode cX11_hill 19 = .ok (.getfield 14, 3) := by decide +kernel
theorem dX11_hill_22 : decode cX11_hill 22 = .ok (.getfield 57, 3) := by decide +kernel
theorem dX11_hill_25 : decode cX11_hill 25 = .ok (.aload_n 0, 1) := by decide +kernel
theorem dX11_hill_26 : decode cX11_hill 26 = .ok (.getfield 14, 3) := by decide +kernel
theorem dX11_hill_29 : decode cX11_hill 29 = .ok (.getfield 53, 3) := by decide +kernel
theorem dX11_hill_32 : decode cX11_hill 32 = .ok (.invokevirtual 64, 3) := by decide +kernel
theorem dX11_hill_35 : decode cX11_hill 35 = .ok (.istore_n 1, 1) := by decide +kernel
theorem dX11_hill_36 : decode cX11_hill 36 = .ok (.aload_n 0, 1) := by decide +kernel
theorem dX11_hill_37 : decode cX11_hill 37 = .ok (.getfield 14, 3) := by decide +kernel
theorem dX11_hill_40 : decode cX11_hill 40 = .ok (.iconst 0, 1) := by decide +kernel
theorem dX11_hill_41 : decode cX11_hill 41 = .ok (.putfield 53, 3) := by decide +kernel
theorem dX11_hill_44 : decode cX11_hill 44 = .ok (.iload_n 1, 1) := by decide +kernel
theorem dX11_hill_45 : decode cX11_hill 45 = .ok (.iconst (-1), 1) := by decide +kernel
theorem dX11_hill_46 : decode cX11_hill 46 = .ok (.if_icmp .eq 8, 3) := by decide +kernel
theorem dX11_hill_49 : decode cX11_hill 49 = .ok (.bipush (-10), 2) := by decide +kernel
theorem dX11_hill_51 : decode cX11_hill 51 = .ok (.iload_n 1, 1) := by decide +kernel
theorem dX11_hill_52 : decode cX11_hill 52 = .ok (.isub, 1) := by decide +kernel
theorem dX11_hill_53 : decode cX11_hill 53 = .ok (.ireturn, 1) := by decide +kernel
theorem dX11_hill_54 : decode cX11_hill 54 = .ok (.aload_n 0, 1) := by decide +kernel
theorem dX11_hill_55 : decode cX11_hill 55 = .ok (.getfield 14, 3) := by decide +kernel
theorem dX11_hill_58 : decode cX11_hill 58 = .ok (.aload_n 0, 1) := by decide +kernel
theorem dX11_hill_59 : decode cX11_hill 59 = .ok (.getfield 28, 3) := by decide +kernel
theorem dX11_hill_62 : decode cX11_hill 62 = .ok (.putfield 68, 3) := by decide +kernel
theorem dX11_hill_65 : decode cX11_hill 65 = .ok (.aload_n 0, 1) := by decide +kernel
theorem dX11_hill_66 : decode cX11_hill 66 = .ok (.new 25, 3) := by decide +kernel
theorem dX11_hill_69 : decode cX11_hill 69 = .ok (.dup, 1) := by decide +kernel
theorem dX11_hill_70 : decode cX11_hill 70 = .ok (.invokespecial 27, 3) := by decide +kernel
theorem dX11_hill_73 : decode cX11_hill 73 = .ok (.putfield 28, 3) := by decide +kernel
theorem dX11_hill_76 : decode cX11_hill 76 = .ok (.aload_n 0, 1) := by decide +kernel
theorem dX11_hill_77 : decode cX11_hill 77 = .ok (.getfield 14, 3) := by decide +kernel
theorem dX11_hill_80 : decode cX11_hill 80 = .ok (.dup, 1) := by decide +kernel
theorem dX11_hill_81 : decode cX11_hill 81 = .ok (.getfield 61, 3) := by decide +kernel
theorem dX11_hill_84 : decode cX11_hill 84 = .ok (.iconst 1, 1) := by decide +kernel
theorem dX11_hill_85 : decode cX11_hill 85 = .ok (.iadd, 1) := by decide +kernel
theorem dX11_hill_86 : decode cX11_hill 86 = .ok (.putfield 61, 3) := by decide +kernel
theorem dX11_hill_89 : decode cX11_hill 89 = .ok (.aload_n 0, 1) := by decide +kernel
theorem dX11_hill_90 : decode cX11_hill 90 = .ok (.getfield 14, 3) := by decide +kernel
theorem dX11_hill_93 : decode cX11_hill 93 = .ok (.getfield 61, 3) := by decide +kernel
theorem dX11_hill_96 : decode cX11_hill 96 = .ok (.iconst 1, 1) := by decide +kernel
theorem dX11_hill_97 : decode cX11_hill 97 = .ok (.isub, 1) := by decide +kernel
theorem dX11_hill_98 : decode cX11_hill 98 = .ok (.ireturn, 1) := by decide +kernel
set_option maxRecDepth 20000 in
theorem ggX11_edges_J13_bitCount_95d88 : GoodIn wsX11_edges wsJ13_bitCount_95d88 := goodIn_r _ [7, 8, 9, 10] (by decide +kernel) (by decide +kernel)
set_option maxRecDepth 20000 in
theorem gX11_edges_J13_bitCount_95d88 : GoodIn wsX11_edges (va_wsS RX11 77 yJ13_bitCount_95d88 wsJ13_bitCount_95d88) := goodIn_app (goodIn_of _ (by decide +kernel)) ggX11_edges_J13_bitCount_95d88
theorem dX11_edges_0 : decode cX11_edges 0 = .ok (.lload_n 1, 1) := by decide +kernel
theorem dX11_edges_1 : decode cX11_edges 1 = .ok (.ldc2_w 71, 3) := by decide +kernel
theorem dX11_edges_4 : decode cX11_edges 4 = .ok (.land, 1) := by decide +kernel
theorem dX11_edges_5 : decode cX11_edges 5 = .ok (.lconst 0, 1) := by decide +kernel
theorem dX11_edges_6 : decode cX11_edges 6 = .ok (.lcmp, 1) := by decide +kernel
theorem dX11_edges_7 : decode cX11_edges 7 = .ok (.ifCond .eq 6, 3) := by decide +kernel
theorem dX11_edges_10 : decode cX11_edges 10 = .ok (.bipush (-2), 2) := by decide +kernel
theorem dX11_edges_12 : decode cX11_edges 12 = .ok (.ireturn, 1) := by decide +kernel
theorem dX11_edges_13 : decode cX11_edges 13 = .ok (.aload_n 0, 1) := by decide +kernel
theorem dX11_edges_14 : decode cX11_edges 14 = .ok (.getfield 14, 3) := by decide +kernel
theorem dX11_edges_17 : decode cX11_edges 17 = .ok (.getfield 73, 3) := by decide +kernel
theorem dX11_edges_20 : decode cX11_edges 20 = .ok (.invokestatic 77, 3) := by decide +kernel
theorem dX11_edges_23 : decode cX11_edges 23 = .ok (.istore_n 3, 1) := by decide +kernel
theorem dX11_edges_24 : decode cX11_edges 24 = .ok (.aload_n 0, 1) := by decide +kernel
theorem dX11_edges_25 : decode cX11_edges 25 = .ok (.getfield 14, 3) := by decide +kernel
theorem dX11_edges_28 : decode cX11_edges 28 = .ok (.lload_n 1, 1) := by decide +kernel
theorem dX11_edges_29 : decode cX11_edges 29 = .ok (.putfield 73, 3) := by decide +kernel
theorem dX11_edges_32 : decode cX11_edges 32 = .ok (.iload_n 3, 1) := by decide +kernel
theorem dX11_edges_33 : decode cX11_edges 33 = .ok (.ireturn, 1) := by decide +kernel
set_option maxRecDepth 20000 in
theorem ggX11_set_X11_told : GoodIn wsX11_set wsX11_told := goodIn_r _ [8, 1, 2, 3, 9, 10, 11, 12, 13, 14, 15, 16, 17, 18, 19, 20, 21, 22, 23, 24, 25, 26, 27, 28, 29, 30, 31, 32, 33, 34, 35, 36, 37, 38, 39, 40, 41, 42, 43, 44, 45, 46, 47, 48, 49, 50] (by decide +kernel) (by decide +kernel)
set_option maxRecDepth 20000 in
theorem gX11_set_X11_told : GoodIn wsX11_set (wsV RX11 81 RX11 yX11_told wsX11_told) := goodIn_app (goodIn_of _ (by decide +kernel)) ggX11_set_X11_told
theorem dX11_set_0 : decode cX11_set 0 = .ok (.iload_n 1, 1) := by decide +kernel
theorem dX11_set_1 : decode cX11_set 1 = .ok (.ifCond .lt 8, 3) := by decide +kernel
theorem dX11_set_4 : decode cX11_set 4 = .ok (.iload_n 1, 1) := by decide +kernel
theorem dX11_set_5 : decode cX11_set 5 = .ok (.iconst 1, 1) := by decide +kernel
theorem dX11_set_6 : decode cX11_set 6 = .ok (.if_icmp .le 5, 3) := by decide +kernel
theorem dX11_set_9 : decode cX11_set 9 = .ok (.iconst (-1), 1) := by decide +kernel
theorem dX11_set_10 : decode cX11_set 10 = .ok (.ireturn, 1) := by decide +kernel
theorem dX11_set_11 : decode cX11_set 11 = .ok (.iload_n 2, 1) := by decide +kernel
theorem dX11_set_12 : decode cX11_set 12 = .ok (.ifCond .lt 9, 3) := by decide +kernel
theorem dX11_set_15 : decode cX11_set 15 = .ok (.iload_n 2, 1) := by decide +kernel
theorem dX11_set_16 : decode cX11_set 16 = .ok (.bipush 9, 2) := by decide +kernel
theorem dX11_set_18 : decode cX11_set 18 = .ok (.if_icmp .le 6, 3) := by decide +kernel
theorem dX11_set_21 : decode cX11_set 21 = .ok (.bipush (-2), 2) := by decide +kernel
theorem dX11_set_23 : decode cX11_set 23 = .ok (.ireturn, 1) := by decide +kernel
theorem dX11_set_24 : decode cX11_set 24 = .ok (.aload_n 0, 1) := by decide +kernel
theorem dX11_set_25 : decode cX11_set 25 = .ok (.iload_n 1, 1) := by decide +kernel
theorem dX11_set_26 : decode cX11_set 26 = .ok (.invokevirtual 81, 3) := by decide +kernel
theorem dX11_set_29 : decode cX11_set 29 = .ok (.istore_n 3, 1) := by decide +kernel
theorem dX11_set_30 : decode cX11_set 30 = .ok (.iload_n 1, 1) := by decide +kernel
theorem dX11_set_31 : decode cX11_set 31 = .ok (.ifCond .ne 14, 3) := by decide +kernel
theorem dX11_set_34 : decode cX11_set 34 = .ok (.aload_n 0, 1) := by decide +kernel
theorem dX11_set_35 : decode cX11_set 35 = .ok (.getfield 14, 3) := by decide +kernel
theorem dX11_set_38 : decode cX11_set 38 = .ok (.iload_n 2, 1) := by decide +kernel
theorem dX11_set_39 : decode cX11_set 39 = .ok (.putfield 85, 3) := by decide +kernel
theorem dX11_set_42 : decode cX11_set 42 = .ok (.goto 11, 3) := by decide +kernel
theorem dX11_set_45 : decode cX11_set 45 = .ok (.aload_n 0, 1) := by decide +kernel
theorem dX11_set_46 : decode cX11_set 46 = .ok (.getfield 14, 3) := by decide +kernel
theorem dX11_set_49 : decode cX11_set 49 = .ok (.iload_n 2, 1) := by decide +kernel
theorem dX11_set_50 : decode cX11_set 50 = .ok (.putfield 88, 3) := by decide +kernel
theorem dX11_set_53 : decode cX11_set 53 = .ok (.iload_n 3, 1) := by decide +kernel
theorem dX11_set_54 : decode cX11_set 54 = .ok (.ireturn, 1) := by decide +kernel
set_option maxRecDepth 20000 in
theorem ggX11_told_J13_bitCount_95d88 : GoodIn wsX11_told wsJ13_bitCount_95d88 := goodIn_r _ [10, 11, 12, 13] (by decide +kernel) (by decide +kernel)
set_option maxRecDepth 20000 in
theorem gX11_told_J13_bitCount_95d88 : GoodIn wsX11_told (va_wsS RX11 77 yJ13_bitCount_95d88 wsJ13_bitCount_95d88) := goodIn_app (goodIn_of _ (by decide +kernel)) ggX11_told_J13_bitCount_95d88
theorem dX11_told_0 : decode cX11_told 0 = .ok (.iload_n 1, 1) := by decide +kernel
theorem dX11_told_1 : decode cX11_told 1 = .ok (.tableswitch 69 0 3 #[31, 39, 47, 58], 31) := by decide +kernel
theorem dX11_told_32 : decode cX11_told 32 = .ok (.aload_n 0, 1) := by decide +kernel
theorem dX11_told_33 : decode cX11_told 33 = .ok (.getfield 14, 3) := by decide +kernel
theorem dX11_told_36 : decode cX11_told 36 = .ok (.getfield 85, 3) := by decide +kernel
theorem dX11_told_39 : decode cX11_told 39 = .ok (.ireturn, 1) := by decide +kernel
theorem dX11_told_40 : decode cX11_told 40 = .ok (.aload_n 0, 1) := by decide +kernel
theorem dX11_told_41 : decode cX11_told 41 = .ok (.getfield 14, 3) := by decide +kernel
theorem dX11_told_44 : decode cX11_told 44 = .ok (.getfield 88, 3) := by decide +kernel
theorem dX11_told_47 : decode cX11_told 47 = .ok (.ireturn, 1) := by decide +kernel
theorem dX11_told_48 : decode cX11_told 48 = .ok (.aload_n 0, 1) := by decide +kernel
theorem dX11_told_49 : decode cX11_told 49 = .ok (.getfield 14, 3) := by decide +kernel
theorem dX11_told_52 : decode cX11_told 52 = .ok (.getfield 68, 3) := by decide +kernel
theorem dX11_told_55 : decode cX11_told 55 = .ok (.getfield 91, 3) := by decide +kernel
theorem dX11_told_58 : decode cX11_told 58 = .ok (.ireturn, 1) := by decide +kernel
theorem dX11_told_59 : decode cX11_told 59 = .ok (.aload_n 0, 1) := by decide +kernel
theorem dX11_told_60 : decode cX11_told 60 = .ok (.getfield 14, 3) := by decide +kernel
theorem dX11_told_63 : decode cX11_told 63 = .ok (.getfield 73, 3) := by decide +kernel
theorem dX11_told_66 : decode cX11_told 66 = .ok (.invokestatic 77, 3) := by decide +kernel
theorem dX11_told_69 : decode cX11_told 69 = .ok (.ireturn, 1) := by decide +kernel
theorem dX11_told_70 : decode cX11_told 70 = .ok (.iconst (-1), 1) := by decide +kernel
theorem dX11_told_71 : decode cX11_told 71 = .ok (.ireturn, 1) := by decide +kernel
set_option maxRecDepth 20000 in
theorem ggX11_heap_X11_isCell : GoodIn wsX11_heap wsX11_isCell := goodIn_r _ [7] (by decide +kernel) (by decide +kernel)
set_option maxRecDepth 20000 in
theorem gX11_heap_X11_isCell : GoodIn wsX11_heap (va_wsS RX11 94 yX11_isCell wsX11_isCell) := goodIn_app (goodIn_of _ (by decide +kernel)) ggX11_heap_X11_isCell
set_option maxRecDepth 20000 in
theorem ggX11_heap_X8_isTaken : GoodIn wsX11_heap wsX8_isTaken := goodIn_r _ [12, 13, 14, 15, 81, 82, 83, 84, 85, 86, 87, 88, 89, 90, 91, 92, 93, 94, 95, 96, 97, 98, 99, 100, 101, 102, 103, 104, 105, 106, 107, 108, 109, 110, 111, 112, 113, 114, 115, 116, 117, 118, 119, 120, 121, 122] (by decide +kernel) (by decide +kernel)
set_option maxRecDepth 20000 in
theorem gX11_heap_X8_isTaken : GoodIn wsX11_heap (wsV RX11 98 RX8 yX8_isTaken wsX8_isTaken) := goodIn_app (goodIn_of _ (by decide +kernel)) ggX11_heap_X8_isTaken
set_option maxRecDepth 20000 in
theorem ggX11_heap_X11_heapOfKind : GoodIn wsX11_heap wsX11_heapOfKind := goodIn_r _ [18, 19, 20, 21, 22, 23, 24, 25, 26, 27, 28, 29, 30, 31, 32, 33, 34, 35, 36, 37, 38, 39, 40, 41, 42, 43, 44, 45, 46, 47, 48, 49, 50, 51, 52, 53, 54, 55, 56, 57, 58, 59, 60, 61, 62, 63, 64, 65, 66, 67, 68, 69, 70, 71, 72, 73, 103, 104, 105, 106, 107, 108, 109, 110, 95, 96, 97, 98, 119, 120, 121, 122, 115, 116, 117, 118, 111, 112, 113, 114, 99, 100, 101, 102] (by decide +kernel) (by decide +kernel)
set_option maxRecDepth 20000 in
theorem gX11_heap_X11_heapOfKind : GoodIn wsX11_heap (va_wsS RX11 108 yX11_heapOfKind wsX11_heapOfKind) := goodIn_app (goodIn_of _ (by decide +kernel)) ggX11_heap_X11_heapOfKind
theorem dX11_heap_0 : decode cX11_heap 0 = .ok (.iload_n 1, 1) := by decide +kernel
theorem dX11_heap_1 : decode cX11_heap 1 = .ok (.ifCond .lt 16, 3) := by decide +kernel
theorem dX11_heap_4 : decode cX11_heap 4 = .ok (.iload_n 1, 1) := by decide +kernel
theorem dX11_heap_5 : decode cX11_heap 5 = .ok (.bipush 7, 2) := by decide +kernel
theorem dX11_heap_7 : decode cX11_heap 7 = .ok (.if_icmp .ge 10, 3) := by decide +kernel
theorem dX11_heap_10 : decode cX11_heap 10 = .ok (.iload_n 3, 1) := by decide +kernel
theorem dX11_heap_11 : decode cX11_heap 11 = .ok (.invokestatic 94, 3) := by decide +kernel
theorem dX11_heap_14 : decode cX11_heap 14 = .ok (.ifCond .ne 5, 3) := by decide +kernel
theorem dX11_heap_17 : decode cX11_heap 17 = .ok (.iconst (-1), 1) := by decide +kernel
theorem dX11_heap_18 : decode cX11_heap 18 = .ok (.ireturn, 1) := by decide +kernel
theorem dX11_heap_19 : decode cX11_heap 19 = .ok (.iload_n 2, 1) := by decide +kernel
theorem dX11_heap_20 : decode cX11_heap 20 = .ok (.ifCond .lt 9, 3) := by decide +kernel
theorem dX11_heap_23 : decode cX11_heap 23 = .ok (.iload_n 2, 1) := by decide +kernel
theorem dX11_heap_24 : decode cX11_heap 24 = .ok (.bipush 9, 2) := by decide +kernel
theorem dX11_heap_26 : decode cX11_heap 26 = .ok (.if_icmp .le 6, 3) := by decide +kernel
theorem dX11_heap_29 : decode cX11_heap 29 = .ok (.bipush (-2), 2) := by decide +kernel
theorem dX11_heap_31 : decode cX11_heap 31 = .ok (.ireturn, 1) := by decide +kernel
theorem dX11_heap_32 : decode cX11_heap 32 = .ok (.aload_n 0, 1) := by decide +kernel
theorem dX11_heap_33 : decode cX11_heap 33 = .ok (.getfield 14, 3) := by decide +kernel
theorem dX11_heap_36 : decode cX11_heap 36 = .ok (.iload_n 3, 1) := by decide +kernel
theorem dX11_heap_37 : decode cX11_heap 37 = .ok (.invokevirtual 98, 3) := by decide +kernel
theorem dX11_heap_40 : decode cX11_heap 40 = .ok (.ifCond .eq 6, 3) := by decide +kernel
theorem dX11_heap_43 : decode cX11_heap 43 = .ok (.bipush (-3), 2) := by decide +kernel
theorem dX11_heap_45 : decode cX11_heap 45 = .ok (.ireturn, 1) := by decide +kernel
theorem dX11_heap_46 : decode cX11_heap 46 = .ok (.aload_n 0, 1) := by decide +kernel
theorem dX11_heap_47 : decode cX11_heap 47 = .ok (.getfield 14, 3) := by decide +kernel
theorem dX11_heap_50 : decode cX11_heap 50 = .ok (.getfield 101, 3) := by decide +kernel
theorem dX11_heap_53 : decode cX11_heap 53 = .ok (.bipush 8, 2) := by decide +kernel
theorem dX11_heap_55 : decode cX11_heap 55 = .ok (.if_icmp .lt 6, 3) := by decide +kernel
theorem dX11_heap_58 : decode cX11_heap 58 = .ok (.bipush (-4), 2) := by decide +kernel
theorem dX11_heap_60 : decode cX11_heap 60 = .ok (.ireturn, 1) := by decide +kernel
theorem dX11_heap_61 : decode cX11_heap 61 = .ok (.aload_n 0, 1) := by decide +kernel
theorem dX11_heap_62 : decode cX11_heap 62 = .ok (.getfield 14, 3) := by decide +kernel
theorem dX11_heap_65 : decode cX11_heap 65 = .ok (.getfield 104, 3) := by decide +kernel
theorem dX11_heap_68 : decode cX11_heap 68 = .ok (.aload_n 0, 1) := by decide +kernel
theorem dX11_heap_69 : decode cX11_heap 69 = .ok (.getfield 14, 3) := by decide +kernel
theorem dX11_heap_72 : decode cX11_heap 72 = .ok (.getfield 101, 3) := by decide +kernel
theorem dX11_heap_75 : decode cX11_heap 75 = .ok (.iload_n 1, 1) := by decide +kernel
theorem dX11_heap_76 : decode cX11_heap 76 = .ok (.aload_n 0, 1) := by decide +kernel
theorem dX11_heap_77 : decode cX11_heap 77 = .ok (.getfield 14, 3) := by decide +kernel
theorem dX11_heap_80 : decode cX11_heap 80 = .ok (.getfield 101, 3) := by decide +kernel
theorem dX11_heap_83 : decode cX11_heap 83 = .ok (.iload_n 2, 1) := by decide +kernel
theorem dX11_heap_84 : decode cX11_heap 84 = .ok (.iload_n 3, 1) := by decide +kernel
theorem dX11_heap_85 : decode cX11_heap 85 = .ok (.invokestatic 108, 3) := by decide +kernel
theorem dX11_heap_88 : decode cX11_heap 88 = .ok (.aastore, 1) := by decide +kernel
theorem dX11_heap_89 : decode cX11_heap 89 = .ok (.aload_n 0, 1) := by decide +kernel
theorem dX11_heap_90 : decode cX11_heap 90 = .ok (.getfield 14, 3) := by decide +kernel
theorem dX11_heap_93 : decode cX11_heap 93 = .ok (.dup, 1) := by decide +kernel
theorem dX11_heap_94 : decode cX11_heap 94 = .ok (.getfield 101, 3) := by decide +kernel
theorem dX11_heap_97 : decode cX11_heap 97 = .ok (.iconst 1, 1) := by decide +kernel
theorem dX11_heap_98 : decode cX11_heap 98 = .ok (.iadd, 1) := by decide +kernel
theorem dX11_heap_99 : decode cX11_heap 99 = .ok (.putfield 101, 3) := by decide +kernel
theorem dX11_heap_102 : decode cX11_heap 102 = .ok (.aload_n 0, 1) := by decide +kernel
theorem dX11_heap_103 : decode cX11_heap 103 = .ok (.getfield 14, 3) := by decide +kernel
theorem dX11_heap_106 : decode cX11_heap 106 = .ok (.getfield 101, 3) := by decide +kernel
theorem dX11_heap_109 : decode cX11_heap 109 = .ok (.iconst 1, 1) := by decide +kernel
theorem dX11_heap_110 : decode cX11_heap 110 = .ok (.isub, 1) := by decide +kernel
theorem dX11_heap_111 : decode cX11_heap 111 = .ok (.ireturn, 1) := by decide +kernel
set_option maxRecDepth 20000 in
theorem ggX11_of_X8_heapAt : GoodIn wsX11_of wsX8_heapAt := goodIn_r _ [10, 11, 12, 129, 130, 131, 132, 133, 134, 135, 136, 137, 138, 139, 140, 141, 142] (by decide +kernel) (by decide +kernel)
set_option maxRecDepth 20000 in
theorem gX11_of_X8_heapAt : GoodIn wsX11_of (wsV RX11 112 RX8 yX8_heapAt wsX8_heapAt) := goodIn_app (goodIn_of _ (by decide +kernel)) ggX11_of_X8_heapAt
set_option maxRecDepth 20000 in
theorem ggX11_of_X8_reachOf : GoodIn wsX11_of wsX8_reachOf := goodIn_r _ [16, 17, 18, 19, 20, 21, 22, 23, 24, 25, 26, 9, 27, 28, 29, 30, 31, 32, 33, 34, 35, 36, 37, 38, 39, 40, 41, 42, 43, 44, 45, 46, 47, 48, 49, 50, 51, 52, 53, 54, 55, 56, 57, 58, 59, 60, 61, 62, 63, 64, 65, 66, 67, 68, 69, 70, 71, 72, 73, 74, 75, 76, 77, 78, 79, 80, 81, 82, 83, 84, 85, 86, 87, 88, 89, 90, 91, 92, 93, 101, 102, 103, 104, 105, 106, 107, 108, 109, 110, 111, 112, 113, 114, 115, 116, 117, 118, 119, 120, 121, 122, 123, 124, 125, 126, 127, 128, 129, 130, 131, 132, 133, 134, 135, 136, 137, 138, 139, 140, 141, 142, 143, 144, 145, 146, 147, 148, 149, 150, 151, 152, 153] (by decide +kernel) (by decide +kernel)
set_option maxRecDepth 20000 in
theorem gX11_of_X8_reachOf : GoodIn wsX11_of (wsV RX11 127 RX8 yX8_reachOf wsX8_reachOf) := goodIn_app (goodIn_of _ (by decide +kernel)) ggX11_of_X8_reachOf
theorem dX11_of_0 : decode cX11_of 0 = .ok (.aload_n 0, 1) := by decide +kernel
theorem dX11_of_1 : decode cX11_of 1 = .ok (.getfield 14, 3) := by decide +kernel
theorem dX11_of_4 : decode cX11_of 4 = .ok (.iload_n 1, 1) := by decide +kernel
theorem dX11_of_5 : decode cX11_of 5 = .ok (.invokevirtual 112, 3) := by decide +kernel
theorem dX11_of_8 : decode cX11_of 8 = .ok (.astore_n 3, 1) := by decide +kernel
theorem dX11_of_9 : decode cX11_of 9 = .ok (.aload_n 3, 1) := by decide +kernel
theorem dX11_of_10 : decode cX11_of 10 = .ok (.ifnonnull 5, 3) := by decide +kernel
theorem dX11_of_13 : decode cX11_of 13 = .ok (.iconst (-1), 1) := by decide +kernel
theorem dX11_of_14 : decode cX11_of 14 = .ok (.ireturn, 1) := by decide +kernel
theorem dX11_of_15 : decode cX11_of 15 = .ok (.iload_n 2, 1) := by decide +kernel
theorem dX11_of_16 : decode cX11_of 16 = .ok (.tableswitch 63 0 3 #[32, 37, 42, 47], 32) := by decide +kernel
theorem dX11_of_48 : decode cX11_of 48 = .ok (.aload_n 3, 1) := by decide +kernel
theorem dX11_of_49 : decode cX11_of 49 = .ok (.getfield 116, 3) := by decide +kernel
theorem dX11_of_52 : decode cX11_of 52 = .ok (.ireturn, 1) := by decide +kernel
theorem dX11_of_53 : decode cX11_of 53 = .ok (.aload_n 3, 1) := by decide +kernel
theorem dX11_of_54 : decode cX11_of 54 = .ok (.getfield 121, 3) := by decide +kernel
theorem dX11_of_57 : decode cX11_of 57 = .ok (.ireturn, 1) := by decide +kernel
theorem dX11_of_58 : decode cX11_of 58 = .ok (.aload_n 3, 1) := by decide +kernel
theorem dX11_of_59 : decode cX11_of 59 = .ok (.getfield 124, 3) := by decide +kernel
theorem dX11_of_62 : decode cX11_of 62 = .ok (.ireturn, 1) := by decide +kernel
theorem dX11_of_63 : decode cX11_of 63 = .ok (.aload_n 0, 1) := by decide +kernel
theorem dX11_of_64 : decode cX11_of 64 = .ok (.getfield 14, 3) := by decide +kernel
theorem dX11_of_67 : decode cX11_of 67 = .ok (.aload_n 3, 1) := by decide +kernel
theorem dX11_of_68 : decode cX11_of 68 = .ok (.aload_n 0, 1) := by decide +kernel
theorem dX11_of_69 : decode cX11_of 69 = .ok (.getfield 14, 3) := by decide +kernel
theorem dX11_of_72 : decode cX11_of 72 = .ok (.getfield 88, 3) := by decide +kernel
theorem dX11_of_75 : decode cX11_of 75 = .ok (.invokevirtual 127, 3) := by decide +kernel
theorem dX11_of_78 : decode cX11_of 78 = .ok (.ireturn, 1) := by decide +kernel
theorem dX11_of_79 : decode cX11_of 79 = .ok (.iconst (-1), 1) := by decide +kernel
theorem dX11_of_80 : decode cX11_of 80 = .ok (.ireturn, 1) := by decide +kernel
set_option maxRecDepth 20000 in
theorem ggX11_sees_X11_isCell : GoodIn wsX11_sees wsX11_isCell := goodIn_r _ [7] (by decide +kernel) (by decide +kernel)
set_option maxRecDepth 20000 in
theorem gX11_sees_X11_isCell : GoodIn wsX11_sees (va_wsS RX11 94 yX11_isCell wsX11_isCell) := goodIn_app (goodIn_of _ (by decide +kernel)) ggX11_sees_X11_isCell
set_option maxRecDepth 20000 in
theorem ggX11_sees_X2_measure : GoodIn wsX11_sees wsX2_measure := goodIn_r _ [12, 13, 14, 15, 16, 17, 18, 19, 20, 21, 22, 23, 24, 25, 26, 27, 28, 29, 30, 31, 32, 6, 33, 34, 35, 36, 37, 38, 39, 40, 41, 42, 43, 44, 45, 46, 47, 48, 49, 50, 51, 52, 53, 54, 55, 56, 57, 58, 59, 60, 61, 62, 63, 64, 65, 66, 67, 68, 69, 70, 71, 72, 73, 74, 75, 76, 77, 78, 79, 80, 81, 82, 83, 84, 85, 86, 87, 88, 89, 90, 91, 92, 93, 94, 95, 96, 117, 118, 119, 120, 121, 122, 123, 124, 125, 126, 127, 128, 129, 130, 131, 132, 133, 134, 135, 136, 137, 138, 139, 140, 141, 142, 143, 144, 145, 146, 147, 148, 149, 150, 151, 152, 153, 154, 155, 156, 157, 158, 159, 160, 161, 162, 163, 164, 165, 166, 167, 168, 169, 170, 171, 172, 173] (by decide +kernel) (by decide +kernel)
set_option maxRecDepth 20000 in
theorem gX11_sees_X2_measure : GoodIn wsX11_sees (wsV RX11 131 RX2 yX2_measure wsX2_measure) := goodIn_app (goodIn_of _ (by decide +kernel)) ggX11_sees_X2_measure
set_option maxRecDepth 20000 in
theorem ggX11_sees_X2_seenFrom : GoodIn wsX11_sees wsX2_seenFrom := goodIn_r _ [100, 13, 15, 101, 14, 102, 6, 103, 104, 105, 61, 106, 107, 60, 62, 108, 32, 33, 109, 34, 35, 117, 118, 119, 120, 121, 122, 123, 124, 125, 126, 127, 128, 129, 130, 135, 136, 137, 138, 139, 140, 141, 142, 143, 144, 145, 146, 147, 148, 149, 150, 151, 152, 153, 154, 155, 156, 157, 158, 159, 160, 161, 162, 131, 132, 133, 134] (by decide +kernel) (by decide +kernel)
set_option maxRecDepth 20000 in
theorem gX11_sees_X2_seenFrom : GoodIn wsX11_sees (wsV RX11 135 RX2 yX2_seenFrom wsX2_seenFrom) := goodIn_app (goodIn_of _ (by decide +kernel)) ggX11_sees_X2_seenFrom
theorem dX11_sees_0 : decode cX11_sees 0 = .ok (.iload_n 1, 1) := by decide +kernel
theorem dX11_sees_1 : decode cX11_sees 1 = .ok (.invokestatic 94, 3) := by decide +kernel
theorem dX11_sees_4 : decode cX11_sees 4 = .ok (.ifCond .ne 5, 3) := by decide +kernel
theorem dX11_sees_7 : decode cX11_sees 7 = .ok (.iconst (-1), 1) := by decide +kernel
theorem dX11_sees_8 : decode cX11_sees 8 = .ok (.ireturn, 1) := by decide +kernel
theorem dX11_sees_9 : decode cX11_sees 9 = .ok (.aload_n 0, 1) := by decide +kernel
theorem dX11_sees_10 : decode cX11_sees 10 = .ok (.getfield 35, 3) := by decide +kernel
theorem dX11_sees_13 : decode cX11_sees 13 = .ok (.aload_n 0, 1) := by decide +kernel
theorem dX11_sees_14 : decode cX11_sees 14 = .ok (.getfield 14, 3) := by decide +kernel
theorem dX11_sees_17 : decode cX11_sees 17 = .ok (.aload_n 0, 1) := by decide +kernel
theorem dX11_sees_18 : decode cX11_sees 18 = .ok (.getfield 14, 3) := by decide +kernel
theorem dX11_sees_21 : decode cX11_sees 21 = .ok (.getfield 88, 3) := by decide +kernel
theorem dX11_sees_24 : decode cX11_sees 24 = .ok (.invokevirtual 131, 3) := by decide +kernel
theorem dX11_sees_27 : decode cX11_sees 27 = .ok (.aload_n 0, 1) := by decide +kernel
theorem dX11_sees_28 : decode cX11_sees 28 = .ok (.getfield 35, 3) := by decide +kernel
theorem dX11_sees_31 : decode cX11_sees 31 = .ok (.aload_n 0, 1) := by decide +kernel
theorem dX11_sees_32 : decode cX11_sees 32 = .ok (.getfield 14, 3) := by decide +kernel
theorem dX11_sees_35 : decode cX11_sees 35 = .ok (.iload_n 1, 1) := by decide +kernel
theorem dX11_sees_36 : decode cX11_sees 36 = .ok (.invokevirtual 135, 3) := by decide +kernel
theorem dX11_sees_39 : decode cX11_sees 39 = .ok (.ireturn, 1) := by decide +kernel
set_option maxRecDepth 20000 in
theorem ggX11_where_X2_measure : GoodIn wsX11_where wsX2_measure := goodIn_r _ [10, 11, 12, 13, 14, 15, 16, 17, 18, 19, 20, 21, 22, 23, 24, 25, 26, 27, 28, 29, 30, 31, 32, 33, 34, 35, 36, 37, 38, 39, 40, 41, 42, 43, 44, 45, 46, 47, 48, 49, 50, 51, 52, 53, 54, 55, 56, 57, 58, 59, 60, 61, 62, 63, 64, 65, 66, 67, 68, 69, 70, 71, 72, 73, 74, 75, 76, 77, 78, 79, 80, 81, 82, 83, 84, 85, 86, 87, 88, 89, 90, 91, 92, 93, 94, 95, 116, 117, 118, 119, 120, 121, 122, 123, 124, 125, 126, 127, 128, 129, 130, 131, 132, 133, 134, 135, 136, 137, 138, 139, 140, 141, 142, 143, 144, 145, 146, 147, 148, 149, 150, 151, 152, 153, 154, 155, 156, 157, 158, 159, 160, 161, 162, 163, 164, 165, 166, 167, 168, 169, 170, 171, 172] (by decide +kernel) (by decide +kernel)
set_option maxRecDepth 20000 in
theorem gX11_where_X2_measure : GoodIn wsX11_where (wsV RX11 131 RX2 yX2_measure wsX2_measure) := goodIn_app (goodIn_of _ (by decide +kernel)) ggX11_where_X2_measure
set_option maxRecDepth 20000 in
theorem ggX11_where_X2_seenFrom : GoodIn wsX11_where wsX2_seenFrom := goodIn_r _ [99, 11, 13, 100, 12, 101, 31, 102, 103, 104, 60, 105, 106, 59, 61, 107, 30, 32, 108, 33, 34, 116, 117, 118, 119, 120, 121, 122, 123, 124, 125, 126, 127, 128, 129, 134, 135, 136, 137, 138, 139, 140, 141, 142, 143, 144, 145, 146, 147, 148, 149, 150, 151, 152, 153, 154, 155, 156, 157, 158, 159, 160, 161, 130, 131, 132, 133] (by decide +kernel) (by decide +kernel)
set_option maxRecDepth 20000 in
theorem gX11_where_X2_seenFrom : GoodIn wsX11_where (wsV RX11 135 RX2 yX2_seenFrom wsX2_seenFrom) := goodIn_app (goodIn_of _ (by decide +kernel)) ggX11_where_X2_seenFrom
theorem dX11_where_0 : decode cX11_where 0 = .ok (.iload_n 1, 1) := by decide +kernel
theorem dX11_where_1 : decode cX11_where 1 = .ok (.ifCond .lt 16, 3) := by decide +kernel
theorem dX11_where_4 : decode cX11_where 4 = .ok (.iload_n 1, 1) := by decide +kernel
theorem dX11_where_5 : decode cX11_where 5 = .ok (.iconst 1, 1) := by decide +kernel
theorem dX11_where_6 : decode cX11_where 6 = .ok (.aload_n 0, 1) := by decide +kernel
theorem dX11_where_7 : decode cX11_where 7 = .ok (.getfield 14, 3) := by decide +kernel
theorem dX11_where_10 : decode cX11_where 10 = .ok (.getfield 101, 3) := by decide +kernel
theorem dX11_where_13 : decode cX11_where 13 = .ok (.ishl, 1) := by decide +kernel
theorem dX11_where_14 : decode cX11_where 14 = .ok (.if_icmp .lt 7, 3) := by decide +kernel
theorem dX11_where_17 : decode cX11_where 17 = .ok (.ldc2_w 139, 3) := by decide +kernel
theorem dX11_where_20 : decode cX11_where 20 = .ok (.lreturn, 1) := by decide +kernel
theorem dX11_where_21 : decode cX11_where 21 = .ok (.aload_n 0, 1) := by decide +kernel
theorem dX11_where_22 : decode cX11_where 22 = .ok (.getfield 35, 3) := by decide +kernel
theorem dX11_where_25 : decode cX11_where 25 = .ok (.aload_n 0, 1) := by decide +kernel
theorem dX11_where_26 : decode cX11_where 26 = .ok (.getfield 14, 3) := by decide +kernel
theorem dX11_where_29 : decode cX11_where 29 = .ok (.aload_n 0, 1) := by decide +kernel
theorem dX11_where_30 : decode cX11_where 30 = .ok (.getfield 14, 3) := by decide +kernel
theorem dX11_where_33 : decode cX11_where 33 = .ok (.getfield 88, 3) := by decide +kernel
theorem dX11_where_36 : decode cX11_where 36 = .ok (.invokevirtual 131, 3) := by decide +kernel
theorem dX11_where_39 : decode cX11_where 39 = .ok (.lconst 0, 1) := by decide +kernel
theorem dX11_where_40 : decode cX11_where 40 = .ok (.lstore_n 2, 1) := by decide +kernel
theorem dX11_where_41 : decode cX11_where 41 = .ok (.iconst 0, 1) := by decide +kernel
theorem dX11_where_42 : decode cX11_where 42 = .ok (.istore 4, 2) := by decide +kernel
theorem dX11_where_44 : decode cX11_where 44 = .ok (.iload 4, 2) := by decide +kernel
theorem dX11_where_46 : decode cX11_where 46 = .ok (.bipush 36, 2) := by decide +kernel
theorem dX11_where_48 : decode cX11_where 48 = .ok (.if_icmp .ge 33, 3) := by decide +kernel
theorem dX11_where_51 : decode cX11_where 51 = .ok (.aload_n 0, 1) := by decide +kernel
theorem dX11_where_52 : decode cX11_where 52 = .ok (.getfield 35, 3) := by decide +kernel
theorem dX11_where_55 : decode cX11_where 55 = .ok (.aload_n 0, 1) := by decide +kernel
theorem dX11_where_56 : decode cX11_where 56 = .ok (.getfield 14, 3) := by decide +kernel
theorem dX11_where_59 : decode cX11_where 59 = .ok (.iload 4, 2) := by decide +kernel
theorem dX11_where_61 : decode cX11_where 61 = .ok (.invokevirtual 135, 3) := by decide +kernel
theorem dX11_where_64 : decode cX11_where 64 = .ok (.iload_n 1, 1) := by decide +kernel
theorem dX11_where_65 : decode cX11_where 65 = .ok (.if_icmp .ne 10, 3) := by decide +kernel
theorem dX11_where_68 : decode cX11_where 68 = .ok (.lload_n 2, 1) := by decide +kernel
theorem dX11_where_69 : decode cX11_where 69 = .ok (.lconst 1, 1) := by decide +kernel
theorem dX11_where_70 : decode cX11_where 70 = .ok (.iload 4, 2) := by decide +kernel
theorem dX11_where_72 : decode cX11_where 72 = .ok (.lshl, 1) := by decide +kernel
theorem dX11_where_73 : decode cX11_where 73 = .ok (.lor, 1) := by decide +kernel
theorem dX11_where_74 : decode cX11_where 74 = .ok (.lstore_n 2, 1) := by decide +kernel
theorem dX11_where_75 : decode cX11_where 75 = .ok (.iinc 4 1, 3) := by decide +kernel
theorem dX11_where_78 : decode cX11_where 78 = .ok (.goto (-34), 3) := by decide +kernel
theorem dX11_where_81 : decode cX11_where 81 = .ok (.lload_n 2, 1) := by decide +kernel
theorem dX11_where_82 : decode cX11_where 82 = .ok (.lreturn, 1) := by decide +kernel
set_option maxRecDepth 20000 in
theorem ggX11_steps_X8_areHeaps : GoodIn wsX11_steps wsX8_areHeaps := goodIn_r _ [8, 9, 10, 11, 7, 12, 13, 14, 165, 166, 167, 168, 169, 170, 171, 172, 173, 174, 175, 176, 177, 178] (by decide +kernel) (by decide +kernel)
set_option maxRecDepth 20000 in
theorem gX11_steps_X8_areHeaps : GoodIn wsX11_steps (wsV RX11 141 RX8 yX8_areHeaps wsX8_areHeaps) := goodIn_app (goodIn_of _ (by decide +kernel)) ggX11_steps_X8_areHeaps
set_option maxRecDepth 20000 in
theorem ggX11_steps_X2_link : GoodIn wsX11_steps wsX2_link := goodIn_r _ [19, 20, 21, 22, 23, 24, 25, 26, 18, 27, 28, 29, 30, 31, 7, 32, 33, 34, 35, 36, 37, 38, 39, 40, 41, 42, 43, 44, 45, 46, 47, 48, 49, 50, 51, 52, 53, 54, 55, 56, 57, 58, 59, 60, 61, 62, 63, 64, 65, 66, 67, 68, 69, 70, 71, 72, 73, 74, 75, 76, 77, 78, 79, 80, 81, 82, 83, 84, 85, 86, 87, 88, 89, 90, 91, 92, 93, 94, 95, 96, 97, 98, 99, 100, 101, 102, 103, 104, 105, 106, 107, 108, 109, 110, 111, 112, 113, 114, 115, 116, 117, 118, 119, 120, 121, 122, 123, 124, 125, 126, 127, 128, 129, 130, 131, 132, 133, 134, 135, 136, 137, 138, 139, 140, 141, 142, 143, 144, 145, 146, 147, 148, 149, 165, 166, 167, 168, 169, 170, 171, 172, 173, 174, 175, 176, 177, 178, 179, 180, 181, 182, 183, 184, 185, 186, 187, 188, 189, 190, 191, 192, 193, 194, 195, 196, 197, 198, 199, 200, 201, 202, 203, 204, 205, 206, 207, 208, 209, 210, 211, 212, 213, 214, 215, 216, 217, 218, 219, 220, 221] (by decide +kernel) (by decide +kernel)
set_option maxRecDepth 20000 in
theorem gX11_steps_X2_link : GoodIn wsX11_steps (wsV RX11 145 RX2 yX2_link wsX2_link) := goodIn_app (goodIn_of _ (by decide +kernel)) ggX11_steps_X2_link
set_option maxRecDepth 20000 in
theorem ggX11_steps_X2_fewest : GoodIn wsX11_steps wsX2_fewest := goodIn_r _ [153, 154, 155, 156, 18, 157, 21, 22, 179, 180, 181, 182] (by decide +kernel) (by decide +kernel)
set_option maxRecDepth 20000 in
theorem gX11_steps_X2_fewest : GoodIn wsX11_steps (wsV RX11 148 RX2 yX2_fewest wsX2_fewest) := goodIn_app (goodIn_of _ (by decide +kernel)) ggX11_steps_X2_fewest
theorem dX11_steps_0 : decode cX11_steps 0 = .ok (.aload_n 0, 1) := by decide +kernel
theorem dX11_steps_1 : decode cX11_steps 1 = .ok (.getfield 14, 3) := by decide +kernel
theorem dX11_steps_4 : decode cX11_steps 4 = .ok (.iload_n 1, 1) := by decide +kernel
theorem dX11_steps_5 : decode cX11_steps 5 = .ok (.iload_n 2, 1) := by decide +kernel
theorem dX11_steps_6 : decode cX11_steps 6 = .ok (.invokevirtual 141, 3) := by decide +kernel
theorem dX11_steps_9 : decode cX11_steps 9 = .ok (.ifCond .ne 5, 3) := by decide +kernel
theorem dX11_steps_12 : decode cX11_steps 12 = .ok (.iconst (-1), 1) := by decide +kernel
theorem dX11_steps_13 : decode cX11_steps 13 = .ok (.ireturn, 1) := by decide +kernel
theorem dX11_steps_14 : decode cX11_steps 14 = .ok (.aload_n 0, 1) := by decide +kernel
theorem dX11_steps_15 : decode cX11_steps 15 = .ok (.getfield 35, 3) := by decide +kernel
theorem dX11_steps_18 : decode cX11_steps 18 = .ok (.aload_n 0, 1) := by decide +kernel
theorem dX11_steps_19 : decode cX11_steps 19 = .ok (.getfield 14, 3) := by decide +kernel
theorem dX11_steps_22 : decode cX11_steps 22 = .ok (.aload_n 0, 1) := by decide +kernel
theorem dX11_steps_23 : decode cX11_steps 23 = .ok (.getfield 14, 3) := by decide +kernel
theorem dX11_steps_26 : decode cX11_steps 26 = .ok (.getfield 88, 3) := by decide +kernel
theorem dX11_steps_29 : decode cX11_steps 29 = .ok (.invokevirtual 145, 3) := by decide +kernel
theorem dX11_steps_32 : decode cX11_steps 32 = .ok (.aload_n 0, 1) := by decide +kernel
theorem dX11_steps_33 : decode cX11_steps 33 = .ok (.getfield 35, 3) := by decide +kernel
theorem dX11_steps_36 : decode cX11_steps 36 = .ok (.iload_n 1, 1) := by decide +kernel
theorem dX11_steps_37 : decode cX11_steps 37 = .ok (.iload_n 2, 1) := by decide +kernel
theorem dX11_steps_38 : decode cX11_steps 38 = .ok (.iconst 0, 1) := by decide +kernel
theorem dX11_steps_39 : decode cX11_steps 39 = .ok (.invokevirtual 148, 3) := by decide +kernel
theorem dX11_steps_42 : decode cX11_steps 42 = .ok (.ireturn, 1) := by decide +kernel
set_option maxRecDepth 20000 in
theorem ggX11_via_X8_areHeaps : GoodIn wsX11_via wsX8_areHeaps := goodIn_r _ [8, 9, 10, 11, 7, 12, 13, 14, 173, 174, 175, 176, 177, 178, 179, 180, 181, 182, 183, 184, 185, 186] (by decide +kernel) (by decide +kernel)
set_option maxRecDepth 20000 in
theorem gX11_via_X8_areHeaps : GoodIn wsX11_via (wsV RX11 141 RX8 yX8_areHeaps wsX8_areHeaps) := goodIn_app (goodIn_of _ (by decide +kernel)) ggX11_via_X8_areHeaps
set_option maxRecDepth 20000 in
theorem ggX11_via_X2_link : GoodIn wsX11_via wsX2_link := goodIn_r _ [19, 20, 21, 22, 23, 24, 25, 26, 18, 27, 28, 29, 30, 31, 7, 32, 33, 34, 35, 36, 37, 38, 39, 40, 41, 42, 43, 44, 45, 46, 47, 48, 49, 50, 51, 52, 53, 54, 55, 56, 57, 58, 59, 60, 61, 62, 63, 64, 65, 66, 67, 68, 69, 70, 71, 72, 73, 74, 75, 76, 77, 78, 79, 80, 81, 82, 83, 84, 85, 86, 87, 88, 89, 90, 91, 92, 93, 94, 95, 96, 97, 98, 99, 100, 101, 102, 103, 104, 105, 106, 107, 108, 109, 110, 111, 112, 113, 114, 115, 116, 117, 118, 119, 120, 121, 122, 123, 124, 125, 126, 127, 128, 129, 130, 131, 132, 133, 134, 135, 136, 137, 138, 139, 140, 141, 142, 143, 144, 145, 146, 147, 148, 149, 173, 174, 175, 176, 177, 178, 179, 180, 181, 182, 183, 184, 185, 186, 187, 188, 189, 190, 191, 192, 193, 194, 195, 196, 197, 198, 199, 200, 201, 202, 203, 204, 205, 206, 207, 208, 209, 210, 211, 212, 213, 214, 215, 216, 217, 218, 219, 220, 221, 222, 223, 224, 225, 226, 227, 228, 229] (by decide +kernel) (by decide +kernel)
set_option maxRecDepth 20000 in
theorem gX11_via_X2_link : GoodIn wsX11_via (wsV RX11 145 RX2 yX2_link wsX2_link) := goodIn_app (goodIn_of _ (by decide +kernel)) ggX11_via_X2_link
set_option maxRecDepth 20000 in
theorem ggX11_via_X2_first : GoodIn wsX11_via wsX2_first := goodIn_r _ [153, 21, 154, 155, 156, 18, 157, 158, 159, 160, 161, 22, 162, 163, 164, 165, 187, 188, 189, 190] (by decide +kernel) (by decide +kernel)
set_option maxRecDepth 20000 in
theorem gX11_via_X2_first : GoodIn wsX11_via (wsV RX11 152 RX2 yX2_first wsX2_first) := goodIn_app (goodIn_of _ (by decide +kernel)) ggX11_via_X2_first
theorem dX11_via_0 : decode cX11_via 0 = .ok (.aload_n 0, 1) := by decide +kernel
theorem dX11_via_1 : decode cX11_via 1 = .ok (.getfield 14, 3) := by decide +kernel
theorem dX11_via_4 : decode cX11_via 4 = .ok (.iload_n 1, 1) := by decide +kernel
theorem dX11_via_5 : decode cX11_via 5 = .ok (.iload_n 2, 1) := by decide +kernel
theorem dX11_via_6 : decode cX11_via 6 = .ok (.invokevirtual 141, 3) := by decide +kernel
theorem dX11_via_9 : decode cX11_via 9 = .ok (.ifCond .ne 5, 3) := by decide +kernel
theorem dX11_via_12 : decode cX11_via 12 = .ok (.iconst (-1), 1) := by decide +kernel
theorem dX11_via_13 : decode cX11_via 13 = .ok (.ireturn, 1) := by decide +kernel
theorem dX11_via_14 : decode cX11_via 14 = .ok (.aload_n 0, 1) := by decide +kernel
theorem dX11_via_15 : decode cX11_via 15 = .ok (.getfield 35, 3) := by decide +kernel
theorem dX11_via_18 : decode cX11_via 18 = .ok (.aload_n 0, 1) := by decide +kernel
theorem dX11_via_19 : decode cX11_via 19 = .ok (.getfield 14, 3) := by decide +kernel
theorem dX11_via_22 : decode cX11_via 22 = .ok (.aload_n 0, 1) := by decide +kernel
theorem dX11_via_23 : decode cX11_via 23 = .ok (.getfield 14, 3) := by decide +kernel
theorem dX11_via_26 : decode cX11_via 26 = .ok (.getfield 88, 3) := by decide +kernel
theorem dX11_via_29 : decode cX11_via 29 = .ok (.invokevirtual 145, 3) := by decide +kernel
theorem dX11_via_32 : decode cX11_via 32 = .ok (.aload_n 0, 1) := by decide +kernel
theorem dX11_via_33 : decode cX11_via 33 = .ok (.getfield 35, 3) := by decide +kernel
theorem dX11_via_36 : decode cX11_via 36 = .ok (.iload_n 1, 1) := by decide +kernel
theorem dX11_via_37 : decode cX11_via 37 = .ok (.iload_n 2, 1) := by decide +kernel
theorem dX11_via_38 : decode cX11_via 38 = .ok (.invokevirtual 152, 3) := by decide +kernel
theorem dX11_via_41 : decode cX11_via 41 = .ok (.ireturn, 1) := by decide +kernel
set_option maxRecDepth 20000 in
theorem ggX11_cuts_X8_areHeaps : GoodIn wsX11_cuts wsX8_areHeaps := goodIn_r _ [8, 9, 10, 11, 7, 12, 13, 14, 169, 170, 171, 172, 173, 174, 175, 176, 177, 178, 179, 180, 181, 182] (by decide +kernel) (by decide +kernel)
set_option maxRecDepth 20000 in
theorem gX11_cuts_X8_areHeaps : GoodIn wsX11_cuts (wsV RX11 141 RX8 yX8_areHeaps wsX8_areHeaps) := goodIn_app (goodIn_of _ (by decide +kernel)) ggX11_cuts_X8_areHeaps
set_option maxRecDepth 20000 in
theorem ggX11_cuts_X2_link : GoodIn wsX11_cuts wsX2_link := goodIn_r _ [19, 20, 21, 22, 23, 24, 25, 26, 18, 27, 28, 29, 30, 31, 7, 32, 33, 34, 35, 36, 37, 38, 39, 40, 41, 42, 43, 44, 45, 46, 47, 48, 49, 50, 51, 52, 53, 54, 55, 56, 57, 58, 59, 60, 61, 62, 63, 64, 65, 66, 67, 68, 69, 70, 71, 72, 73, 74, 75, 76, 77, 78, 79, 80, 81, 82, 83, 84, 85, 86, 87, 88, 89, 90, 91, 92, 93, 94, 95, 96, 97, 98, 99, 100, 101, 102, 103, 104, 105, 106, 107, 108, 109, 110, 111, 112, 113, 114, 115, 116, 117, 118, 119, 120, 121, 122, 123, 124, 125, 126, 127, 128, 129, 130, 131, 132, 133, 134, 135, 136, 137, 138, 139, 140, 141, 142, 143, 144, 145, 146, 147, 148, 149, 169, 170, 171, 172, 173, 174, 175, 176, 177, 178, 179, 180, 181, 182, 183, 184, 185, 186, 187, 188, 189, 190, 191, 192, 193, 194, 195, 196, 197, 198, 199, 200, 201, 202, 203, 204, 205, 206, 207, 208, 209, 210, 211, 212, 213, 214, 215, 216, 217, 218, 219, 220, 221, 222, 223, 224, 225] (by decide +kernel) (by decide +kernel)
set_option maxRecDepth 20000 in
theorem gX11_cuts_X2_link : GoodIn wsX11_cuts (wsV RX11 145 RX2 yX2_link wsX2_link) := goodIn_app (goodIn_of _ (by decide +kernel)) ggX11_cuts_X2_link
set_option maxRecDepth 20000 in
theorem ggX11_cuts_X2_breaks : GoodIn wsX11_cuts wsX2_breaks := goodIn_r _ [153, 21, 154, 155, 156, 18, 157, 158, 159, 160, 161, 22, 183, 184, 185, 186] (by decide +kernel) (by decide +kernel)
set_option maxRecDepth 20000 in
theorem gX11_cuts_X2_breaks : GoodIn wsX11_cuts (wsV RX11 156 RX2 yX2_breaks wsX2_breaks) := goodIn_app (goodIn_of _ (by decide +kernel)) ggX11_cuts_X2_breaks
theorem dX11_cuts_0 : decode cX11_cuts 0 = .ok (.aload_n 0, 1) := by decide +kernel
theorem dX11_cuts_1 : decode cX11_cuts 1 = .ok (.getfield 14, 3) := by decide +kernel
theorem dX11_cuts_4 : decode cX11_cuts 4 = .ok (.iload_n 1, 1) := by decide +kernel
theorem dX11_cuts_5 : decode cX11_cuts 5 = .ok (.iload_n 2, 1) := by decide +kernel
theorem dX11_cuts_6 : decode cX11_cuts 6 = .ok (.invokevirtual 141, 3) := by decide +kernel
theorem dX11_cuts_9 : decode cX11_cuts 9 = .ok (.ifCond .ne 5, 3) := by decide +kernel
theorem dX11_cuts_12 : decode cX11_cuts 12 = .ok (.iconst (-1), 1) := by decide +kernel
theorem dX11_cuts_13 : decode cX11_cuts 13 = .ok (.ireturn, 1) := by decide +kernel
theorem dX11_cuts_14 : decode cX11_cuts 14 = .ok (.aload_n 0, 1) := by decide +kernel
theorem dX11_cuts_15 : decode cX11_cuts 15 = .ok (.getfield 35, 3) := by decide +kernel
theorem dX11_cuts_18 : decode cX11_cuts 18 = .ok (.aload_n 0, 1) := by decide +kernel
theorem dX11_cuts_19 : decode cX11_cuts 19 = .ok (.getfield 14, 3) := by decide +kernel
theorem dX11_cuts_22 : decode cX11_cuts 22 = .ok (.aload_n 0, 1) := by decide +kernel
theorem dX11_cuts_23 : decode cX11_cuts 23 = .ok (.getfield 14, 3) := by decide +kernel
theorem dX11_cuts_26 : decode cX11_cuts 26 = .ok (.getfield 88, 3) := by decide +kernel
theorem dX11_cuts_29 : decode cX11_cuts 29 = .ok (.invokevirtual 145, 3) := by decide +kernel
theorem dX11_cuts_32 : decode cX11_cuts 32 = .ok (.aload_n 0, 1) := by decide +kernel
theorem dX11_cuts_33 : decode cX11_cuts 33 = .ok (.getfield 35, 3) := by decide +kernel
theorem dX11_cuts_36 : decode cX11_cuts 36 = .ok (.iload_n 1, 1) := by decide +kernel
theorem dX11_cuts_37 : decode cX11_cuts 37 = .ok (.iload_n 2, 1) := by decide +kernel
theorem dX11_cuts_38 : decode cX11_cuts 38 = .ok (.invokevirtual 156, 3) := by decide +kernel
theorem dX11_cuts_41 : decode cX11_cuts 41 = .ok (.ireturn, 1) := by decide +kernel
set_option maxRecDepth 20000 in
theorem ggX11_bears_X8_areHeaps : GoodIn wsX11_bears wsX8_areHeaps := goodIn_r _ [7, 8, 9, 10, 6, 11, 12, 13, 164, 165, 166, 167, 168, 169, 170, 171, 172, 173, 174, 175, 176, 177] (by decide +kernel) (by decide +kernel)
set_option maxRecDepth 20000 in
theorem gX11_bears_X8_areHeaps : GoodIn wsX11_bears (wsV RX11 141 RX8 yX8_areHeaps wsX8_areHeaps) := goodIn_app (goodIn_of _ (by decide +kernel)) ggX11_bears_X8_areHeaps
set_option maxRecDepth 20000 in
theorem ggX11_bears_X2_link : GoodIn wsX11_bears wsX2_link := goodIn_r _ [18, 19, 20, 21, 22, 23, 24, 25, 17, 26, 27, 28, 29, 30, 6, 31, 32, 33, 34, 35, 36, 37, 38, 39, 40, 41, 42, 43, 44, 45, 46, 47, 48, 49, 50, 51, 52, 53, 54, 55, 56, 57, 58, 59, 60, 61, 62, 63, 64, 65, 66, 67, 68, 69, 70, 71, 72, 73, 74, 75, 76, 77, 78, 79, 80, 81, 82, 83, 84, 85, 86, 87, 88, 89, 90, 91, 92, 93, 94, 95, 96, 97, 98, 99, 100, 101, 102, 103, 104, 105, 106, 107, 108, 109, 110, 111, 112, 113, 114, 115, 116, 117, 118, 119, 120, 121, 122, 123, 124, 125, 126, 127, 128, 129, 130, 131, 132, 133, 134, 135, 136, 137, 138, 139, 140, 141, 142, 143, 144, 145, 146, 147, 148, 164, 165, 166, 167, 168, 169, 170, 171, 172, 173, 174, 175, 176, 177, 178, 179, 180, 181, 182, 183, 184, 185, 186, 187, 188, 189, 190, 191, 192, 193, 194, 195, 196, 197, 198, 199, 200, 201, 202, 203, 204, 205, 206, 207, 208, 209, 210, 211, 212, 213, 214, 215, 216, 217, 218, 219, 220] (by decide +kernel) (by decide +kernel)
set_option maxRecDepth 20000 in
theorem gX11_bears_X2_link : GoodIn wsX11_bears (wsV RX11 145 RX2 yX2_link wsX2_link) := goodIn_app (goodIn_of _ (by decide +kernel)) ggX11_bears_X2_link
set_option maxRecDepth 20000 in
theorem ggX11_bears_X2_fewest : GoodIn wsX11_bears wsX2_fewest := goodIn_r _ [152, 153, 154, 155, 17, 156, 20, 21, 178, 179, 180, 181] (by decide +kernel) (by decide +kernel)
set_option maxRecDepth 20000 in
theorem gX11_bears_X2_fewest : GoodIn wsX11_bears (wsV RX11 148 RX2 yX2_fewest wsX2_fewest) := goodIn_app (goodIn_of _ (by decide +kernel)) ggX11_bears_X2_fewest
theorem dX11_bears_0 : decode cX11_bears 0 = .ok (.aload_n 0, 1) := by decide +kernel
theorem dX11_bears_1 : decode cX11_bears 1 = .ok (.getfield 14, 3) := by decide +kernel
theorem dX11_bears_4 : decode cX11_bears 4 = .ok (.iload_n 1, 1) := by decide +kernel
theorem dX11_bears_5 : decode cX11_bears 5 = .ok (.iload_n 2, 1) := by decide +kernel
theorem dX11_bears_6 : decode cX11_bears 6 = .ok (.invokevirtual 141, 3) := by decide +kernel
theorem dX11_bears_9 : decode cX11_bears 9 = .ok (.ifCond .ne 5, 3) := by decide +kernel
theorem dX11_bears_12 : decode cX11_bears 12 = .ok (.iconst (-1), 1) := by decide +kernel
theorem dX11_bears_13 : decode cX11_bears 13 = .ok (.ireturn, 1) := by decide +kernel
theorem dX11_bears_14 : decode cX11_bears 14 = .ok (.bipush 9, 2) := by decide +kernel
theorem dX11_bears_16 : decode cX11_bears 16 = .ok (.istore_n 3, 1) := by decide +kernel
theorem dX11_bears_17 : decode cX11_bears 17 = .ok (.iload_n 3, 1) := by decide +kernel
theorem dX11_bears_18 : decode cX11_bears 18 = .ok (.ifCond .lt 38, 3) := by decide +kernel
theorem dX11_bears_21 : decode cX11_bears 21 = .ok (.aload_n 0, 1) := by decide +kernel
theorem dX11_bears_22 : decode cX11_bears 22 = .ok (.getfield 35, 3) := by decide +kernel
theorem dX11_bears_25 : decode cX11_bears 25 = .ok (.aload_n 0, 1) := by decide +kernel
theorem dX11_bears_26 : decode cX11_bears 26 = .ok (.getfield 14, 3) := by decide +kernel
theorem dX11_bears_29 : decode cX11_bears 29 = .ok (.iload_n 3, 1) := by decide +kernel
theorem dX11_bears_30 : decode cX11_bears 30 = .ok (.invokevirtual 145, 3) := by decide +kernel
theorem dX11_bears_33 : decode cX11_bears 33 = .ok (.aload_n 0, 1) := by decide +kernel
theorem dX11_bears_34 : decode cX11_bears 34 = .ok (.getfield 35, 3) := by decide +kernel
theorem dX11_bears_37 : decode cX11_bears 37 = .ok (.iload_n 1, 1) := by decide +kernel
theorem dX11_bears_38 : decode cX11_bears 38 = .ok (.iload_n 2, 1) := by decide +kernel
theorem dX11_bears_39 : decode cX11_bears 39 = .ok (.iconst 0, 1) := by decide +kernel
theorem dX11_bears_40 : decode cX11_bears 40 = .ok (.invokevirtual 148, 3) := by decide +kernel
theorem dX11_bears_43 : decode cX11_bears 43 = .ok (.bipush (-5), 2) := by decide +kernel
theorem dX11_bears_45 : decode cX11_bears 45 = .ok (.if_icmp .eq 5, 3) := by decide +kernel
theorem dX11_bears_48 : decode cX11_bears 48 = .ok (.iload_n 3, 1) := by decide +kernel
theorem dX11_bears_49 : decode cX11_bears 49 = .ok (.ireturn, 1) := by decide +kernel
theorem dX11_bears_50 : decode cX11_bears 50 = .ok (.iinc 3 (-1), 3) := by decide +kernel
theorem dX11_bears_53 : decode cX11_bears 53 = .ok (.goto (-36), 3) := by decide +kernel
theorem dX11_bears_56 : decode cX11_bears 56 = .ok (.bipush (-5), 2) := by decide +kernel
theorem dX11_bears_58 : decode cX11_bears 58 = .ok (.ireturn, 1) := by decide +kernel
set_option maxRecDepth 20000 in
theorem ggX11_build_X8_areHeaps : GoodIn wsX11_build wsX8_areHeaps := goodIn_r _ [7, 8, 9, 10, 6, 11, 12, 13, 180, 181, 182, 183, 184, 185, 186, 187, 188, 189, 190, 191, 192, 193] (by decide +kernel) (by decide +kernel)
set_option maxRecDepth 20000 in
theorem gX11_build_X8_areHeaps : GoodIn wsX11_build (wsV RX11 141 RX8 yX8_areHeaps wsX8_areHeaps) := goodIn_app (goodIn_of _ (by decide +kernel)) ggX11_build_X8_areHeaps
set_option maxRecDepth 20000 in
theorem ggX11_build_X2_bestCell : GoodIn wsX11_build wsX2_bestCell := goodIn_r _ [18, 19, 20, 21, 22, 23, 17, 24, 25, 26, 27, 28, 29, 30, 31, 32, 33, 34, 35, 6, 36, 37, 38, 39, 40, 41, 42, 43, 44, 45, 46, 47, 48, 49, 50, 51, 52, 53, 54, 55, 56, 57, 58, 59, 60, 61, 62, 63, 64, 65, 66, 67, 68, 69, 70, 71, 72, 73, 74, 75, 76, 77, 78, 79, 80, 81, 82, 83, 84, 85, 86, 87, 88, 89, 90, 91, 92, 93, 94, 95, 96, 97, 98, 99, 100, 101, 102, 103, 104, 105, 106, 107, 108, 109, 110, 111, 112, 113, 114, 115, 116, 117, 118, 119, 120, 121, 122, 123, 124, 125, 126, 127, 128, 129, 130, 131, 132, 133, 134, 135, 136, 137, 138, 139, 140, 141, 142, 143, 144, 145, 146, 147, 148, 149, 150, 151, 152, 153, 154, 155, 156, 157, 158, 159, 160, 161, 162, 163, 164, 165, 12, 13, 166, 167, 168, 169, 170, 180, 181, 182, 183, 184, 185, 186, 187, 188, 189, 190, 191, 192, 193, 194, 195, 196, 197, 198, 199, 200, 201, 202, 203, 204, 205, 206, 207, 208, 209, 210, 211, 212, 213, 214, 215, 216, 217, 218, 219, 220, 221, 222, 223, 224, 225, 226, 227, 228, 229, 230, 231, 232, 233, 234, 235, 236] (by decide +kernel) (by decide +kernel)
set_option maxRecDepth 20000 in
theorem gX11_build_X2_bestCell : GoodIn wsX11_build (wsV RX11 159 RX2 yX2_bestCell wsX2_bestCell) := goodIn_app (goodIn_of _ (by decide +kernel)) ggX11_build_X2_bestCell
set_option maxRecDepth 20000 in
theorem ggX11_build_X2_join : GoodIn wsX11_build wsX2_join := goodIn_r _ [169, 19, 170, 118, 119, 32, 20, 25, 27, 33, 34, 35, 6, 36, 37, 38, 39, 40, 41, 42, 43, 44, 45, 46, 47, 48, 49, 50, 51, 52, 53, 54, 55, 56, 57, 58, 59, 60, 61, 62, 63, 64, 65, 66, 67, 68, 69, 70, 71, 72, 73, 74, 75, 76, 77, 78, 79, 80, 81, 82, 83, 84, 85, 86, 87, 88, 89, 90, 91, 92, 93, 94, 95, 96, 97, 98, 99, 100, 101, 102, 103, 104, 105, 106, 107, 108, 109, 110, 111, 112, 113, 114, 115, 116, 17, 117, 26, 120, 121, 122, 123, 124, 125, 126, 127, 128, 129, 130, 131, 132, 133, 134, 135, 136, 137, 138, 139, 140, 141, 142, 143, 144, 145, 146, 147, 148, 149, 150, 151, 152, 153, 180, 181, 182, 183, 184, 185, 186, 187, 188, 189, 190, 191, 192, 193, 194, 195, 196, 197, 198, 199, 200, 201, 202, 203, 204, 205, 206, 207, 208, 209, 210, 211, 212, 213, 214, 215, 216, 217, 218, 219, 220, 221, 222, 223, 224, 225, 226, 227, 228, 229, 230, 231, 232, 233, 234, 235, 236] (by decide +kernel) (by decide +kernel)
set_option maxRecDepth 20000 in
theorem gX11_build_X2_join : GoodIn wsX11_build (wsV RX11 163 RX2 yX2_join wsX2_join) := goodIn_app (goodIn_of _ (by decide +kernel)) ggX11_build_X2_join
set_option maxRecDepth 20000 in
theorem ggX11_build_X2_fewest : GoodIn wsX11_build wsX2_fewest := goodIn_r _ [157, 158, 159, 160, 17, 161, 25, 26, 194, 195, 196, 197] (by decide +kernel) (by decide +kernel)
set_option maxRecDepth 20000 in
theorem gX11_build_X2_fewest : GoodIn wsX11_build (wsV RX11 148 RX2 yX2_fewest wsX2_fewest) := goodIn_app (goodIn_of _ (by decide +kernel)) ggX11_build_X2_fewest
theorem dX11_build_0 : decode cX11_build 0 = .ok (.aload_n 0, 1) := by decide +kernel
theorem dX11_build_1 : decode cX11_build 1 = .ok (.getfield 14, 3) := by decide +kernel
theorem dX11_build_4 : decode cX11_build 4 = .ok (.iload_n 1, 1) := by decide +kernel
theorem dX11_build_5 : decode cX11_build 5 = .ok (.iload_n 2, 1) := by decide +kernel
theorem dX11_build_6 : decode cX11_build 6 = .ok (.invokevirtual 141, 3) := by decide +kernel
theorem dX11_build_9 : decode cX11_build 9 = .ok (.ifCond .eq 12, 3) := by decide +kernel
theorem dX11_build_12 : decode cX11_build 12 = .ok (.iload_n 3, 1) := by decide +kernel
theorem dX11_build_13 : decode cX11_build 13 = .ok (.ifCond .lt 8, 3) := by decide +kernel
theorem dX11_build_16 : decode cX11_build 16 = .ok (.iload_n 3, 1) := by decide +kernel
theorem dX11_build_17 : decode cX11_build 17 = .ok (.iconst 1, 1) := by decide +kernel
theorem dX11_build_18 : decode cX11_build 18 = .ok (.if_icmp .le 5, 3) := by decide +kernel
theorem dX11_build_21 : decode cX11_build 21 = .ok (.iconst (-1), 1) := by decide +kernel
theorem dX11_build_22 : decode cX11_build 22 = .ok (.ireturn, 1) := by decide +kernel
theorem dX11_build_23 : decode cX11_build 23 = .ok (.aload_n 0, 1) := by decide +kernel
theorem dX11_build_24 : decode cX11_build 24 = .ok (.getfield 35, 3) := by decide +kernel
theorem dX11_build_27 : decode cX11_build 27 = .ok (.aload_n 0, 1) := by decide +kernel
theorem dX11_build_28 : decode cX11_build 28 = .ok (.getfield 14, 3) := by decide +kernel
theorem dX11_build_31 : decode cX11_build 31 = .ok (.iload_n 1, 1) := by decide +kernel
theorem dX11_build_32 : decode cX11_build 32 = .ok (.iload_n 2, 1) := by decide +kernel
theorem dX11_build_33 : decode cX11_build 33 = .ok (.invokevirtual 159, 3) := by decide +kernel
theorem dX11_build_36 : decode cX11_build 36 = .ok (.istore 4, 2) := by decide +kernel
theorem dX11_build_38 : decode cX11_build 38 = .ok (.iload 4, 2) := by decide +kernel
theorem dX11_build_40 : decode cX11_build 40 = .ok (.bipush (-5), 2) := by decide +kernel
theorem dX11_build_42 : decode cX11_build 42 = .ok (.if_icmp .eq 7, 3) := by decide +kernel
theorem dX11_build_45 : decode cX11_build 45 = .ok (.iload_n 3, 1) := by decide +kernel
theorem dX11_build_46 : decode cX11_build 46 = .ok (.ifCond .ne 6, 3) := by decide +kernel
theorem dX11_build_49 : decode cX11_build 49 = .ok (.iload 4, 2) := by decide +kernel
theorem dX11_build_51 : decode cX11_build 51 = .ok (.ireturn, 1) := by decide +kernel
theorem dX11_build_52 : decode cX11_build 52 = .ok (.aload_n 0, 1) := by decide +kernel
theorem dX11_build_53 : decode cX11_build 53 = .ok (.getfield 35, 3) := by decide +kernel
theorem dX11_build_56 : decode cX11_build 56 = .ok (.aload_n 0, 1) := by decide +kernel
theorem dX11_build_57 : decode cX11_build 57 = .ok (.getfield 14, 3) := by decide +kernel
theorem dX11_build_60 : decode cX11_build 60 = .ok (.iload 4, 2) := by decide +kernel
theorem dX11_build_62 : decode cX11_build 62 = .ok (.invokevirtual 163, 3) := by decide +kernel
theorem dX11_build_65 : decode cX11_build 65 = .ok (.aload_n 0, 1) := by decide +kernel
theorem dX11_build_66 : decode cX11_build 66 = .ok (.getfield 35, 3) := by decide +kernel
theorem dX11_build_69 : decode cX11_build 69 = .ok (.iload_n 1, 1) := by decide +kernel
theorem dX11_build_70 : decode cX11_build 70 = .ok (.iload_n 2, 1) := by decide +kernel
theorem dX11_build_71 : decode cX11_build 71 = .ok (.iconst 0, 1) := by decide +kernel
theorem dX11_build_72 : decode cX11_build 72 = .ok (.invokevirtual 148, 3) := by decide +kernel
theorem dX11_build_75 : decode cX11_build 75 = .ok (.ireturn, 1) := by decide +kernel
set_option maxRecDepth 20000 in
theorem ggX11_drift_X11_isCell : GoodIn wsX11_drift wsX11_isCell := goodIn_r _ [5] (by decide +kernel) (by decide +kernel)
set_option maxRecDepth 20000 in
theorem gX11_drift_X11_isCell : GoodIn wsX11_drift (va_wsS RX11 94 yX11_isCell wsX11_isCell) := goodIn_app (goodIn_of _ (by decide +kernel)) ggX11_drift_X11_isCell
set_option maxRecDepth 20000 in
theorem ggX11_drift_X8_driftOn : GoodIn wsX11_drift wsX8_driftOn := goodIn_r _ [10, 11, 12, 13, 14, 15, 16, 17, 18, 19, 20, 9, 21, 22, 23, 4, 24, 25, 26, 27, 28, 29, 30, 31, 32, 33, 34, 35, 36, 37, 38, 39, 40, 41, 42, 43, 51, 52, 53, 54, 55, 56, 57, 58, 59, 60, 61, 62, 63, 64, 65, 66, 67, 68, 69, 70, 71, 72, 73, 74, 75] (by decide +kernel) (by decide +kernel)
set_option maxRecDepth 20000 in
theorem gX11_drift_X8_driftOn : GoodIn wsX11_drift (wsV RX11 166 RX8 yX8_driftOn wsX8_driftOn) := goodIn_app (goodIn_of _ (by decide +kernel)) ggX11_drift_X8_driftOn
theorem dX11_drift_0 : decode cX11_drift 0 = .ok (.iload_n 1, 1) := by decide +kernel
theorem dX11_drift_1 : decode cX11_drift 1 = .ok (.invokestatic 94, 3) := by decide +kernel
theorem dX11_drift_4 : decode cX11_drift 4 = .ok (.ifCond .eq 14, 3) := by decide +kernel
theorem dX11_drift_7 : decode cX11_drift 7 = .ok (.aload_n 0, 1) := by decide +kernel
theorem dX11_drift_8 : decode cX11_drift 8 = .ok (.getfield 14, 3) := by decide +kernel
theorem dX11_drift_11 : decode cX11_drift 11 = .ok (.iload_n 1, 1) := by decide +kernel
theorem dX11_drift_12 : decode cX11_drift 12 = .ok (.invokevirtual 166, 3) := by decide +kernel
theorem dX11_drift_15 : decode cX11_drift 15 = .ok (.goto 4, 3) := by decide +kernel
theorem dX11_drift_18 : decode cX11_drift 18 = .ok (.iconst (-1), 1) := by decide +kernel
theorem dX11_drift_19 : decode cX11_drift 19 = .ok (.ireturn, 1) := by decide +kernel
theorem dX11_walk_0 : decode cX11_walk 0 = .ok (.iload_n 1, 1) := by decide +kernel
theorem dX11_walk_1 : decode cX11_walk 1 = .ok (.iconst (-1), 1) := by decide +kernel
theorem dX11_walk_2 : decode cX11_walk 2 = .ok (.if_icmp .ne 13, 3) := by decide +kernel
theorem dX11_walk_5 : decode cX11_walk 5 = .ok (.aload_n 0, 1) := by decide +kernel
theorem dX11_walk_6 : decode cX11_walk 6 = .ok (.getfield 14, 3) := by decide +kernel
theorem dX11_walk_9 : decode cX11_walk 9 = .ok (.iconst 0, 1) := by decide +kernel
theorem dX11_walk_10 : decode cX11_walk 10 = .ok (.putfield 169, 3) := by decide +kernel
theorem dX11_walk_13 : decode cX11_walk 13 = .ok (.iconst 0, 1) := by decide +kernel
theorem dX11_walk_14 : decode cX11_walk 14 = .ok (.ireturn, 1) := by decide +kernel
theorem dX11_walk_15 : decode cX11_walk 15 = .ok (.iload_n 1, 1) := by decide +kernel
theorem dX11_walk_16 : decode cX11_walk 16 = .ok (.ifCond .lt 9, 3) := by decide +kernel
theorem dX11_walk_19 : decode cX11_walk 19 = .ok (.iload_n 1, 1) := by decide +kernel
theorem dX11_walk_20 : decode cX11_walk 20 = .ok (.bipush 8, 2) := by decide +kernel
theorem dX11_walk_22 : decode cX11_walk 22 = .ok (.if_icmp .lt 5, 3) := by decide +kernel
theorem dX11_walk_25 : decode cX11_walk 25 = .ok (.iconst (-1), 1) := by decide +kernel
theorem dX11_walk_26 : decode cX11_walk 26 = .ok (.ireturn, 1) := by decide +kernel
theorem dX11_walk_27 : decode cX11_walk 27 = .ok (.aload_n 0, 1) := by decide +kernel
theorem dX11_walk_28 : decode cX11_walk 28 = .ok (.getfield 14, 3) := by decide +kernel
theorem dX11_walk_31 : decode cX11_walk 31 = .ok (.getfield 169, 3) := by decide +kernel
theorem dX11_walk_34 : decode cX11_walk 34 = .ok (.bipush 6, 2) := by decide +kernel
theorem dX11_walk_36 : decode cX11_walk 36 = .ok (.if_icmp .lt 6, 3) := by decide +kernel
theorem dX11_walk_39 : decode cX11_walk 39 = .ok (.bipush (-4), 2) := by decide +kernel
theorem dX11_walk_41 : decode cX11_walk 41 = .ok (.ireturn, 1) := by decide +kernel
theorem dX11_walk_42 : decode cX11_walk 42 = .ok (.aload_n 0, 1) := by decide +kernel
theorem dX11_walk_43 : decode cX11_walk 43 = .ok (.getfield 14, 3) := by decide +kernel
theorem dX11_walk_46 : decode cX11_walk 46 = .ok (.getfield 172, 3) := by decide +kernel
theorem dX11_walk_49 : decode cX11_walk 49 = .ok (.aload_n 0, 1) := by decide +kernel
theorem dX11_walk_50 : decode cX11_walk 50 = .ok (.getfield 14, 3) := by decide +kernel
theorem dX11_walk_53 : decode cX11_walk 53 = .ok (.getfield 169, 3) := by decide +kernel
theorem dX11_walk_56 : decode cX11_walk 56 = .ok (.iload_n 1, 1) := by decide +kernel
theorem dX11_walk_57 : decode cX11_walk 57 = .ok (.iastore, 1) := by decide +kernel
theorem dX11_walk_58 : decode cX11_walk 58 = .ok (.aload_n 0, 1) := by decide +kernel
theorem dX11_walk_59 : decode cX11_walk 59 = .ok (.getfield 14, 3) := by decide +kernel
theorem dX11_walk_62 : decode cX11_walk 62 = .ok (.dup, 1) := by decide +kernel
theorem dX11_walk_63 : decode cX11_walk 63 = .ok (.getfield 169, 3) := by decide +kernel
theorem dX11_walk_66 : decode cX11_walk 66 = .ok (.iconst 1, 1) := by decide +kernel
theorem dX11_walk_67 : decode cX11_walk 67 = .ok (.iadd, 1) := by decide +kernel
theorem dX11_walk_68 : decode cX11_walk 68 = .ok (.putfield 169, 3) := by decide +kernel
theorem dX11_walk_71 : decode cX11_walk 71 = .ok (.aload_n 0, 1) := by decide +kernel
theorem dX11_walk_72 : decode cX11_walk 72 = .ok (.getfield 14, 3) := by decide +kernel
theorem dX11_walk_75 : decode cX11_walk 75 = .ok (.getfield 169, 3) := by decide +kernel
theorem dX11_walk_78 : decode cX11_walk 78 = .ok (.ireturn, 1) := by decide +kernel
set_option maxRecDepth 20000 in
theorem ggX11_odds_X11_isCell : GoodIn wsX11_odds wsX11_isCell := goodIn_r _ [11] (by decide +kernel) (by decide +kernel)
set_option maxRecDepth 20000 in
theorem gX11_odds_X11_isCell : GoodIn wsX11_odds (va_wsS RX11 94 yX11_isCell wsX11_isCell) := goodIn_app (goodIn_of _ (by decide +kernel)) ggX11_odds_X11_isCell
set_option maxRecDepth 20000 in
theorem ggX11_odds_X8_cellsSeeing : GoodIn wsX11_odds wsX8_cellsSeeing := goodIn_r _ [16, 17, 18, 19, 20, 21, 15, 22, 23, 24, 25, 26, 27, 28, 29, 30, 31, 32, 33, 34, 35, 36, 37, 38, 39, 10, 40, 41, 42, 43, 44, 45, 46, 47, 48, 49, 50, 51, 52, 53, 54, 55, 56, 57, 58, 59, 60, 61, 62, 63, 64, 65, 66, 67, 68, 69, 70, 71, 72, 73, 74, 75, 76, 77, 78, 79, 80, 81, 82, 83, 84, 85, 86, 87, 88, 89, 90, 91, 92, 93, 94, 95, 96, 97, 98, 99, 100, 101, 102, 103, 104, 105, 106, 107, 108, 109, 110, 111, 161, 162, 163, 164, 165, 166, 167, 168, 169, 170, 171, 172, 173, 174, 175, 176, 177, 178, 179, 180, 181, 182, 183, 184, 185, 186, 187, 188, 189, 190, 191, 192, 193, 194, 195, 196, 197, 198, 199, 200, 201, 202, 203, 204, 205, 206, 207, 208, 209, 210, 211, 212, 213] (by decide +kernel) (by decide +kernel)
set_option maxRecDepth 20000 in
theorem gX11_odds_X8_cellsSeeing : GoodIn wsX11_odds (wsV RX11 175 RX8 yX8_cellsSeeing wsX8_cellsSeeing) := goodIn_app (goodIn_of _ (by decide +kernel)) ggX11_odds_X8_cellsSeeing
set_option maxRecDepth 20000 in
theorem ggX11_odds_X0_walked : GoodIn wsX11_odds wsX0_walked := goodIn_r _ [116, 117, 118, 119, 120, 121, 122, 115, 123, 124, 125, 126, 127, 15, 128, 17, 31, 33, 129, 92, 68, 93, 35, 36, 37, 38, 34, 39, 10, 40, 41, 42, 43, 44, 45, 46, 47, 48, 49, 50, 51, 52, 53, 54, 55, 56, 57, 58, 59, 130, 131, 132, 133, 134, 135, 136, 137, 138, 139, 140, 141, 110, 111, 142, 143, 144, 161, 162, 163, 164, 165, 166, 167, 168, 169, 170, 171, 172, 173, 174, 214, 215, 216, 217, 218, 203, 204, 205, 206, 207, 208, 209, 210, 211, 212, 213] (by decide +kernel) (by decide +kernel)
set_option maxRecDepth 20000 in
theorem gX11_odds_X0_walked : GoodIn wsX11_odds (wsV RX11 181 RX0 yX0_walked wsX0_walked) := goodIn_app (goodIn_of _ (by decide +kernel)) ggX11_odds_X0_walked
set_option maxRecDepth 20000 in
theorem ggX11_odds_X0_timesOf : GoodIn wsX11_odds wsX0_timesOf := goodIn_r _ [147, 135] (by decide +kernel) (by decide +kernel)
set_option maxRecDepth 20000 in
theorem gX11_odds_X0_timesOf : GoodIn wsX11_odds (va_wsS RX11 185 yX0_timesOf wsX0_timesOf) := goodIn_app (goodIn_of _ (by decide +kernel)) ggX11_odds_X0_timesOf
set_option maxRecDepth 20000 in
theorem ggX11_odds_X11_partOf : GoodIn wsX11_odds wsX11_partOf := goodIn_r _ [150, 1, 151, 152, 10, 153] (by decide +kernel) (by decide +kernel)
set_option maxRecDepth 20000 in
theorem gX11_odds_X11_partOf : GoodIn wsX11_odds (va_wsS RX11 188 yX11_partOf wsX11_partOf) := goodIn_app (goodIn_of _ (by decide +kernel)) ggX11_odds_X11_partOf
theorem dX11_odds_0 : decode cX11_odds 0 = .ok (.iload_n 1, 1) := by decide +kernel
theorem dX11_odds_1 : decode cX11_odds 1 = .ok (.invokestatic 94, 3) := by decide +kernel
theorem dX11_odds_4 : decode cX11_odds 4 = .ok (.ifCond .eq 12, 3) := by decide +kernel
theorem dX11_odds_7 : decode cX11_odds 7 = .ok (.iload_n 3, 1) := by decide +kernel
theorem dX11_odds_8 : decode cX11_odds 8 = .ok (.ifCond .lt 8, 3) := by decide +kernel
theorem dX11_odds_11 : decode cX11_odds 11 = .ok (.iload_n 3, 1) := by decide +kernel
theorem dX11_odds_12 : decode cX11_odds 12 = .ok (.iconst 1, 1) := by decide +kernel
theorem dX11_odds_13 : decode cX11_odds 13 = .ok (.if_icmp .le 7, 3) := by decide +kernel
theorem dX11_odds_16 : decode cX11_odds 16 = .ok (.ldc2_w 139, 3) := by decide +kernel
theorem dX11_odds_19 : decode cX11_odds 19 = .ok (.lreturn, 1) := by decide +kernel
theorem dX11_odds_20 : decode cX11_odds 20 = .ok (.iload_n 2, 1) := by decide +kernel
theorem dX11_odds_21 : decode cX11_odds 21 = .ok (.invokestatic 94, 3) := by decide +kernel
theorem dX11_odds_24 : decode cX11_odds 24 = .ok (.ifCond .eq 11, 3) := by decide +kernel
theorem dX11_odds_27 : decode cX11_odds 27 = .ok (.lconst 1, 1) := by decide +kernel
theorem dX11_odds_28 : decode cX11_odds 28 = .ok (.iload_n 2, 1) := by decide +kernel
theorem dX11_odds_29 : decode cX11_odds 29 = .ok (.lshl, 1) := by decide +kernel
theorem dX11_odds_30 : decode cX11_odds 30 = .ok (.lstore 4, 2) := by decide +kernel
theorem dX11_odds_32 : decode cX11_odds 32 = .ok (.goto 73, 3) := by decide +kernel
theorem dX11_odds_35 : decode cX11_odds 35 = .ok (.iload_n 2, 1) := by decide +kernel
theorem dX11_odds_36 : decode cX11_odds 36 = .ok (.bipush 40, 2) := by decide +kernel
theorem dX11_odds_38 : decode cX11_odds 38 = .ok (.if_icmp .ne 15, 3) := by decide +kernel
theorem dX11_odds_41 : decode cX11_odds 41 = .ok (.aload_n 0, 1) := by decide +kernel
theorem dX11_odds_42 : decode cX11_odds 42 = .ok (.getfield 14, 3) := by decide +kernel
theorem dX11_odds_45 : decode cX11_odds 45 = .ok (.getfield 73, 3) := by decide +kernel
theorem dX11_odds_48 : decode cX11_odds 48 = .ok (.lstore 4, 2) := by decide +kernel
theorem dX11_odds_50 : decode cX11_odds 50 = .ok (.goto 55, 3) := by decide +kernel
theorem dX11_odds_53 : decode cX11_odds 53 = .ok (.iload_n 2, 1) := by decide +kernel
theorem dX11_odds_54 : decode cX11_odds 54 = .ok (.bipush 50, 2) := by decide +kernel
theorem dX11_odds_56 : decode cX11_odds 56 = .ok (.if_icmp .lt 45, 3) := by decide +kernel
theorem dX11_odds_59 : decode cX11_odds 59 = .ok (.iload_n 2, 1) := by decide +kernel
theorem dX11_odds_60 : decode cX11_odds 60 = .ok (.bipush 50, 2) := by decide +kernel
theorem dX11_odds_62 : decode cX11_odds 62 = .ok (.isub, 1) := by decide +kernel
theorem dX11_odds_63 : decode cX11_odds 63 = .ok (.aload_n 0, 1) := by decide +kernel
theorem dX11_odds_64 : decode cX11_odds 64 = .ok (.getfield 14, 3) := by decide +kernel
theorem dX11_odds_67 : decode cX11_odds 67 = .ok (.getfield 101, 3) := by decide +kernel
theorem dX11_odds_70 : decode cX11_odds 70 = .ok (.if_icmp .ge 31, 3) := by decide +kernel
theorem dX11_odds_73 : decode cX11_odds 73 = .ok (.aload_n 0, 1) := by decide +kernel
theorem dX11_odds_74 : decode cX11_odds 74 = .ok (.getfield 14, 3) := by decide +kernel
theorem dX11_odds_77 : decode cX11_odds 77 = .ok (.iload_n 2, 1) := by decide +kernel
theorem dX11_odds_78 : decode cX11_odds 78 = .ok (.bipush 50, 2) := by decide +kernel
theorem dX11_odds_80 : decode cX11_odds 80 = .ok (.isub, 1) := by decide +kernel
theorem dX11_odds_81 : decode cX11_odds 81 = .ok (.invokevirtual 175, 3) := by decide +kernel
theorem dX11_odds_84 : decode cX11_odds 84 = .ok (.aload_n 0, 1) := by decide +kernel
theorem dX11_odds_85 : decode cX11_odds 85 = .ok (.getfield 14, 3) := by decide +kernel
theorem dX11_odds_88 : decode cX11_odds 88 = .ok (.getfield 73, 3) := by decide +kernel
theorem dX11_odds_91 : decode cX11_odds 91 = .ok (.ldc2_w 179, 3) := by decide +kernel
theorem dX11_odds_94 : decode cX11_odds 94 = .ok (.lxor, 1) := by decide +kernel
theorem dX11_odds_95 : decode cX11_odds 95 = .ok (.land, 1) := by decide +kernel
theorem dX11_odds_96 : decode cX11_odds 96 = .ok (.lstore 4, 2) := by decide +kernel
theorem dX11_odds_98 : decode cX11_odds 98 = .ok (.goto 7, 3) := by decide +kernel
theorem dX11_odds_101 : decode cX11_odds 101 = .ok (.ldc2_w 139, 3) := by decide +kernel
theorem dX11_odds_104 : decode cX11_odds 104 = .ok (.lreturn, 1) := by decide +kernel
theorem dX11_odds_105 : decode cX11_odds 105 = .ok (.aload_n 0, 1) := by decide +kernel
theorem dX11_odds_106 : decode cX11_odds 106 = .ok (.getfield 42, 3) := by decide +kernel
theorem dX11_odds_109 : decode cX11_odds 109 = .ok (.aload_n 0, 1) := by decide +kernel
theorem dX11_odds_110 : decode cX11_odds 110 = .ok (.getfield 14, 3) := by decide +kernel
theorem dX11_odds_113 : decode cX11_odds 113 = .ok (.iload_n 1, 1) := by decide +kernel
theorem dX11_odds_114 : decode cX11_odds 114 = .ok (.lload 4, 2) := by decide +kernel
theorem dX11_odds_116 : decode cX11_odds 116 = .ok (.invokevirtual 181, 3) := by decide +kernel
theorem dX11_odds_119 : decode cX11_odds 119 = .ok (.lstore 6, 2) := by decide +kernel
theorem dX11_odds_121 : decode cX11_odds 121 = .ok (.lload 6, 2) := by decide +kernel
theorem dX11_odds_123 : decode cX11_odds 123 = .ok (.aload_n 0, 1) := by decide +kernel
theorem dX11_odds_124 : decode cX11_odds 124 = .ok (.getfield 14, 3) := by decide +kernel
theorem dX11_odds_127 : decode cX11_odds 127 = .ok (.getfield 169, 3) := by decide +kernel
theorem dX11_odds_130 : decode cX11_odds 130 = .ok (.invokestatic 185, 3) := by decide +kernel
theorem dX11_odds_133 : decode cX11_odds 133 = .ok (.iload_n 3, 1) := by decide +kernel
theorem dX11_odds_134 : decode cX11_odds 134 = .ok (.invokestatic 188, 3) := by decide +kernel
theorem dX11_odds_137 : decode cX11_odds 137 = .ok (.lreturn, 1) := by decide +kernel
set_option maxRecDepth 20000 in
theorem ggX11_best_X11_isCell : GoodIn wsX11_best wsX11_isCell := goodIn_r _ [6] (by decide +kernel) (by decide +kernel)
set_option maxRecDepth 20000 in
theorem gX11_best_X11_isCell : GoodIn wsX11_best (va_wsS RX11 94 yX11_isCell wsX11_isCell) := goodIn_app (goodIn_of _ (by decide +kernel)) ggX11_best_X11_isCell
set_option maxRecDepth 20000 in
theorem ggX11_best_X0_search : GoodIn wsX11_best wsX0_search := goodIn_r _ [11, 12, 13, 14, 15, 16, 17, 10, 18, 19, 20, 21, 22, 23, 24, 25, 26, 27, 28, 29, 30, 31, 32, 33, 34, 35, 36, 37, 5, 38, 39, 40, 41, 42, 43, 44, 45, 46, 47, 48, 49, 50, 51, 52, 53, 54, 55, 56, 57, 58, 59, 60, 61, 62, 63, 64, 65, 66, 67, 68, 69, 70, 71, 72, 73, 74, 75, 76, 77, 78, 79, 80, 81, 82, 83, 84, 85, 86, 87, 99, 100, 101, 102, 103, 104, 105, 106, 107, 108, 109, 110, 111, 112, 113, 114, 115, 116, 117, 118, 119, 120, 121, 122, 123, 124, 125, 126, 127, 128] (by decide +kernel) (by decide +kernel)
set_option maxRecDepth 20000 in
theorem gX11_best_X0_search : GoodIn wsX11_best (wsV RX11 192 RX0 yX0_search wsX0_search) := goodIn_app (goodIn_of _ (by decide +kernel)) ggX11_best_X0_search
set_option maxRecDepth 20000 in
theorem ggX11_best_X0_foundWay : GoodIn wsX11_best wsX0_foundWay := goodIn_r _ [91, 87, 99, 100, 101, 102, 103] (by decide +kernel) (by decide +kernel)
set_option maxRecDepth 20000 in
theorem gX11_best_X0_foundWay : GoodIn wsX11_best (wsV RX11 196 RX0 yX0_foundWay wsX0_foundWay) := goodIn_app (goodIn_of _ (by decide +kernel)) ggX11_best_X0_foundWay
theorem dX11_best_0 : decode cX11_best 0 = .ok (.iload_n 1, 1) := by decide +kernel
theorem dX11_best_1 : decode cX11_best 1 = .ok (.invokestatic 94, 3) := by decide +kernel
theorem dX11_best_4 : decode cX11_best 4 = .ok (.ifCond .eq 21, 3) := by decide +kernel
theorem dX11_best_7 : decode cX11_best 7 = .ok (.iload_n 2, 1) := by decide +kernel
theorem dX11_best_8 : decode cX11_best 8 = .ok (.invokestatic 94, 3) := by decide +kernel
theorem dX11_best_11 : decode cX11_best 11 = .ok (.ifCond .eq 14, 3) := by decide +kernel
theorem dX11_best_14 : decode cX11_best 14 = .ok (.iload 4, 2) := by decide +kernel
theorem dX11_best_16 : decode cX11_best 16 = .ok (.ifCond .lt 9, 3) := by decide +kernel
theorem dX11_best_19 : decode cX11_best 19 = .ok (.iload 4, 2) := by decide +kernel
theorem dX11_best_21 : decode cX11_best 21 = .ok (.iconst 3, 1) := by decide +kernel
theorem dX11_best_22 : decode cX11_best 22 = .ok (.if_icmp .lt 5, 3) := by decide +kernel
theorem dX11_best_25 : decode cX11_best 25 = .ok (.iconst (-1), 1) := by decide +kernel
theorem dX11_best_26 : decode cX11_best 26 = .ok (.ireturn, 1) := by decide +kernel
theorem dX11_best_27 : decode cX11_best 27 = .ok (.iload_n 3, 1) := by decide +kernel
theorem dX11_best_28 : decode cX11_best 28 = .ok (.iconst 1, 1) := by decide +kernel
theorem dX11_best_29 : decode cX11_best 29 = .ok (.if_icmp .lt 8, 3) := by decide +kernel
theorem dX11_best_32 : decode cX11_best 32 = .ok (.iload_n 3, 1) := by decide +kernel
theorem dX11_best_33 : decode cX11_best 33 = .ok (.iconst 3, 1) := by decide +kernel
theorem dX11_best_34 : decode cX11_best 34 = .ok (.if_icmp .le 6, 3) := by decide +kernel
theorem dX11_best_37 : decode cX11_best 37 = .ok (.bipush (-2), 2) := by decide +kernel
theorem dX11_best_39 : decode cX11_best 39 = .ok (.ireturn, 1) := by decide +kernel
theorem dX11_best_40 : decode cX11_best 40 = .ok (.iload 4, 2) := by decide +kernel
theorem dX11_best_42 : decode cX11_best 42 = .ok (.iload_n 3, 1) := by decide +kernel
theorem dX11_best_43 : decode cX11_best 43 = .ok (.if_icmp .lt 5, 3) := by decide +kernel
theorem dX11_best_46 : decode cX11_best 46 = .ok (.iconst (-1), 1) := by decide +kernel
theorem dX11_best_47 : decode cX11_best 47 = .ok (.ireturn, 1) := by decide +kernel
theorem dX11_best_48 : decode cX11_best 48 = .ok (.aload_n 0, 1) := by decide +kernel
theorem dX11_best_49 : decode cX11_best 49 = .ok (.getfield 42, 3) := by decide +kernel
theorem dX11_best_52 : decode cX11_best 52 = .ok (.aload_n 0, 1) := by decide +kernel
theorem dX11_best_53 : decode cX11_best 53 = .ok (.getfield 14, 3) := by decide +kernel
theorem dX11_best_56 : decode cX11_best 56 = .ok (.iload_n 1, 1) := by decide +kernel
theorem dX11_best_57 : decode cX11_best 57 = .ok (.lconst 1, 1) := by decide +kernel
theorem dX11_best_58 : decode cX11_best 58 = .ok (.iload_n 2, 1) := by decide +kernel
theorem dX11_best_59 : decode cX11_best 59 = .ok (.lshl, 1) := by decide +kernel
theorem dX11_best_60 : decode cX11_best 60 = .ok (.iload_n 3, 1) := by decide +kernel
theorem dX11_best_61 : decode cX11_best 61 = .ok (.invokevirtual 192, 3) := by decide +kernel
theorem dX11_best_64 : decode cX11_best 64 = .ok (.aload_n 0, 1) := by decide +kernel
theorem dX11_best_65 : decode cX11_best 65 = .ok (.getfield 42, 3) := by decide +kernel
theorem dX11_best_68 : decode cX11_best 68 = .ok (.iload_n 3, 1) := by decide +kernel
theorem dX11_best_69 : decode cX11_best 69 = .ok (.iload 4, 2) := by decide +kernel
theorem dX11_best_71 : decode cX11_best 71 = .ok (.invokevirtual 196, 3) := by decide +kernel
theorem dX11_best_74 : decode cX11_best 74 = .ok (.ireturn, 1) := by decide +kernel
set_option maxRecDepth 20000 in
theorem ggX11_bestOdds_X11_isCell : GoodIn wsX11_bestOdds wsX11_isCell := goodIn_r _ [8] (by decide +kernel) (by decide +kernel)
set_option maxRecDepth 20000 in
theorem gX11_bestOdds_X11_isCell : GoodIn wsX11_bestOdds (va_wsS RX11 94 yX11_isCell wsX11_isCell) := goodIn_app (goodIn_of _ (by decide +kernel)) ggX11_bestOdds_X11_isCell
set_option maxRecDepth 20000 in
theorem ggX11_bestOdds_X0_search : GoodIn wsX11_bestOdds wsX0_search := goodIn_r _ [13, 14, 15, 16, 17, 18, 19, 12, 20, 21, 22, 23, 24, 25, 26, 27, 28, 29, 30, 31, 32, 33, 34, 35, 36, 37, 38, 39, 7, 40, 41, 42, 43, 44, 45, 46, 47, 48, 49, 50, 51, 52, 53, 54, 55, 56, 57, 58, 59, 60, 61, 62, 63, 64, 65, 66, 67, 68, 69, 70, 71, 72, 73, 74, 75, 76, 77, 78, 79, 80, 81, 82, 83, 84, 85, 86, 87, 88, 89, 106, 107, 108, 109, 110, 111, 112, 113, 114, 115, 116, 117, 118, 119, 120, 121, 122, 123, 124, 125, 126, 127, 128, 129, 130, 131, 132, 133, 134, 135] (by decide +kernel) (by decide +kernel)
set_option maxRecDepth 20000 in
theorem gX11_bestOdds_X0_search : GoodIn wsX11_bestOdds (wsV RX11 192 RX0 yX0_search wsX0_search) := goodIn_app (goodIn_of _ (by decide +kernel)) ggX11_bestOdds_X0_search
set_option maxRecDepth 20000 in
theorem ggX11_bestOdds_X0_timesOf : GoodIn wsX11_bestOdds wsX0_timesOf := goodIn_r _ [92, 84] (by decide +kernel) (by decide +kernel)
set_option maxRecDepth 20000 in
theorem gX11_bestOdds_X0_timesOf : GoodIn wsX11_bestOdds (va_wsS RX11 185 yX0_timesOf wsX0_timesOf) := goodIn_app (goodIn_of _ (by decide +kernel)) ggX11_bestOdds_X0_timesOf
set_option maxRecDepth 20000 in
theorem ggX11_bestOdds_X11_partOf : GoodIn wsX11_bestOdds wsX11_partOf := goodIn_r _ [95, 1, 96, 97, 7, 98] (by decide +kernel) (by decide +kernel)
set_option maxRecDepth 20000 in
theorem gX11_bestOdds_X11_partOf : GoodIn wsX11_bestOdds (va_wsS RX11 188 yX11_partOf wsX11_partOf) := goodIn_app (goodIn_of _ (by decide +kernel)) ggX11_bestOdds_X11_partOf
theorem dX11_bestOdds_0 : decode cX11_bestOdds 0 = .ok (.iload_n 1, 1) := by decide +kernel
theorem dX11_bestOdds_1 : decode cX11_bestOdds 1 = .ok (.invokestatic 94, 3) := by decide +kernel
theorem dX11_bestOdds_4 : decode cX11_bestOdds 4 = .ok (.ifCond .eq 31, 3) := by decide +kernel
theorem dX11_bestOdds_7 : decode cX11_bestOdds 7 = .ok (.iload_n 2, 1) := by decide +kernel
theorem dX11_bestOdds_8 : decode cX11_bestOdds 8 = .ok (.invokestatic 94, 3) := by decide +kernel
theorem dX11_bestOdds_11 : decode cX11_bestOdds 11 = .ok (.ifCond .eq 24, 3) := by decide +kernel
theorem dX11_bestOdds_14 : decode cX11_bestOdds 14 = .ok (.iload_n 3, 1) := by decide +kernel
theorem dX11_bestOdds_15 : decode cX11_bestOdds 15 = .ok (.iconst 1, 1) := by decide +kernel
theorem dX11_bestOdds_16 : decode cX11_bestOdds 16 = .ok (.if_icmp .lt 19, 3) := by decide +kernel
theorem dX11_bestOdds_19 : decode cX11_bestOdds 19 = .ok (.iload_n 3, 1) := by decide +kernel
theorem dX11_bestOdds_20 : decode cX11_bestOdds 20 = .ok (.iconst 3, 1) := by decide +kernel
theorem dX11_bestOdds_21 : decode cX11_bestOdds 21 = .ok (.if_icmp .gt 14, 3) := by decide +kernel
theorem dX11_bestOdds_24 : decode cX11_bestOdds 24 = .ok (.iload 4, 2) := by decide +kernel
theorem dX11_bestOdds_26 : decode cX11_bestOdds 26 = .ok (.ifCond .lt 9, 3) := by decide +kernel
theorem dX11_bestOdds_29 : decode cX11_bestOdds 29 = .ok (.iload 4, 2) := by decide +kernel
theorem dX11_bestOdds_31 : decode cX11_bestOdds 31 = .ok (.iconst 1, 1) := by decide +kernel
theorem dX11_bestOdds_32 : decode cX11_bestOdds 32 = .ok (.if_icmp .le 7, 3) := by decide +kernel
theorem dX11_bestOdds_35 : decode cX11_bestOdds 35 = .ok (.ldc2_w 139, 3) := by decide +kernel
theorem dX11_bestOdds_38 : decode cX11_bestOdds 38 = .ok (.lreturn, 1) := by decide +kernel
theorem dX11_bestOdds_39 : decode cX11_bestOdds 39 = .ok (.aload_n 0, 1) := by decide +kernel
theorem dX11_bestOdds_40 : decode cX11_bestOdds 40 = .ok (.getfield 42, 3) := by decide +kernel
theorem dX11_bestOdds_43 : decode cX11_bestOdds 43 = .ok (.aload_n 0, 1) := by decide +kernel
theorem dX11_bestOdds_44 : decode cX11_bestOdds 44 = .ok (.getfield 14, 3) := by decide +kernel
theorem dX11_bestOdds_47 : decode cX11_bestOdds 47 = .ok (.iload_n 1, 1) := by decide +kernel
theorem dX11_bestOdds_48 : decode cX11_bestOdds 48 = .ok (.lconst 1, 1) := by decide +kernel
theorem dX11_bestOdds_49 : decode cX11_bestOdds 49 = .ok (.iload_n 2, 1) := by decide +kernel
theorem dX11_bestOdds_50 : decode cX11_bestOdds 50 = .ok (.lshl, 1) := by decide +kernel
theorem dX11_bestOdds_51 : decode cX11_bestOdds 51 = .ok (.iload_n 3, 1) := by decide +kernel
theorem dX11_bestOdds_52 : decode cX11_bestOdds 52 = .ok (.invokevirtual 192, 3) := by decide +kernel
theorem dX11_bestOdds_55 : decode cX11_bestOdds 55 = .ok (.aload_n 0, 1) := by decide +kernel
theorem dX11_bestOdds_56 : decode cX11_bestOdds 56 = .ok (.getfield 42, 3) := by decide +kernel
theorem dX11_bestOdds_59 : decode cX11_bestOdds 59 = .ok (.getfield 199, 3) := by decide +kernel
theorem dX11_bestOdds_62 : decode cX11_bestOdds 62 = .ok (.iload_n 3, 1) := by decide +kernel
theorem dX11_bestOdds_63 : decode cX11_bestOdds 63 = .ok (.invokestatic 185, 3) := by decide +kernel
theorem dX11_bestOdds_66 : decode cX11_bestOdds 66 = .ok (.iload 4, 2) := by decide +kernel
theorem dX11_bestOdds_68 : decode cX11_bestOdds 68 = .ok (.invokestatic 188, 3) := by decide +kernel
theorem dX11_bestOdds_71 : decode cX11_bestOdds 71 = .ok (.lreturn, 1) := by decide +kernel
set_option maxRecDepth 20000 in
theorem ggX11_safe_X11_isCell : GoodIn wsX11_safe wsX11_isCell := goodIn_r _ [9] (by decide +kernel) (by decide +kernel)
set_option maxRecDepth 20000 in
theorem gX11_safe_X11_isCell : GoodIn wsX11_safe (va_wsS RX11 94 yX11_isCell wsX11_isCell) := goodIn_app (goodIn_of _ (by decide +kernel)) ggX11_safe_X11_isCell
set_option maxRecDepth 20000 in
theorem ggX11_safe_X0_search : GoodIn wsX11_safe wsX0_search := goodIn_r _ [14, 15, 16, 17, 18, 19, 20, 13, 21, 22, 23, 24, 25, 26, 27, 28, 29, 30, 31, 32, 33, 34, 35, 36, 37, 38, 39, 40, 8, 41, 42, 43, 44, 45, 46, 47, 48, 49, 50, 51, 52, 53, 54, 55, 56, 57, 58, 59, 60, 61, 62, 63, 64, 65, 66, 67, 68, 69, 70, 71, 72, 73, 74, 75, 76, 77, 78, 79, 80, 81, 82, 83, 84, 85, 86, 87, 88, 89, 90, 116, 117, 118, 119, 120, 102, 103, 104, 105, 106, 107, 108, 109, 110, 111, 112, 113, 114, 115, 121, 122, 123, 124, 125, 126, 127, 128, 129, 130, 131] (by decide +kernel) (by decide +kernel)
set_option maxRecDepth 20000 in
theorem gX11_safe_X0_search : GoodIn wsX11_safe (wsV RX11 192 RX0 yX0_search wsX0_search) := goodIn_app (goodIn_of _ (by decide +kernel)) ggX11_safe_X0_search
set_option maxRecDepth 20000 in
theorem ggX11_safe_X0_foundWay : GoodIn wsX11_safe wsX0_foundWay := goodIn_r _ [94, 90, 116, 117, 118, 119, 120] (by decide +kernel) (by decide +kernel)
set_option maxRecDepth 20000 in
theorem gX11_safe_X0_foundWay : GoodIn wsX11_safe (wsV RX11 196 RX0 yX0_foundWay wsX0_foundWay) := goodIn_app (goodIn_of _ (by decide +kernel)) ggX11_safe_X0_foundWay
theorem dX11_safe_0 : decode cX11_safe 0 = .ok (.iload_n 1, 1) := by decide +kernel
theorem dX11_safe_1 : decode cX11_safe 1 = .ok (.invokestatic 94, 3) := by decide +kernel
theorem dX11_safe_4 : decode cX11_safe 4 = .ok (.ifCond .eq 12, 3) := by decide +kernel
theorem dX11_safe_7 : decode cX11_safe 7 = .ok (.iload_n 3, 1) := by decide +kernel
theorem dX11_safe_8 : decode cX11_safe 8 = .ok (.ifCond .lt 8, 3) := by decide +kernel
theorem dX11_safe_11 : decode cX11_safe 11 = .ok (.iload_n 3, 1) := by decide +kernel
theorem dX11_safe_12 : decode cX11_safe 12 = .ok (.iconst 3, 1) := by decide +kernel
theorem dX11_safe_13 : decode cX11_safe 13 = .ok (.if_icmp .lt 5, 3) := by decide +kernel
theorem dX11_safe_16 : decode cX11_safe 16 = .ok (.iconst (-1), 1) := by decide +kernel
theorem dX11_safe_17 : decode cX11_safe 17 = .ok (.ireturn, 1) := by decide +kernel
theorem dX11_safe_18 : decode cX11_safe 18 = .ok (.iload_n 2, 1) := by decide +kernel
theorem dX11_safe_19 : decode cX11_safe 19 = .ok (.iconst 1, 1) := by decide +kernel
theorem dX11_safe_20 : decode cX11_safe 20 = .ok (.if_icmp .lt 8, 3) := by decide +kernel
theorem dX11_safe_23 : decode cX11_safe 23 = .ok (.iload_n 2, 1) := by decide +kernel
theorem dX11_safe_24 : decode cX11_safe 24 = .ok (.iconst 3, 1) := by decide +kernel
theorem dX11_safe_25 : decode cX11_safe 25 = .ok (.if_icmp .le 6, 3) := by decide +kernel
theorem dX11_safe_28 : decode cX11_safe 28 = .ok (.bipush (-2), 2) := by decide +kernel
theorem dX11_safe_30 : decode cX11_safe 30 = .ok (.ireturn, 1) := by decide +kernel
theorem dX11_safe_31 : decode cX11_safe 31 = .ok (.iload_n 3, 1) := by decide +kernel
theorem dX11_safe_32 : decode cX11_safe 32 = .ok (.iload_n 2, 1) := by decide +kernel
theorem dX11_safe_33 : decode cX11_safe 33 = .ok (.if_icmp .lt 5, 3) := by decide +kernel
theorem dX11_safe_36 : decode cX11_safe 36 = .ok (.iconst (-1), 1) := by decide +kernel
theorem dX11_safe_37 : decode cX11_safe 37 = .ok (.ireturn, 1) := by decide +kernel
theorem dX11_safe_38 : decode cX11_safe 38 = .ok (.aload_n 0, 1) := by decide +kernel
theorem dX11_safe_39 : decode cX11_safe 39 = .ok (.getfield 42, 3) := by decide +kernel
theorem dX11_safe_42 : decode cX11_safe 42 = .ok (.aload_n 0, 1) := by decide +kernel
theorem dX11_safe_43 : decode cX11_safe 43 = .ok (.getfield 14, 3) := by decide +kernel
theorem dX11_safe_46 : decode cX11_safe 46 = .ok (.iload_n 1, 1) := by decide +kernel
theorem dX11_safe_47 : decode cX11_safe 47 = .ok (.ldc2_w 202, 3) := by decide +kernel
theorem dX11_safe_50 : decode cX11_safe 50 = .ok (.aload_n 0, 1) := by decide +kernel
theorem dX11_safe_51 : decode cX11_safe 51 = .ok (.getfield 14, 3) := by decide +kernel
theorem dX11_safe_54 : decode cX11_safe 54 = .ok (.getfield 73, 3) := by decide +kernel
theorem dX11_safe_57 : decode cX11_safe 57 = .ok (.ldc2_w 179, 3) := by decide +kernel
theorem dX11_safe_60 : decode cX11_safe 60 = .ok (.lxor, 1) := by decide +kernel
theorem dX11_safe_61 : decode cX11_safe 61 = .ok (.land, 1) := by decide +kernel
theorem dX11_safe_62 : decode cX11_safe 62 = .ok (.iload_n 2, 1) := by decide +kernel
theorem dX11_safe_63 : decode cX11_safe 63 = .ok (.invokevirtual 192, 3) := by decide +kernel
theorem dX11_safe_66 : decode cX11_safe 66 = .ok (.aload_n 0, 1) := by decide +kernel
theorem dX11_safe_67 : decode cX11_safe 67 = .ok (.getfield 42, 3) := by decide +kernel
theorem dX11_safe_70 : decode cX11_safe 70 = .ok (.iload_n 2, 1) := by decide +kernel
theorem dX11_safe_71 : decode cX11_safe 71 = .ok (.iload_n 3, 1) := by decide +kernel
theorem dX11_safe_72 : decode cX11_safe 72 = .ok (.invokevirtual 196, 3) := by decide +kernel
theorem dX11_safe_75 : decode cX11_safe 75 = .ok (.ireturn, 1) := by decide +kernel
set_option maxRecDepth 20000 in
theorem ggX11_line_X8_heapAt : GoodIn wsX11_line wsX8_heapAt := goodIn_r _ [16, 17, 18, 39, 40, 41, 42, 43, 44, 45, 46, 47, 48, 49, 50, 51, 52] (by decide +kernel) (by decide +kernel)
set_option maxRecDepth 20000 in
theorem gX11_line_X8_heapAt : GoodIn wsX11_line (wsV RX11 112 RX8 yX8_heapAt wsX8_heapAt) := goodIn_app (goodIn_of _ (by decide +kernel)) ggX11_line_X8_heapAt
set_option maxRecDepth 20000 in
theorem ggX11_line_X11_apart : GoodIn wsX11_line wsX11_apart := goodIn_r _ [22, 23, 24, 7, 25, 5, 6, 8, 26, 27, 21, 28, 29, 30, 31] (by decide +kernel) (by decide +kernel)
set_option maxRecDepth 20000 in
theorem gX11_line_X11_apart : GoodIn wsX11_line (va_wsS RX11 209 yX11_apart wsX11_apart) := goodIn_app (goodIn_of _ (by decide +kernel)) ggX11_line_X11_apart
theorem dX11_line_0 : decode cX11_line 0 = .ok (.aload_n 0, 1) := by decide +kernel
theorem dX11_line_1 : decode cX11_line 1 = .ok (.getfield 14, 3) := by decide +kernel
theorem dX11_line_4 : decode cX11_line 4 = .ok (.iload_n 1, 1) := by decide +kernel
theorem dX11_line_5 : decode cX11_line 5 = .ok (.invokevirtual 112, 3) := by decide +kernel
theorem dX11_line_8 : decode cX11_line 8 = .ok (.astore_n 3, 1) := by decide +kernel
theorem dX11_line_9 : decode cX11_line 9 = .ok (.aload_n 3, 1) := by decide +kernel
theorem dX11_line_10 : decode cX11_line 10 = .ok (.ifnonnull 5, 3) := by decide +kernel
theorem dX11_line_13 : decode cX11_line 13 = .ok (.iconst (-1), 1) := by decide +kernel
theorem dX11_line_14 : decode cX11_line 14 = .ok (.ireturn, 1) := by decide +kernel
theorem dX11_line_15 : decode cX11_line 15 = .ok (.iload_n 2, 1) := by decide +kernel
theorem dX11_line_16 : decode cX11_line 16 = .ok (.iconst 1, 1) := by decide +kernel
theorem dX11_line_17 : decode cX11_line 17 = .ok (.if_icmp .lt 9, 3) := by decide +kernel
theorem dX11_line_20 : decode cX11_line 20 = .ok (.iload_n 2, 1) := by decide +kernel
theorem dX11_line_21 : decode cX11_line 21 = .ok (.bipush 9, 2) := by decide +kernel
theorem dX11_line_23 : decode cX11_line 23 = .ok (.if_icmp .le 6, 3) := by decide +kernel
theorem dX11_line_26 : decode cX11_line 26 = .ok (.bipush (-2), 2) := by decide +kernel
theorem dX11_line_28 : decode cX11_line 28 = .ok (.ireturn, 1) := by decide +kernel
theorem dX11_line_29 : decode cX11_line 29 = .ok (.iload_n 2, 1) := by decide +kernel
theorem dX11_line_30 : decode cX11_line 30 = .ok (.iconst 1, 1) := by decide +kernel
theorem dX11_line_31 : decode cX11_line 31 = .ok (.isub, 1) := by decide +kernel
theorem dX11_line_32 : decode cX11_line 32 = .ok (.iconst 0, 1) := by decide +kernel
theorem dX11_line_33 : decode cX11_line 33 = .ok (.aload_n 0, 1) := by decide +kernel
theorem dX11_line_34 : decode cX11_line 34 = .ok (.getfield 14, 3) := by decide +kernel
theorem dX11_line_37 : decode cX11_line 37 = .ok (.getfield 68, 3) := by decide +kernel
theorem dX11_line_40 : decode cX11_line 40 = .ok (.getfield 91, 3) := by decide +kernel
theorem dX11_line_43 : decode cX11_line 43 = .ok (.aload_n 0, 1) := by decide +kernel
theorem dX11_line_44 : decode cX11_line 44 = .ok (.getfield 14, 3) := by decide +kernel
theorem dX11_line_47 : decode cX11_line 47 = .ok (.getfield 85, 3) := by decide +kernel
theorem dX11_line_50 : decode cX11_line 50 = .ok (.isub, 1) := by decide +kernel
theorem dX11_line_51 : decode cX11_line 51 = .ok (.invokestatic 204, 3) := by decide +kernel
theorem dX11_line_54 : decode cX11_line 54 = .ok (.imul, 1) := by decide +kernel
theorem dX11_line_55 : decode cX11_line 55 = .ok (.istore 4, 2) := by decide +kernel
theorem dX11_line_57 : decode cX11_line 57 = .ok (.iconst 0, 1) := by decide +kernel
theorem dX11_line_58 : decode cX11_line 58 = .ok (.istore 5, 2) := by decide +kernel
theorem dX11_line_60 : decode cX11_line 60 = .ok (.iconst 0, 1) := by decide +kernel
theorem dX11_line_61 : decode cX11_line 61 = .ok (.istore 6, 2) := by decide +kernel
theorem dX11_line_63 : decode cX11_line 63 = .ok (.iload 6, 2) := by decide +kernel
theorem dX11_line_65 : decode cX11_line 65 = .ok (.aload_n 0, 1) := by decide +kernel
theorem dX11_line_66 : decode cX11_line 66 = .ok (.getfield 14, 3) := by decide +kernel
theorem dX11_line_69 : decode cX11_line 69 = .ok (.getfield 101, 3) := by decide +kernel
theorem dX11_line_72 : decode cX11_line 72 = .ok (.if_icmp .ge 49, 3) := by decide +kernel
theorem dX11_line_75 : decode cX11_line 75 = .ok (.iload 6, 2) := by decide +kernel
theorem dX11_line_77 : decode cX11_line 77 = .ok (.iload_n 1, 1) := by decide +kernel
theorem dX11_line_78 : decode cX11_line 78 = .ok (.if_icmp .eq 37, 3) := by decide +kernel
theorem dX11_line_81 : decode cX11_line 81 = .ok (.aload_n 3, 1) := by decide +kernel
theorem dX11_line_82 : decode cX11_line 82 = .ok (.getfield 124, 3) := by decide +kernel
theorem dX11_line_85 : decode cX11_line 85 = .ok (.aload_n 0, 1) := by decide +kernel
theorem dX11_line_86 : decode cX11_line 86 = .ok (.getfield 14, 3) := by decide +kernel
theorem dX11_line_89 : decode cX11_line 89 = .ok (.getfield 104, 3) := by decide +kernel
theorem dX11_line_92 : decode cX11_line 92 = .ok (.iload 6, 2) := by decide +kernel
theorem dX11_line_94 : decode cX11_line 94 = .ok (.aaload, 1) := by decide +kernel
theorem dX11_line_95 : decode cX11_line 95 = .ok (.getfield 124, 3) := by decide +kernel
theorem dX11_line_98 : decode cX11_line 98 = .ok (.invokestatic 209, 3) := by decide +kernel
theorem dX11_line_101 : decode cX11_line 101 = .ok (.iload 4, 2) := by decide +kernel
theorem dX11_line_103 : decode cX11_line 103 = .ok (.if_icmp .gt 12, 3) := by decide +kernel
theorem dX11_line_106 : decode cX11_line 106 = .ok (.iload 5, 2) := by decide +kernel
theorem dX11_line_108 : decode cX11_line 108 = .ok (.iconst 1, 1) := by decide +kernel
theorem dX11_line_109 : decode cX11_line 109 = .ok (.iload 6, 2) := by decide +kernel
theorem dX11_line_111 : decode cX11_line 111 = .ok (.ishl, 1) := by decide +kernel
theorem dX11_line_112 : decode cX11_line 112 = .ok (.ior, 1) := by decide +kernel
theorem dX11_line_113 : decode cX11_line 113 = .ok (.istore 5, 2) := by decide +kernel
theorem dX11_line_115 : decode cX11_line 115 = .ok (.iinc 6 1, 3) := by decide +kernel
theorem dX11_line_118 : decode cX11_line 118 = .ok (.goto (-55), 3) := by decide +kernel
theorem dX11_line_121 : decode cX11_line 121 = .ok (.iload 5, 2) := by decide +kernel
theorem dX11_line_123 : decode cX11_line 123 = .ok (.ireturn, 1) := by decide +kernel
set_option maxRecDepth 20000 in
theorem ggX11_next_X8_heapAt : GoodIn wsX11_next wsX8_heapAt := goodIn_r _ [7, 8, 9, 55, 56, 57, 58, 59, 60, 61, 62, 63, 64, 65, 66, 67, 68] (by decide +kernel) (by decide +kernel)
set_option maxRecDepth 20000 in
theorem gX11_next_X8_heapAt : GoodIn wsX11_next (wsV RX11 112 RX8 yX8_heapAt wsX8_heapAt) := goodIn_app (goodIn_of _ (by decide +kernel)) ggX11_next_X8_heapAt
set_option maxRecDepth 20000 in
theorem ggX11_next_X11_rowOf : GoodIn wsX11_next wsX11_rowOf := goodIn_r _ [13] (by decide +kernel) (by decide +kernel)
set_option maxRecDepth 20000 in
theorem gX11_next_X11_rowOf : GoodIn wsX11_next (va_wsS RX11 212 yX11_rowOf wsX11_rowOf) := goodIn_app (goodIn_of _ (by decide +kernel)) ggX11_next_X11_rowOf
set_option maxRecDepth 20000 in
theorem ggX11_next_X11_columnOf : GoodIn wsX11_next wsX11_columnOf := goodIn_r _ [16] (by decide +kernel) (by decide +kernel)
set_option maxRecDepth 20000 in
theorem gX11_next_X11_columnOf : GoodIn wsX11_next (va_wsS RX11 215 yX11_columnOf wsX11_columnOf) := goodIn_app (goodIn_of _ (by decide +kernel)) ggX11_next_X11_columnOf
set_option maxRecDepth 20000 in
theorem ggX11_next_X11_isOnHill : GoodIn wsX11_next wsX11_isOnHill := goodIn_r _ [19] (by decide +kernel) (by decide +kernel)
set_option maxRecDepth 20000 in
theorem gX11_next_X11_isOnHill : GoodIn wsX11_next (va_wsS RX11 218 yX11_isOnHill wsX11_isOnHill) := goodIn_app (goodIn_of _ (by decide +kernel)) ggX11_next_X11_isOnHill
theorem dX11_next_0 : decode cX11_next 0 = .ok (.aload_n 0, 1) := by decide +kernel
theorem dX11_next_1 : decode cX11_next 1 = .ok (.getfield 14, 3) := by decide +kernel
theorem dX11_next_4 : decode cX11_next 4 = .ok (.iload_n 1, 1) := by decide +kernel
theorem dX11_next_5 : decode cX11_next 5 = .ok (.invokevirtual 112, 3) := by decide +kernel
theorem dX11_next_8 : decode cX11_next 8 = .ok (.astore 4, 2) := by decide +kernel
theorem dX11_next_10 : decode cX11_next 10 = .ok (.aload_n 0, 1) := by decide +kernel
theorem dX11_next_11 : decode cX11_next 11 = .ok (.getfield 14, 3) := by decide +kernel
theorem dX11_next_14 : decode cX11_next 14 = .ok (.iload_n 2, 1) := by decide +kernel
theorem dX11_next_15 : decode cX11_next 15 = .ok (.invokevirtual 112, 3) := by decide +kernel
theorem dX11_next_18 : decode cX11_next 18 = .ok (.astore 5, 2) := by decide +kernel
theorem dX11_next_20 : decode cX11_next 20 = .ok (.aload_n 0, 1) := by decide +kernel
theorem dX11_next_21 : decode cX11_next 21 = .ok (.getfield 14, 3) := by decide +kernel
theorem dX11_next_24 : decode cX11_next 24 = .ok (.iload_n 3, 1) := by decide +kernel
theorem dX11_next_25 : decode cX11_next 25 = .ok (.invokevirtual 112, 3) := by decide +kernel
theorem dX11_next_28 : decode cX11_next 28 = .ok (.astore 6, 2) := by decide +kernel
theorem dX11_next_30 : decode cX11_next 30 = .ok (.aload 4, 2) := by decide +kernel
theorem dX11_next_32 : decode cX11_next 32 = .ok (.ifnull 13, 3) := by decide +kernel
theorem dX11_next_35 : decode cX11_next 35 = .ok (.aload 5, 2) := by decide +kernel
theorem dX11_next_37 : decode cX11_next 37 = .ok (.ifnull 8, 3) := by decide +kernel
theorem dX11_next_40 : decode cX11_next 40 = .ok (.aload 6, 2) := by decide +kernel
theorem dX11_next_42 : decode cX11_next 42 = .ok (.ifnonnull 5, 3) := by decide +kernel
theorem dX11_next_45 : decode cX11_next 45 = .ok (.iconst (-1), 1) := by decide +kernel
theorem dX11_next_46 : decode cX11_next 46 = .ok (.ireturn, 1) := by decide +kernel
theorem dX11_next_47 : decode cX11_next 47 = .ok (.iconst 3, 1) := by decide +kernel
theorem dX11_next_48 : decode cX11_next 48 = .ok (.aload 6, 2) := by decide +kernel
theorem dX11_next_50 : decode cX11_next 50 = .ok (.getfield 124, 3) := by decide +kernel
theorem dX11_next_53 : decode cX11_next 53 = .ok (.invokestatic 212, 3) := by decide +kernel
theorem dX11_next_56 : decode cX11_next 56 = .ok (.imul, 1) := by decide +kernel
theorem dX11_next_57 : decode cX11_next 57 = .ok (.iconst 3, 1) := by decide +kernel
theorem dX11_next_58 : decode cX11_next 58 = .ok (.aload 5, 2) := by decide +kernel
theorem dX11_next_60 : decode cX11_next 60 = .ok (.getfield 124, 3) := by decide +kernel
theorem dX11_next_63 : decode cX11_next 63 = .ok (.invokestatic 212, 3) := by decide +kernel
theorem dX11_next_66 : decode cX11_next 66 = .ok (.imul, 1) := by decide +kernel
theorem dX11_next_67 : decode cX11_next 67 = .ok (.isub, 1) := by decide +kernel
theorem dX11_next_68 : decode cX11_next 68 = .ok (.aload 4, 2) := by decide +kernel
theorem dX11_next_70 : decode cX11_next 70 = .ok (.getfield 124, 3) := by decide +kernel
theorem dX11_next_73 : decode cX11_next 73 = .ok (.invokestatic 212, 3) := by decide +kernel
theorem dX11_next_76 : decode cX11_next 76 = .ok (.iadd, 1) := by decide +kernel
theorem dX11_next_77 : decode cX11_next 77 = .ok (.istore 7, 2) := by decide +kernel
theorem dX11_next_79 : decode cX11_next 79 = .ok (.iconst 3, 1) := by decide +kernel
theorem dX11_next_80 : decode cX11_next 80 = .ok (.aload 6, 2) := by decide +kernel
theorem dX11_next_82 : decode cX11_next 82 = .ok (.getfield 124, 3) := by decide +kernel
theorem dX11_next_85 : decode cX11_next 85 = .ok (.invokestatic 215, 3) := by decide +kernel
theorem dX11_next_88 : decode cX11_next 88 = .ok (.imul, 1) := by decide +kernel
theorem dX11_next_89 : decode cX11_next 89 = .ok (.iconst 3, 1) := by decide +kernel
theorem dX11_next_90 : decode cX11_next 90 = .ok (.aload 5, 2) := by decide +kernel
theorem dX11_next_92 : decode cX11_next 92 = .ok (.getfield 124, 3) := by decide +kernel
theorem dX11_next_95 : decode cX11_next 95 = .ok (.invokestatic 215, 3) := by decide +kernel
theorem dX11_next_98 : decode cX11_next 98 = .ok (.imul, 1) := by decide +kernel
theorem dX11_next_99 : decode cX11_next 99 = .ok (.isub, 1) := by decide +kernel
theorem dX11_next_100 : decode cX11_next 100 = .ok (.aload 4, 2) := by decide +kernel
theorem dX11_next_102 : decode cX11_next 102 = .ok (.getfield 124, 3) := by decide +kernel
theorem dX11_next_105 : decode cX11_next 105 = .ok (.invokestatic 215, 3) := by decide +kernel
theorem dX11_next_108 : decode cX11_next 108 = .ok (.iadd, 1) := by decide +kernel
theorem dX11_next_109 : decode cX11_next 109 = .ok (.istore 8, 2) := by decide +kernel
theorem dX11_next_111 : decode cX11_next 111 = .ok (.iload 7, 2) := by decide +kernel
theorem dX11_next_113 : decode cX11_next 113 = .ok (.iload 8, 2) := by decide +kernel
theorem dX11_next_115 : decode cX11_next 115 = .ok (.invokestatic 218, 3) := by decide +kernel
theorem dX11_next_118 : decode cX11_next 118 = .ok (.ifCond .eq 14, 3) := by decide +kernel
theorem dX11_next_121 : decode cX11_next 121 = .ok (.iload 7, 2) := by decide +kernel
theorem dX11_next_123 : decode cX11_next 123 = .ok (.bipush 6, 2) := by decide +kernel
theorem dX11_next_125 : decode cX11_next 125 = .ok (.imul, 1) := by decide +kernel
theorem dX11_next_126 : decode cX11_next 126 = .ok (.iload 8, 2) := by decide +kernel
theorem dX11_next_128 : decode cX11_next 128 = .ok (.iadd, 1) := by decide +kernel
theorem dX11_next_129 : decode cX11_next 129 = .ok (.goto 5, 3) := by decide +kernel
theorem dX11_next_132 : decode cX11_next 132 = .ok (.bipush (-5), 2) := by decide +kernel
theorem dX11_next_134 : decode cX11_next 134 = .ok (.ireturn, 1) := by decide +kernel
set_option maxRecDepth 20000 in
theorem ggX11_book_X8_heapAt : GoodIn wsX11_book wsX8_heapAt := goodIn_r _ [8, 9, 10, 18, 19, 20, 21, 22, 23, 24, 25, 26, 27, 28, 29, 30, 31] (by decide +kernel) (by decide +kernel)
set_option maxRecDepth 20000 in
theorem gX11_book_X8_heapAt : GoodIn wsX11_book (wsV RX11 112 RX8 yX8_heapAt wsX8_heapAt) := goodIn_app (goodIn_of _ (by decide +kernel)) ggX11_book_X8_heapAt
theorem dX11_book_0 : decode cX11_book 0 = .ok (.iload_n 1, 1) := by decide +kernel
theorem dX11_book_1 : decode cX11_book 1 = .ok (.iconst (-1), 1) := by decide +kernel
theorem dX11_book_2 : decode cX11_book 2 = .ok (.if_icmp .ne 13, 3) := by decide +kernel
theorem dX11_book_5 : decode cX11_book 5 = .ok (.aload_n 0, 1) := by decide +kernel
theorem dX11_book_6 : decode cX11_book 6 = .ok (.getfield 14, 3) := by decide +kernel
theorem dX11_book_9 : decode cX11_book 9 = .ok (.iconst 0, 1) := by decide +kernel
theorem dX11_book_10 : decode cX11_book 10 = .ok (.putfield 221, 3) := by decide +kernel
theorem dX11_book_13 : decode cX11_book 13 = .ok (.iconst 0, 1) := by decide +kernel
theorem dX11_book_14 : decode cX11_book 14 = .ok (.ireturn, 1) := by decide +kernel
theorem dX11_book_15 : decode cX11_book 15 = .ok (.aload_n 0, 1) := by decide +kernel
theorem dX11_book_16 : decode cX11_book 16 = .ok (.getfield 14, 3) := by decide +kernel
theorem dX11_book_19 : decode cX11_book 19 = .ok (.iload_n 1, 1) := by decide +kernel
theorem dX11_book_20 : decode cX11_book 20 = .ok (.invokevirtual 112, 3) := by decide +kernel
theorem dX11_book_23 : decode cX11_book 23 = .ok (.ifnonnull 5, 3) := by decide +kernel
theorem dX11_book_26 : decode cX11_book 26 = .ok (.iconst (-1), 1) := by decide +kernel
theorem dX11_book_27 : decode cX11_book 27 = .ok (.ireturn, 1) := by decide +kernel
theorem dX11_book_28 : decode cX11_book 28 = .ok (.aload_n 0, 1) := by decide +kernel
theorem dX11_book_29 : decode cX11_book 29 = .ok (.getfield 14, 3) := by decide +kernel
theorem dX11_book_32 : decode cX11_book 32 = .ok (.getfield 221, 3) := by decide +kernel
theorem dX11_book_35 : decode cX11_book 35 = .ok (.bipush 12, 2) := by decide +kernel
theorem dX11_book_37 : decode cX11_book 37 = .ok (.if_icmp .lt 6, 3) := by decide +kernel
theorem dX11_book_40 : decode cX11_book 40 = .ok (.bipush (-4), 2) := by decide +kernel
theorem dX11_book_42 : decode cX11_book 42 = .ok (.ireturn, 1) := by decide +kernel
theorem dX11_book_43 : decode cX11_book 43 = .ok (.aload_n 0, 1) := by decide +kernel
theorem dX11_book_44 : decode cX11_book 44 = .ok (.getfield 14, 3) := by decide +kernel
theorem dX11_book_47 : decode cX11_book 47 = .ok (.getfield 224, 3) := by decide +kernel
theorem dX11_book_50 : decode cX11_book 50 = .ok (.aload_n 0, 1) := by decide +kernel
theorem dX11_book_51 : decode cX11_book 51 = .ok (.getfield 14, 3) := by decide +kernel
theorem dX11_book_54 : decode cX11_book 54 = .ok (.getfield 221, 3) := by decide +kernel
theorem dX11_book_57 : decode cX11_book 57 = .ok (.iload_n 1, 1) := by decide +kernel
theorem dX11_book_58 : decode cX11_book 58 = .ok (.iastore, 1) := by decide +kernel
theorem dX11_book_59 : decode cX11_book 59 = .ok (.aload_n 0, 1) := by decide +kernel
theorem dX11_book_60 : decode cX11_book 60 = .ok (.getfield 14, 3) := by decide +kernel
theorem dX11_book_63 : decode cX11_book 63 = .ok (.dup, 1) := by decide +kernel
theorem dX11_book_64 : decode cX11_book 64 = .ok (.getfield 221, 3) := by decide +kernel
theorem dX11_book_67 : decode cX11_book 67 = .ok (.iconst 1, 1) := by decide +kernel
theorem dX11_book_68 : decode cX11_book 68 = .ok (.iadd, 1) := by decide +kernel
theorem dX11_book_69 : decode cX11_book 69 = .ok (.putfield 221, 3) := by decide +kernel
theorem dX11_book_72 : decode cX11_book 72 = .ok (.aload_n 0, 1) := by decide +kernel
theorem dX11_book_73 : decode cX11_book 73 = .ok (.getfield 14, 3) := by decide +kernel
theorem dX11_book_76 : decode cX11_book 76 = .ok (.getfield 221, 3) := by decide +kernel
theorem dX11_book_79 : decode cX11_book 79 = .ok (.ireturn, 1) := by decide +kernel
set_option maxRecDepth 20000 in
theorem ggX11_looked_X2_link : GoodIn wsX11_looked wsX2_link := goodIn_r _ [10, 11, 12, 13, 14, 15, 16, 17, 9, 18, 19, 20, 21, 22, 23, 24, 25, 26, 27, 28, 29, 30, 31, 32, 33, 34, 35, 36, 37, 38, 39, 40, 41, 42, 43, 44, 45, 46, 47, 48, 49, 50, 51, 52, 53, 54, 55, 56, 57, 58, 59, 60, 61, 62, 63, 64, 65, 66, 67, 68, 69, 70, 71, 72, 73, 74, 75, 76, 77, 78, 79, 80, 81, 82, 83, 84, 85, 86, 87, 88, 89, 90, 91, 92, 93, 94, 95, 96, 97, 98, 99, 100, 101, 102, 103, 104, 105, 106, 107, 108, 109, 110, 111, 112, 113, 114, 115, 116, 117, 118, 119, 120, 121, 122, 123, 124, 125, 126, 127, 128, 129, 130, 131, 132, 133, 134, 135, 136, 137, 138, 139, 140, 141, 153, 154, 155, 156, 157, 158, 159, 160, 161, 162, 163, 164, 165, 166, 167, 168, 169, 170, 171, 172, 173, 174, 175, 176, 177, 178, 179, 180, 181, 182, 183, 184, 185, 186, 187, 188, 189, 190, 191, 192, 193, 194, 195, 196, 197, 198, 199, 200, 201, 202, 203, 204, 205, 206, 207, 208, 209] (by decide +kernel) (by decide +kernel)
set_option maxRecDepth 20000 in
theorem gX11_looked_X2_link : GoodIn wsX11_looked (wsV RX11 145 RX2 yX2_link wsX2_link) := goodIn_app (goodIn_of _ (by decide +kernel)) ggX11_looked_X2_link
set_option maxRecDepth 20000 in
theorem ggX11_looked_X2_isGoing : GoodIn wsX11_looked wsX2_isGoing := goodIn_r _ [145, 13, 167, 168, 169, 170] (by decide +kernel) (by decide +kernel)
set_option maxRecDepth 20000 in
theorem gX11_looked_X2_isGoing : GoodIn wsX11_looked (wsV RX11 227 RX2 yX2_isGoing wsX2_isGoing) := goodIn_app (goodIn_of _ (by decide +kernel)) ggX11_looked_X2_isGoing
theorem dX11_looked_0 : decode cX11_looked 0 = .ok (.aload_n 0, 1) := by decide +kernel
theorem dX11_looked_1 : decode cX11_looked 1 = .ok (.getfield 35, 3) := by decide +kernel
theorem dX11_looked_4 : decode cX11_looked 4 = .ok (.aload_n 0, 1) := by decide +kernel
theorem dX11_looked_5 : decode cX11_looked 5 = .ok (.getfield 14, 3) := by decide +kernel
theorem dX11_looked_8 : decode cX11_looked 8 = .ok (.aload_n 0, 1) := by decide +kernel
theorem dX11_looked_9 : decode cX11_looked 9 = .ok (.getfield 14, 3) := by decide +kernel
theorem dX11_looked_12 : decode cX11_looked 12 = .ok (.getfield 88, 3) := by decide +kernel
theorem dX11_looked_15 : decode cX11_looked 15 = .ok (.invokevirtual 145, 3) := by decide +kernel
theorem dX11_looked_18 : decode cX11_looked 18 = .ok (.iconst 1, 1) := by decide +kernel
theorem dX11_looked_19 : decode cX11_looked 19 = .ok (.istore_n 1, 1) := by decide +kernel
theorem dX11_looked_20 : decode cX11_looked 20 = .ok (.iload_n 1, 1) := by decide +kernel
theorem dX11_looked_21 : decode cX11_looked 21 = .ok (.aload_n 0, 1) := by decide +kernel
theorem dX11_looked_22 : decode cX11_looked 22 = .ok (.getfield 14, 3) := by decide +kernel
theorem dX11_looked_25 : decode cX11_looked 25 = .ok (.getfield 221, 3) := by decide +kernel
theorem dX11_looked_28 : decode cX11_looked 28 = .ok (.if_icmp .ge 49, 3) := by decide +kernel
theorem dX11_looked_31 : decode cX11_looked 31 = .ok (.aload_n 0, 1) := by decide +kernel
theorem dX11_looked_32 : decode cX11_looked 32 = .ok (.getfield 35, 3) := by decide +kernel
theorem dX11_looked_35 : decode cX11_looked 35 = .ok (.aload_n 0, 1) := by decide +kernel
theorem dX11_looked_36 : decode cX11_looked 36 = .ok (.getfield 14, 3) := by decide +kernel
theorem dX11_looked_39 : decode cX11_looked 39 = .ok (.getfield 224, 3) := by decide +kernel
theorem dX11_looked_42 : decode cX11_looked 42 = .ok (.iload_n 1, 1) := by decide +kernel
theorem dX11_looked_43 : decode cX11_looked 43 = .ok (.iconst 1, 1) := by decide +kernel
theorem dX11_looked_44 : decode cX11_looked 44 = .ok (.isub, 1) := by decide +kernel
theorem dX11_looked_45 : decode cX11_looked 45 = .ok (.iaload, 1) := by decide +kernel
theorem dX11_looked_46 : decode cX11_looked 46 = .ok (.aload_n 0, 1) := by decide +kernel
theorem dX11_looked_47 : decode cX11_looked 47 = .ok (.getfield 14, 3) := by decide +kernel
theorem dX11_looked_50 : decode cX11_looked 50 = .ok (.getfield 224, 3) := by decide +kernel
theorem dX11_looked_53 : decode cX11_looked 53 = .ok (.iload_n 1, 1) := by decide +kernel
theorem dX11_looked_54 : decode cX11_looked 54 = .ok (.iaload, 1) := by decide +kernel
theorem dX11_looked_55 : decode cX11_looked 55 = .ok (.invokevirtual 227, 3) := by decide +kernel
theorem dX11_looked_58 : decode cX11_looked 58 = .ok (.ifCond .ne 13, 3) := by decide +kernel
theorem dX11_looked_61 : decode cX11_looked 61 = .ok (.aload_n 0, 1) := by decide +kernel
theorem dX11_looked_62 : decode cX11_looked 62 = .ok (.getfield 14, 3) := by decide +kernel
theorem dX11_looked_65 : decode cX11_looked 65 = .ok (.getfield 224, 3) := by decide +kernel
theorem dX11_looked_68 : decode cX11_looked 68 = .ok (.iload_n 1, 1) := by decide +kernel
theorem dX11_looked_69 : decode cX11_looked 69 = .ok (.iaload, 1) := by decide +kernel
theorem dX11_looked_70 : decode cX11_looked 70 = .ok (.ireturn, 1) := by decide +kernel
theorem dX11_looked_71 : decode cX11_looked 71 = .ok (.iinc 1 1, 3) := by decide +kernel
theorem dX11_looked_74 : decode cX11_looked 74 = .ok (.goto (-54), 3) := by decide +kernel
theorem dX11_looked_77 : decode cX11_looked 77 = .ok (.bipush (-5), 2) := by decide +kernel
theorem dX11_looked_79 : decode cX11_looked 79 = .ok (.ireturn, 1) := by decide +kernel
set_option maxRecDepth 20000 in
theorem ggX11_act_Jx4a65c_clear_da8c8 : GoodIn wsX11_act wsJx4a65c_clear_da8c8 := goodIn_r _ [7, 8, 9, 10, 11, 180, 181, 182] (by decide +kernel) (by decide +kernel)
set_option maxRecDepth 20000 in
theorem gX11_act_Jx4a65c_clear_da8c8 : GoodIn wsX11_act (wsV RX11 230 RJx4a65c yJx4a65c_clear_da8c8 wsJx4a65c_clear_da8c8) := goodIn_app (goodIn_of _ (by decide +kernel)) ggX11_act_Jx4a65c_clear_da8c8
set_option maxRecDepth 20000 in
theorem ggX11_act_X8_heapAt : GoodIn wsX11_act wsX8_heapAt := goodIn_r _ [16, 17, 18, 183, 184, 185, 186, 187, 188, 189, 190, 191, 192, 193, 194, 195, 196] (by decide +kernel) (by decide +kernel)
set_option maxRecDepth 20000 in
theorem gX11_act_X8_heapAt : GoodIn wsX11_act (wsV RX11 112 RX8 yX8_heapAt wsX8_heapAt) := goodIn_app (goodIn_of _ (by decide +kernel)) ggX11_act_X8_heapAt
set_option maxRecDepth 20000 in
theorem ggX11_act_X3_doSees : GoodIn wsX11_act wsX3_doSees := goodIn_r _ [24, 25, 26, 27, 23, 28, 29, 30, 31, 6, 32, 11, 33, 34, 35, 36, 37, 38, 39, 40, 41, 42, 43, 44, 45, 46, 47, 48, 49, 50, 51, 52, 53, 54, 55, 8, 9, 10, 56, 57, 58, 59, 60, 61, 62, 63, 64, 65, 66, 67, 68, 69, 70, 71, 72, 73, 74, 75, 76, 77, 78, 79, 80, 81, 82, 83, 84, 85, 86, 87, 88, 89, 90, 91, 92, 93, 94, 95, 96, 97, 98, 99, 100, 101, 102, 197, 198, 199, 200, 201, 202, 203, 204, 205, 206, 207, 208, 209, 210, 211, 212, 213, 214, 215, 216, 217, 218, 219, 220, 221, 222, 223, 224, 180, 181, 182, 225] (by decide +kernel) (by decide +kernel)
set_option maxRecDepth 20000 in
theorem gX11_act_X3_doSees_u233X1 : GoodIn wsX11_act (va_wsU RX11 233 RX1 "MistHeaps$Heap" ⟨"MistHeaps$Heap", "doSees", "(ILjava/util/ArrayList;)I"⟩ yX3_doSees wsX3_doSees) := goodIn_app (goodIn_of _ (by decide +kernel)) ggX11_act_X3_doSees
set_option maxRecDepth 20000 in
theorem gX11_act_X3_doSees : GoodIn wsX11_act (wsV RX11 233 RX3 yX3_doSees wsX3_doSees) := goodIn_app (goodIn_of _ (by decide +kernel)) ggX11_act_X3_doSees
set_option maxRecDepth 20000 in
theorem ggX11_act_X4_doSees : GoodIn wsX11_act wsX4_doSees := goodIn_r _ [109, 110, 20, 111, 22, 23, 24, 25, 26, 27, 28, 29, 30, 31, 6, 32, 11, 33, 34, 35, 36, 37, 38, 39, 40, 41, 42, 43, 44, 45, 46, 47, 48, 49, 50, 51, 52, 53, 54, 55, 8, 9, 10, 56, 57, 58, 59, 60, 61, 62, 63, 64, 65, 66, 67, 68, 69, 70, 71, 72, 73, 74, 75, 76, 77, 78, 79, 80, 81, 82, 83, 84, 85, 86, 87, 88, 89, 90, 91, 92, 93, 94, 95, 96, 97, 98, 99, 100, 101, 102, 197, 198, 199, 200, 201, 202, 203, 204, 205, 206, 207, 208, 209, 210, 211, 212, 213, 214, 215, 216, 217, 218, 219, 220, 221, 222, 223, 224, 180, 181, 182, 225] (by decide +kernel) (by decide +kernel)
set_option maxRecDepth 20000 in
theorem gX11_act_X4_doSees_u233X4 : GoodIn wsX11_act (va_wsO RX11 233 RX4 "MistHeaps$Heap" ⟨"MistHeaps$Heap", "doSees", "(ILjava/util/ArrayList;)I"⟩ yX4_doSees wsX4_doSees) := goodIn_app (goodIn_of _ (by decide +kernel)) ggX11_act_X4_doSees
set_option maxRecDepth 20000 in
theorem gX11_act_X3_doSees_u233X6 : GoodIn wsX11_act (va_wsU RX11 233 RX6 "MistHeaps$Heap" ⟨"MistHeaps$Heap", "doSees", "(ILjava/util/ArrayList;)I"⟩ yX3_doSees wsX3_doSees) := goodIn_app (goodIn_of _ (by decide +kernel)) ggX11_act_X3_doSees
set_option maxRecDepth 20000 in
theorem gX11_act_X3_doSees_u233X7 : GoodIn wsX11_act (va_wsU RX11 233 RX7 "MistHeaps$Heap" ⟨"MistHeaps$Heap", "doSees", "(ILjava/util/ArrayList;)I"⟩ yX3_doSees wsX3_doSees) := goodIn_app (goodIn_of _ (by decide +kernel)) ggX11_act_X3_doSees
set_option maxRecDepth 20000 in
theorem ggX11_act_X9_doSees : GoodIn wsX11_act wsX9_doSees := goodIn_r _ [117, 118, 119, 197, 198, 199, 200, 201, 202, 203, 204, 205, 206, 207, 208, 209, 210, 211, 212, 213, 214, 215, 216, 217, 218, 219, 220, 221, 222, 223, 224] (by decide +kernel) (by decide +kernel)
set_option maxRecDepth 20000 in
theorem gX11_act_X9_doSees_u233X9 : GoodIn wsX11_act (va_wsO RX11 233 RX9 "MistHeaps$Heap" ⟨"MistHeaps$Heap", "doSees", "(ILjava/util/ArrayList;)I"⟩ yX9_doSees wsX9_doSees) := goodIn_app (goodIn_of _ (by decide +kernel)) ggX11_act_X9_doSees
set_option maxRecDepth 20000 in
theorem gX11_act_X4_doSees_u233X10 : GoodIn wsX11_act (va_wsO RX11 233 RX10 "MistHeaps$Heap" ⟨"MistHeaps$Heap", "doSees", "(ILjava/util/ArrayList;)I"⟩ yX4_doSees wsX4_doSees) := goodIn_app (goodIn_of _ (by decide +kernel)) ggX11_act_X4_doSees
set_option maxRecDepth 20000 in
theorem ggX11_act_X3_doGoes : GoodIn wsX11_act wsX3_doGoes := goodIn_r _ [125, 126, 26, 27, 23, 28, 29, 30, 31, 6, 32, 11, 33, 34, 35, 36, 37, 38, 39, 40, 41, 42, 43, 44, 45, 46, 47, 48, 49, 50, 51, 52, 53, 54, 55, 8, 9, 10, 56, 57, 58, 59, 60, 61, 62, 63, 64, 65, 66, 67, 68, 69, 70, 71, 72, 73, 74, 75, 76, 77, 78, 79, 80, 81, 82, 83, 84, 85, 86, 87, 88, 89, 90, 91, 92, 93, 94, 95, 96, 97, 98, 99, 100, 101, 102, 127, 20, 21, 22, 24, 25, 128, 104, 105, 106, 107, 108, 109, 110, 111, 112, 113, 114, 115, 116, 117, 118, 119, 120, 197, 198, 199, 200, 201, 202, 203, 204, 205, 206, 207, 208, 209, 210, 211, 212, 213, 214, 215, 216, 217, 218, 219, 220, 221, 222, 223, 224, 180, 181, 182, 225] (by decide +kernel) (by decide +kernel)
set_option maxRecDepth 20000 in
theorem gX11_act_X3_doGoes_u237X1 : GoodIn wsX11_act (va_wsU RX11 237 RX1 "MistHeaps$Heap" ⟨"MistHeaps$Heap", "doGoes", "(ILjava/util/ArrayList;)I"⟩ yX3_doGoes wsX3_doGoes) := goodIn_app (goodIn_of _ (by decide +kernel)) ggX11_act_X3_doGoes
set_option maxRecDepth 20000 in
theorem gX11_act_X3_doGoes : GoodIn wsX11_act (wsV RX11 237 RX3 yX3_doGoes wsX3_doGoes) := goodIn_app (goodIn_of _ (by decide +kernel)) ggX11_act_X3_doGoes
set_option maxRecDepth 20000 in
theorem gX11_act_X3_doGoes_u237X4 : GoodIn wsX11_act (va_wsU RX11 237 RX4 "MistHeaps$Heap" ⟨"MistHeaps$Heap", "doGoes", "(ILjava/util/ArrayList;)I"⟩ yX3_doGoes wsX3_doGoes) := goodIn_app (goodIn_of _ (by decide +kernel)) ggX11_act_X3_doGoes
set_option maxRecDepth 20000 in
theorem ggX11_act_X6_doGoes : GoodIn wsX11_act wsX6_doGoes := goodIn_r _ [136, 137, 122, 138, 124, 23, 125, 126, 26, 27, 28, 29, 30, 31, 6, 32, 11, 33, 34, 35, 36, 37, 38, 39, 40, 41, 42, 43, 44, 45, 46, 47, 48, 49, 50, 51, 52, 53, 54, 55, 8, 9, 10, 56, 57, 58, 59, 60, 61, 62, 63, 64, 65, 66, 67, 68, 69, 70, 71, 72, 73, 74, 75, 76, 77, 78, 79, 80, 81, 82, 83, 84, 85, 86, 87, 88, 89, 90, 91, 92, 93, 94, 95, 96, 97, 98, 99, 100, 101, 102, 127, 20, 21, 22, 24, 25, 128, 104, 105, 106, 107, 108, 109, 110, 111, 112, 113, 114, 115, 116, 117, 118, 119, 120, 197, 198, 199, 200, 201, 202, 203, 204, 205, 206, 207, 208, 209, 210, 211, 212, 213, 214, 215, 216, 217, 218, 219, 220, 221, 222, 223, 224, 180, 181, 182, 225] (by decide +kernel) (by decide +kernel)
set_option maxRecDepth 20000 in
theorem gX11_act_X6_doGoes_u237X6 : GoodIn wsX11_act (va_wsO RX11 237 RX6 "MistHeaps$Heap" ⟨"MistHeaps$Heap", "doGoes", "(ILjava/util/ArrayList;)I"⟩ yX6_doGoes wsX6_doGoes) := goodIn_app (goodIn_of _ (by decide +kernel)) ggX11_act_X6_doGoes
set_option maxRecDepth 20000 in
theorem ggX11_act_X7_doGoes : GoodIn wsX11_act wsX7_doGoes := goodIn_r _ [142, 143, 144, 197, 198, 199, 200, 201, 202, 203, 204, 205, 206, 207, 208, 209, 210, 211, 212, 213, 214, 215, 216, 217, 218, 219, 220, 221, 222, 223, 224] (by decide +kernel) (by decide +kernel)
set_option maxRecDepth 20000 in
theorem gX11_act_X7_doGoes_u237X7 : GoodIn wsX11_act (va_wsO RX11 237 RX7 "MistHeaps$Heap" ⟨"MistHeaps$Heap", "doGoes", "(ILjava/util/ArrayList;)I"⟩ yX7_doGoes wsX7_doGoes) := goodIn_app (goodIn_of _ (by decide +kernel)) ggX11_act_X7_doGoes
set_option maxRecDepth 20000 in
theorem gX11_act_X6_doGoes_u237X9 : GoodIn wsX11_act (va_wsO RX11 237 RX9 "MistHeaps$Heap" ⟨"MistHeaps$Heap", "doGoes", "(ILjava/util/ArrayList;)I"⟩ yX6_doGoes wsX6_doGoes) := goodIn_app (goodIn_of _ (by decide +kernel)) ggX11_act_X6_doGoes
set_option maxRecDepth 20000 in
theorem gX11_act_X3_doGoes_u237X10 : GoodIn wsX11_act (va_wsU RX11 237 RX10 "MistHeaps$Heap" ⟨"MistHeaps$Heap", "doGoes", "(ILjava/util/ArrayList;)I"⟩ yX3_doGoes wsX3_doGoes) := goodIn_app (goodIn_of _ (by decide +kernel)) ggX11_act_X3_doGoes
set_option maxRecDepth 20000 in
theorem ggX11_act_X1_doLooks : GoodIn wsX11_act wsX1_doLooks := goodIn_r _ [153, 154, 148, 155, 156, 23, 157, 26, 27, 28, 29, 30, 31, 6, 32, 11, 33, 34, 35, 36, 37, 38, 39, 40, 41, 42, 43, 44, 45, 46, 47, 48, 49, 50, 51, 52, 53, 54, 55, 8, 9, 10, 56, 57, 58, 59, 60, 61, 62, 63, 64, 65, 66, 67, 68, 69, 70, 71, 72, 73, 74, 75, 76, 77, 78, 79, 80, 81, 82, 83, 84, 85, 86, 87, 88, 89, 90, 91, 92, 93, 94, 95, 96, 97, 98, 99, 100, 101, 102, 158, 122, 123, 124, 125, 126, 127, 20, 21, 22, 24, 25, 128, 104, 105, 106, 107, 108, 109, 110, 111, 112, 113, 114, 115, 116, 117, 118, 119, 120, 159, 130, 131, 132, 133, 134, 135, 136, 137, 138, 139, 140, 141, 142, 143, 144, 145, 146, 180, 181, 182, 225, 197, 198, 199, 200, 201, 202, 203, 204, 205, 206, 207, 208, 209, 210, 211, 212, 213, 214, 215, 216, 217, 218, 219, 220, 221, 222, 223, 224] (by decide +kernel) (by decide +kernel)
set_option maxRecDepth 20000 in
theorem gX11_act_X1_doLooks_u240X1 : GoodIn wsX11_act (va_wsO RX11 240 RX1 "MistHeaps$Heap" ⟨"MistHeaps$Heap", "doLooks", "(ILjava/util/ArrayList;)I"⟩ yX1_doLooks wsX1_doLooks) := goodIn_app (goodIn_of _ (by decide +kernel)) ggX11_act_X1_doLooks
set_option maxRecDepth 20000 in
theorem ggX11_act_X3_doLooks : GoodIn wsX11_act wsX3_doLooks := goodIn_r _ [157, 26, 27, 23, 28, 29, 30, 31, 6, 32, 11, 33, 34, 35, 36, 37, 38, 39, 40, 41, 42, 43, 44, 45, 46, 47, 48, 49, 50, 51, 52, 53, 54, 55, 8, 9, 10, 56, 57, 58, 59, 60, 61, 62, 63, 64, 65, 66, 67, 68, 69, 70, 71, 72, 73, 74, 75, 76, 77, 78, 79, 80, 81, 82, 83, 84, 85, 86, 87, 88, 89, 90, 91, 92, 93, 94, 95, 96, 97, 98, 99, 100, 101, 102, 158, 122, 123, 124, 125, 126, 127, 20, 21, 22, 24, 25, 128, 104, 105, 106, 107, 108, 109, 110, 111, 112, 113, 114, 115, 116, 117, 118, 119, 120, 159, 130, 131, 132, 133, 134, 135, 136, 137, 138, 139, 140, 141, 142, 143, 144, 145, 146, 180, 181, 182, 225, 197, 198, 199, 200, 201, 202, 203, 204, 205, 206, 207, 208, 209, 210, 211, 212, 213, 214, 215, 216, 217, 218, 219, 220, 221, 222, 223, 224] (by decide +kernel) (by decide +kernel)
set_option maxRecDepth 20000 in
theorem gX11_act_X3_doLooks : GoodIn wsX11_act (wsV RX11 240 RX3 yX3_doLooks wsX3_doLooks) := goodIn_app (goodIn_of _ (by decide +kernel)) ggX11_act_X3_doLooks
set_option maxRecDepth 20000 in
theorem gX11_act_X3_doLooks_u240X4 : GoodIn wsX11_act (va_wsU RX11 240 RX4 "MistHeaps$Heap" ⟨"MistHeaps$Heap", "doLooks", "(ILjava/util/ArrayList;)I"⟩ yX3_doLooks wsX3_doLooks) := goodIn_app (goodIn_of _ (by decide +kernel)) ggX11_act_X3_doLooks
set_option maxRecDepth 20000 in
theorem gX11_act_X3_doLooks_u240X6 : GoodIn wsX11_act (va_wsU RX11 240 RX6 "MistHeaps$Heap" ⟨"MistHeaps$Heap", "doLooks", "(ILjava/util/ArrayList;)I"⟩ yX3_doLooks wsX3_doLooks) := goodIn_app (goodIn_of _ (by decide +kernel)) ggX11_act_X3_doLooks
set_option maxRecDepth 20000 in
theorem gX11_act_X1_doLooks_u240X7 : GoodIn wsX11_act (va_wsO RX11 240 RX7 "MistHeaps$Heap" ⟨"MistHeaps$Heap", "doLooks", "(ILjava/util/ArrayList;)I"⟩ yX1_doLooks wsX1_doLooks) := goodIn_app (goodIn_of _ (by decide +kernel)) ggX11_act_X1_doLooks
set_option maxRecDepth 20000 in
theorem gX11_act_X3_doLooks_u240X9 : GoodIn wsX11_act (va_wsU RX11 240 RX9 "MistHeaps$Heap" ⟨"MistHeaps$Heap", "doLooks", "(ILjava/util/ArrayList;)I"⟩ yX3_doLooks wsX3_doLooks) := goodIn_app (goodIn_of _ (by decide +kernel)) ggX11_act_X3_doLooks
set_option maxRecDepth 20000 in
theorem ggX11_act_X10_doLooks : GoodIn wsX11_act wsX10_doLooks := goodIn_r _ [169, 170, 171, 172, 107, 108, 109, 110, 20, 111, 22, 23, 24, 25, 26, 27, 28, 29, 30, 31, 6, 32, 11, 33, 34, 35, 36, 37, 38, 39, 40, 41, 42, 43, 44, 45, 46, 47, 48, 49, 50, 51, 52, 53, 54, 55, 8, 9, 10, 56, 57, 58, 59, 60, 61, 62, 63, 64, 65, 66, 67, 68, 69, 70, 71, 72, 73, 74, 75, 76, 77, 78, 79, 80, 81, 82, 83, 84, 85, 86, 87, 88, 89, 90, 91, 92, 93, 94, 95, 96, 97, 98, 99, 100, 101, 102, 197, 198, 199, 200, 201, 202, 203, 204, 205, 206, 207, 208, 209, 210, 211, 212, 213, 214, 215, 216, 217, 218, 219, 220, 221, 222, 223, 224, 180, 181, 182, 225] (by decide +kernel) (by decide +kernel)
set_option maxRecDepth 20000 in
theorem gX11_act_X10_doLooks_u240X10 : GoodIn wsX11_act (va_wsO RX11 240 RX10 "MistHeaps$Heap" ⟨"MistHeaps$Heap", "doLooks", "(ILjava/util/ArrayList;)I"⟩ yX10_doLooks wsX10_doLooks) := goodIn_app (goodIn_of _ (by decide +kernel)) ggX11_act_X10_doLooks
theorem dX11_act_0 : decode cX11_act 0 = .ok (.aload_n 0, 1) := by decide +kernel
theorem dX11_act_1 : decode cX11_act 1 = .ok (.getfield 49, 3) := by decide +kernel
theorem dX11_act_4 : decode cX11_act 4 = .ok (.invokevirtual 230, 3) := by decide +kernel
theorem dX11_act_7 : decode cX11_act 7 = .ok (.aload_n 0, 1) := by decide +kernel
theorem dX11_act_8 : decode cX11_act 8 = .ok (.getfield 14, 3) := by decide +kernel
theorem dX11_act_11 : decode cX11_act 11 = .ok (.iload_n 1, 1) := by decide +kernel
theorem dX11_act_12 : decode cX11_act 12 = .ok (.invokevirtual 112, 3) := by decide +kernel
theorem dX11_act_15 : decode cX11_act 15 = .ok (.astore 4, 2) := by decide +kernel
theorem dX11_act_17 : decode cX11_act 17 = .ok (.aload 4, 2) := by decide +kernel
theorem dX11_act_19 : decode cX11_act 19 = .ok (.ifnonnull 5, 3) := by decide +kernel
theorem dX11_act_22 : decode cX11_act 22 = .ok (.iconst 0, 1) := by decide +kernel
theorem dX11_act_23 : decode cX11_act 23 = .ok (.ireturn, 1) := by decide +kernel
theorem dX11_act_24 : decode cX11_act 24 = .ok (.iload_n 2, 1) := by decide +kernel
theorem dX11_act_25 : decode cX11_act 25 = .ok (.tableswitch 60 0 2 #[27, 38, 49], 27) := by decide +kernel
theorem dX11_act_52 : decode cX11_act 52 = .ok (.aload 4, 2) := by decide +kernel
theorem dX11_act_54 : decode cX11_act 54 = .ok (.iload_n 3, 1) := by decide +kernel
theorem dX11_act_55 : decode cX11_act 55 = .ok (.aload_n 0, 1) := by decide +kernel
theorem dX11_act_56 : decode cX11_act 56 = .ok (.getfield 49, 3) := by decide +kernel
theorem dX11_act_59 : decode cX11_act 59 = .ok (.invokevirtual 233, 3) := by decide +kernel
theorem dX11_act_62 : decode cX11_act 62 = .ok (.ireturn, 1) := by decide +kernel
theorem dX11_act_63 : decode cX11_act 63 = .ok (.aload 4, 2) := by decide +kernel
theorem dX11_act_65 : decode cX11_act 65 = .ok (.iload_n 3, 1) := by decide +kernel
theorem dX11_act_66 : decode cX11_act 66 = .ok (.aload_n 0, 1) := by decide +kernel
theorem dX11_act_67 : decode cX11_act 67 = .ok (.getfield 49, 3) := by decide +kernel
theorem dX11_act_70 : decode cX11_act 70 = .ok (.invokevirtual 237, 3) := by decide +kernel
theorem dX11_act_73 : decode cX11_act 73 = .ok (.ireturn, 1) := by decide +kernel
theorem dX11_act_74 : decode cX11_act 74 = .ok (.aload 4, 2) := by decide +kernel
theorem dX11_act_76 : decode cX11_act 76 = .ok (.iload_n 3, 1) := by decide +kernel
theorem dX11_act_77 : decode cX11_act 77 = .ok (.aload_n 0, 1) := by decide +kernel
theorem dX11_act_78 : decode cX11_act 78 = .ok (.getfield 49, 3) := by decide +kernel
theorem dX11_act_81 : decode cX11_act 81 = .ok (.invokevirtual 240, 3) := by decide +kernel
theorem dX11_act_84 : decode cX11_act 84 = .ok (.ireturn, 1) := by decide +kernel
theorem dX11_act_85 : decode cX11_act 85 = .ok (.iconst 0, 1) := by decide +kernel
theorem dX11_act_86 : decode cX11_act 86 = .ok (.ireturn, 1) := by decide +kernel
set_option maxRecDepth 20000 in
theorem ggX11_trace_Jx4a65c_size_8abf5 : GoodIn wsX11_trace wsJx4a65c_size_8abf5 := goodIn_r _ [7, 8, 39, 40, 41] (by decide +kernel) (by decide +kernel)
set_option maxRecDepth 20000 in
theorem gX11_trace_Jx4a65c_size_8abf5 : GoodIn wsX11_trace (wsV RX11 243 RJx4a65c yJx4a65c_size_8abf5 wsJx4a65c_size_8abf5) := goodIn_app (goodIn_of _ (by decide +kernel)) ggX11_trace_Jx4a65c_size_8abf5
set_option maxRecDepth 20000 in
theorem ggX11_trace_Jx4a65c_get_915e3 : GoodIn wsX11_trace wsJx4a65c_get_915e3 := goodIn_r _ [12, 8, 13, 14, 15, 16, 17, 18, 19, 20, 21, 22, 23, 6, 24, 25, 39, 40, 41] (by decide +kernel) (by decide +kernel)
set_option maxRecDepth 20000 in
theorem gX11_trace_Jx4a65c_get_915e3 : GoodIn wsX11_trace (wsV RX11 247 RJx4a65c yJx4a65c_get_915e3 wsJx4a65c_get_915e3) := goodIn_app (goodIn_of _ (by decide +kernel)) ggX11_trace_Jx4a65c_get_915e3
set_option maxRecDepth 20000 in
theorem ggX11_trace_J6_intValue_8abf5 : GoodIn wsX11_trace wsJ6_intValue_8abf5 := goodIn_r _ [30, 31, 42] (by decide +kernel) (by decide +kernel)
set_option maxRecDepth 20000 in
theorem gX11_trace_J6_intValue_8abf5 : GoodIn wsX11_trace (wsV RX11 253 RJ6 yJ6_intValue_8abf5 wsJ6_intValue_8abf5) := goodIn_app (goodIn_of _ (by decide +kernel)) ggX11_trace_J6_intValue_8abf5
theorem dX11_trace_0 : decode cX11_trace 0 = .ok (.iload_n 1, 1) := by decide +kernel
theorem dX11_trace_1 : decode cX11_trace 1 = .ok (.ifCond .lt 31, 3) := by decide +kernel
theorem dX11_trace_4 : decode cX11_trace 4 = .ok (.iload_n 1, 1) := by decide +kernel
theorem dX11_trace_5 : decode cX11_trace 5 = .ok (.aload_n 0, 1) := by decide +kernel
theorem dX11_trace_6 : decode cX11_trace 6 = .ok (.getfield 49, 3) := by decide +kernel
theorem dX11_trace_9 : decode cX11_trace 9 = .ok (.invokevirtual 243, 3) := by decide +kernel
theorem dX11_trace_12 : decode cX11_trace 12 = .ok (.if_icmp .ge 20, 3) := by decide +kernel
theorem dX11_trace_15 : decode cX11_trace 15 = .ok (.aload_n 0, 1) := by decide +kernel
theorem dX11_trace_16 : decode cX11_trace 16 = .ok (.getfield 49, 3) := by decide +kernel
theorem dX11_trace_19 : decode cX11_trace 19 = .ok (.iload_n 1, 1) := by decide +kernel
theorem dX11_trace_20 : decode cX11_trace 20 = .ok (.invokevirtual 247, 3) := by decide +kernel
theorem dX11_trace_23 : decode cX11_trace 23 = .ok (.checkcast 251, 3) := by decide +kernel
theorem dX11_trace_26 : decode cX11_trace 26 = .ok (.invokevirtual 253, 3) := by decide +kernel
theorem dX11_trace_29 : decode cX11_trace 29 = .ok (.goto 4, 3) := by decide +kernel
theorem dX11_trace_32 : decode cX11_trace 32 = .ok (.iconst (-1), 1) := by decide +kernel
theorem dX11_trace_33 : decode cX11_trace 33 = .ok (.ireturn, 1) := by decide +kernel
set_option maxRecDepth 20000 in
theorem ggX11_as_X8_heapAt : GoodIn wsX11_as wsX8_heapAt := goodIn_r _ [7, 8, 9, 59, 60, 61, 62, 63, 64, 65, 66, 67, 68, 69, 70, 71, 72] (by decide +kernel) (by decide +kernel)
set_option maxRecDepth 20000 in
theorem gX11_as_X8_heapAt : GoodIn wsX11_as (wsV RX11 112 RX8 yX8_heapAt wsX8_heapAt) := goodIn_app (goodIn_of _ (by decide +kernel)) ggX11_as_X8_heapAt
set_option maxRecDepth 20000 in
theorem ggX11_as_X3_isOfKind : GoodIn wsX11_as wsX3_isOfKind := goodIn_r _ [15, 16, 31, 32, 33, 34, 35, 36, 37, 38, 39, 40, 41, 42, 43, 44, 45, 46, 47, 48, 49, 50, 51, 52, 53, 54, 55, 56, 57, 58] (by decide +kernel) (by decide +kernel)
set_option maxRecDepth 20000 in
theorem gX11_as_X3_isOfKind_u256X1 : GoodIn wsX11_as (va_wsU RX11 256 RX1 "MistHeaps$Heap" ⟨"MistHeaps$Heap", "isOfKind", "(I)Z"⟩ yX3_isOfKind wsX3_isOfKind) := goodIn_app (goodIn_of _ (by decide +kernel)) ggX11_as_X3_isOfKind
set_option maxRecDepth 20000 in
theorem gX11_as_X3_isOfKind : GoodIn wsX11_as (wsV RX11 256 RX3 yX3_isOfKind wsX3_isOfKind) := goodIn_app (goodIn_of _ (by decide +kernel)) ggX11_as_X3_isOfKind
set_option maxRecDepth 20000 in
theorem gX11_as_X3_isOfKind_u256X4 : GoodIn wsX11_as (va_wsU RX11 256 RX4 "MistHeaps$Heap" ⟨"MistHeaps$Heap", "isOfKind", "(I)Z"⟩ yX3_isOfKind wsX3_isOfKind) := goodIn_app (goodIn_of _ (by decide +kernel)) ggX11_as_X3_isOfKind
set_option maxRecDepth 20000 in
theorem gX11_as_X3_isOfKind_u256X6 : GoodIn wsX11_as (va_wsU RX11 256 RX6 "MistHeaps$Heap" ⟨"MistHeaps$Heap", "isOfKind", "(I)Z"⟩ yX3_isOfKind wsX3_isOfKind) := goodIn_app (goodIn_of _ (by decide +kernel)) ggX11_as_X3_isOfKind
set_option maxRecDepth 20000 in
theorem gX11_as_X3_isOfKind_u256X7 : GoodIn wsX11_as (va_wsU RX11 256 RX7 "MistHeaps$Heap" ⟨"MistHeaps$Heap", "isOfKind", "(I)Z"⟩ yX3_isOfKind wsX3_isOfKind) := goodIn_app (goodIn_of _ (by decide +kernel)) ggX11_as_X3_isOfKind
set_option maxRecDepth 20000 in
theorem gX11_as_X3_isOfKind_u256X9 : GoodIn wsX11_as (va_wsU RX11 256 RX9 "MistHeaps$Heap" ⟨"MistHeaps$Heap", "isOfKind", "(I)Z"⟩ yX3_isOfKind wsX3_isOfKind) := goodIn_app (goodIn_of _ (by decide +kernel)) ggX11_as_X3_isOfKind
set_option maxRecDepth 20000 in
theorem gX11_as_X3_isOfKind_u256X10 : GoodIn wsX11_as (va_wsU RX11 256 RX10 "MistHeaps$Heap" ⟨"MistHeaps$Heap", "isOfKind", "(I)Z"⟩ yX3_isOfKind wsX3_isOfKind) := goodIn_app (goodIn_of _ (by decide +kernel)) ggX11_as_X3_isOfKind
theorem dX11_as_0 : decode cX11_as 0 = .ok (.aload_n 0, 1) := by decide +kernel
theorem dX11_as_1 : decode cX11_as 1 = .ok (.getfield 14, 3) := by decide +kernel
theorem dX11_as_4 : decode cX11_as 4 = .ok (.iload_n 1, 1) := by decide +kernel
theorem dX11_as_5 : decode cX11_as 5 = .ok (.invokevirtual 112, 3) := by decide +kernel
theorem dX11_as_8 : decode cX11_as 8 = .ok (.astore_n 3, 1) := by decide +kernel
theorem dX11_as_9 : decode cX11_as 9 = .ok (.aload_n 3, 1) := by decide +kernel
theorem dX11_as_10 : decode cX11_as 10 = .ok (.ifnull 13, 3) := by decide +kernel
theorem dX11_as_13 : decode cX11_as 13 = .ok (.iload_n 2, 1) := by decide +kernel
theorem dX11_as_14 : decode cX11_as 14 = .ok (.ifCond .lt 9, 3) := by decide +kernel
theorem dX11_as_17 : decode cX11_as 17 = .ok (.iload_n 2, 1) := by decide +kernel
theorem dX11_as_18 : decode cX11_as 18 = .ok (.bipush 7, 2) := by decide +kernel
theorem dX11_as_20 : decode cX11_as 20 = .ok (.if_icmp .lt 5, 3) := by decide +kernel
theorem dX11_as_23 : decode cX11_as 23 = .ok (.iconst (-1), 1) := by decide +kernel
theorem dX11_as_24 : decode cX11_as 24 = .ok (.ireturn, 1) := by decide +kernel
theorem dX11_as_25 : decode cX11_as 25 = .ok (.aload_n 3, 1) := by decide +kernel
theorem dX11_as_26 : decode cX11_as 26 = .ok (.iload_n 2, 1) := by decide +kernel
theorem dX11_as_27 : decode cX11_as 27 = .ok (.invokevirtual 256, 3) := by decide +kernel
theorem dX11_as_30 : decode cX11_as 30 = .ok (.ifCond .eq 10, 3) := by decide +kernel
theorem dX11_as_33 : decode cX11_as 33 = .ok (.aload_n 3, 1) := by decide +kernel
theorem dX11_as_34 : decode cX11_as 34 = .ok (.getfield 121, 3) := by decide +kernel
theorem dX11_as_37 : decode cX11_as 37 = .ok (.goto 5, 3) := by decide +kernel
theorem dX11_as_40 : decode cX11_as 40 = .ok (.bipush (-6), 2) := by decide +kernel
theorem dX11_as_42 : decode cX11_as 42 = .ok (.ireturn, 1) := by decide +kernel
set_option maxRecDepth 20000 in
theorem ggX11_image_X8_copyFrom : GoodIn wsX11_image wsX8_copyFrom := goodIn_r _ [9, 10, 11, 12, 13, 14, 15, 16, 17, 18, 19, 20, 21, 22, 23, 24, 25, 26, 34, 35, 36, 37, 38, 39, 40, 41, 42, 43, 44, 45, 46, 47] (by decide +kernel) (by decide +kernel)
set_option maxRecDepth 20000 in
theorem gX11_image_X8_copyFrom : GoodIn wsX11_image (wsV RX11 259 RX8 yX8_copyFrom wsX8_copyFrom) := goodIn_app (goodIn_of _ (by decide +kernel)) ggX11_image_X8_copyFrom
theorem dX11_image_0 : decode cX11_image 0 = .ok (.aload_n 0, 1) := by decide +kernel
theorem dX11_image_1 : decode cX11_image 1 = .ok (.getfield 18, 3) := by decide +kernel
theorem dX11_image_4 : decode cX11_image 4 = .ok (.aload_n 0, 1) := by decide +kernel
theorem dX11_image_5 : decode cX11_image 5 = .ok (.getfield 14, 3) := by decide +kernel
theorem dX11_image_8 : decode cX11_image 8 = .ok (.invokevirtual 259, 3) := by decide +kernel
theorem dX11_image_11 : decode cX11_image 11 = .ok (.aload_n 0, 1) := by decide +kernel
theorem dX11_image_12 : decode cX11_image 12 = .ok (.iconst 1, 1) := by decide +kernel
theorem dX11_image_13 : decode cX11_image 13 = .ok (.putfield 21, 3) := by decide +kernel
theorem dX11_image_16 : decode cX11_image 16 = .ok (.aload_n 0, 1) := by decide +kernel
theorem dX11_image_17 : decode cX11_image 17 = .ok (.getfield 14, 3) := by decide +kernel
theorem dX11_image_20 : decode cX11_image 20 = .ok (.getfield 101, 3) := by decide +kernel
theorem dX11_image_23 : decode cX11_image 23 = .ok (.ireturn, 1) := by decide +kernel
set_option maxRecDepth 20000 in
theorem ggX11_undo_X8_copyFrom : GoodIn wsX11_undo wsX8_copyFrom := goodIn_r _ [9, 10, 11, 12, 13, 14, 15, 16, 17, 18, 19, 20, 21, 22, 23, 24, 25, 26, 34, 35, 36, 37, 38, 39, 40, 41, 42, 43, 44, 45, 46, 47] (by decide +kernel) (by decide +kernel)
set_option maxRecDepth 20000 in
theorem gX11_undo_X8_copyFrom : GoodIn wsX11_undo (wsV RX11 259 RX8 yX8_copyFrom wsX8_copyFrom) := goodIn_app (goodIn_of _ (by decide +kernel)) ggX11_undo_X8_copyFrom
theorem dX11_undo_0 : decode cX11_undo 0 = .ok (.aload_n 0, 1) := by decide +kernel
theorem dX11_undo_1 : decode cX11_undo 1 = .ok (.getfield 21, 3) := by decide +kernel
theorem dX11_undo_4 : decode cX11_undo 4 = .ok (.ifCond .ne 6, 3) := by decide +kernel
theorem dX11_undo_7 : decode cX11_undo 7 = .ok (.bipush (-3), 2) := by decide +kernel
theorem dX11_undo_9 : decode cX11_undo 9 = .ok (.ireturn, 1) := by decide +kernel
theorem dX11_undo_10 : decode cX11_undo 10 = .ok (.aload_n 0, 1) := by decide +kernel
theorem dX11_undo_11 : decode cX11_undo 11 = .ok (.getfield 14, 3) := by decide +kernel
theorem dX11_undo_14 : decode cX11_undo 14 = .ok (.aload_n 0, 1) := by decide +kernel
theorem dX11_undo_15 : decode cX11_undo 15 = .ok (.getfield 18, 3) := by decide +kernel
theorem dX11_undo_18 : decode cX11_undo 18 = .ok (.invokevirtual 259, 3) := by decide +kernel
theorem dX11_undo_21 : decode cX11_undo 21 = .ok (.aload_n 0, 1) := by decide +kernel
theorem dX11_undo_22 : decode cX11_undo 22 = .ok (.getfield 14, 3) := by decide +kernel
theorem dX11_undo_25 : decode cX11_undo 25 = .ok (.getfield 101, 3) := by decide +kernel
theorem dX11_undo_28 : decode cX11_undo 28 = .ok (.ireturn, 1) := by decide +kernel
set_option maxRecDepth 20000 in
theorem ggX11_count_Jx4a65c_size_8abf5 : GoodIn wsX11_count wsJx4a65c_size_8abf5 := goodIn_r _ [12, 13, 35, 36, 37] (by decide +kernel) (by decide +kernel)
set_option maxRecDepth 20000 in
theorem gX11_count_Jx4a65c_size_8abf5 : GoodIn wsX11_count (wsV RX11 243 RJx4a65c yJx4a65c_size_8abf5 wsJx4a65c_size_8abf5) := goodIn_app (goodIn_of _ (by decide +kernel)) ggX11_count_Jx4a65c_size_8abf5
theorem dX11_count_0 : decode cX11_count 0 = .ok (.iload_n 1, 1) := by decide +kernel
theorem dX11_count_1 : decode cX11_count 1 = .ok (.tableswitch 87 0 5 #[39, 47, 55, 63, 71, 79], 39) := by decide +kernel
theorem dX11_count_40 : decode cX11_count 40 = .ok (.aload_n 0, 1) := by decide +kernel
theorem dX11_count_41 : decode cX11_count 41 = .ok (.getfield 14, 3) := by decide +kernel
theorem dX11_count_44 : decode cX11_count 44 = .ok (.getfield 101, 3) := by decide +kernel
theorem dX11_count_47 : decode cX11_count 47 = .ok (.ireturn, 1) := by decide +kernel
theorem dX11_count_48 : decode cX11_count 48 = .ok (.aload_n 0, 1) := by decide +kernel
theorem dX11_count_49 : decode cX11_count 49 = .ok (.getfield 14, 3) := by decide +kernel
theorem dX11_count_52 : decode cX11_count 52 = .ok (.getfield 61, 3) := by decide +kernel
theorem dX11_count_55 : decode cX11_count 55 = .ok (.ireturn, 1) := by decide +kernel
theorem dX11_count_56 : decode cX11_count 56 = .ok (.aload_n 0, 1) := by decide +kernel
theorem dX11_count_57 : decode cX11_count 57 = .ok (.getfield 14, 3) := by decide +kernel
theorem dX11_count_60 : decode cX11_count 60 = .ok (.getfield 169, 3) := by decide +kernel
theorem dX11_count_63 : decode cX11_count 63 = .ok (.ireturn, 1) := by decide +kernel
theorem dX11_count_64 : decode cX11_count 64 = .ok (.aload_n 0, 1) := by decide +kernel
theorem dX11_count_65 : decode cX11_count 65 = .ok (.getfield 14, 3) := by decide +kernel
theorem dX11_count_68 : decode cX11_count 68 = .ok (.getfield 221, 3) := by decide +kernel
theorem dX11_count_71 : decode cX11_count 71 = .ok (.ireturn, 1) := by decide +kernel
theorem dX11_count_72 : decode cX11_count 72 = .ok (.aload_n 0, 1) := by decide +kernel
theorem dX11_count_73 : decode cX11_count 73 = .ok (.getfield 14, 3) := by decide +kernel
theorem dX11_count_76 : decode cX11_count 76 = .ok (.getfield 53, 3) := by decide +kernel
theorem dX11_count_79 : decode cX11_count 79 = .ok (.ireturn, 1) := by decide +kernel
theorem dX11_count_80 : decode cX11_count 80 = .ok (.aload_n 0, 1) := by decide +kernel
theorem dX11_count_81 : decode cX11_count 81 = .ok (.getfield 49, 3) := by decide +kernel
theorem dX11_count_84 : decode cX11_count 84 = .ok (.invokevirtual 243, 3) := by decide +kernel
theorem dX11_count_87 : decode cX11_count 87 = .ok (.ireturn, 1) := by decide +kernel
theorem dX11_count_88 : decode cX11_count 88 = .ok (.iconst (-1), 1) := by decide +kernel
theorem dX11_count_89 : decode cX11_count 89 = .ok (.ireturn, 1) := by decide +kernel
theorem dX11_isCell_0 : decode cX11_isCell 0 = .ok (.iload_n 0, 1) := by decide +kernel
theorem dX11_isCell_1 : decode cX11_isCell 1 = .ok (.ifCond .lt 13, 3) := by decide +kernel
theorem dX11_isCell_4 : decode cX11_isCell 4 = .ok (.iload_n 0, 1) := by decide +kernel
theorem dX11_isCell_5 : decode cX11_isCell 5 = .ok (.bipush 36, 2) := by decide +kernel
theorem dX11_isCell_7 : decode cX11_isCell 7 = .ok (.if_icmp .ge 7, 3) := by decide +kernel
theorem dX11_isCell_10 : decode cX11_isCell 10 = .ok (.iconst 1, 1) := by decide +kernel
theorem dX11_isCell_11 : decode cX11_isCell 11 = .ok (.goto 4, 3) := by decide +kernel
theorem dX11_isCell_14 : decode cX11_isCell 14 = .ok (.iconst 0, 1) := by decide +kernel
theorem dX11_isCell_15 : decode cX11_isCell 15 = .ok (.ireturn, 1) := by decide +kernel
theorem dX11_rowOf_0 : decode cX11_rowOf 0 = .ok (.iload_n 0, 1) := by decide +kernel
theorem dX11_rowOf_1 : decode cX11_rowOf 1 = .ok (.bipush 6, 2) := by decide +kernel
theorem dX11_rowOf_3 : decode cX11_rowOf 3 = .ok (.idiv, 1) := by decide +kernel
theorem dX11_rowOf_4 : decode cX11_rowOf 4 = .ok (.ireturn, 1) := by decide +kernel
theorem dX11_columnOf_0 : decode cX11_columnOf 0 = .ok (.iload_n 0, 1) := by decide +kernel
theorem dX11_columnOf_1 : decode cX11_columnOf 1 = .ok (.bipush 6, 2) := by decide +kernel
theorem dX11_columnOf_3 : decode cX11_columnOf 3 = .ok (.irem, 1) := by decide +kernel
theorem dX11_columnOf_4 : decode cX11_columnOf 4 = .ok (.ireturn, 1) := by decide +kernel
theorem dX11_isOnHill_0 : decode cX11_isOnHill 0 = .ok (.iload_n 0, 1) := by decide +kernel
theorem dX11_isOnHill_1 : decode cX11_isOnHill 1 = .ok (.ifCond .lt 23, 3) := by decide +kernel
theorem dX11_isOnHill_4 : decode cX11_isOnHill 4 = .ok (.iload_n 0, 1) := by decide +kernel
theorem dX11_isOnHill_5 : decode cX11_isOnHill 5 = .ok (.bipush 6, 2) := by decide +kernel
theorem dX11_isOnHill_7 : decode cX11_isOnHill 7 = .ok (.if_icmp .ge 17, 3) := by decide +kernel
theorem dX11_isOnHill_10 : decode cX11_isOnHill 10 = .ok (.iload_n 1, 1) := by decide +kernel
theorem dX11_isOnHill_11 : decode cX11_isOnHill 11 = .ok (.ifCond .lt 13, 3) := by decide +kernel
theorem dX11_isOnHill_14 : decode cX11_isOnHill 14 = .ok (.iload_n 1, 1) := by decide +kernel
theorem dX11_isOnHill_15 : decode cX11_isOnHill 15 = .ok (.bipush 6, 2) := by decide +kernel
theorem dX11_isOnHill_17 : decode cX11_isOnHill 17 = .ok (.if_icmp .ge 7, 3) := by decide +kernel
theorem dX11_isOnHill_20 : decode cX11_isOnHill 20 = .ok (.iconst 1, 1) := by decide +kernel
theorem dX11_isOnHill_21 : decode cX11_isOnHill 21 = .ok (.goto 4, 3) := by decide +kernel
theorem dX11_isOnHill_24 : decode cX11_isOnHill 24 = .ok (.iconst 0, 1) := by decide +kernel
theorem dX11_isOnHill_25 : decode cX11_isOnHill 25 = .ok (.ireturn, 1) := by decide +kernel
set_option maxRecDepth 20000 in
theorem ggX11_apart_X11_rowOf : GoodIn wsX11_apart wsX11_rowOf := goodIn_r _ [11] (by decide +kernel) (by decide +kernel)
set_option maxRecDepth 20000 in
theorem gX11_apart_X11_rowOf : GoodIn wsX11_apart (va_wsS RX11 212 yX11_rowOf wsX11_rowOf) := goodIn_app (goodIn_of _ (by decide +kernel)) ggX11_apart_X11_rowOf
set_option maxRecDepth 20000 in
theorem ggX11_apart_X11_columnOf : GoodIn wsX11_apart wsX11_columnOf := goodIn_r _ [14] (by decide +kernel) (by decide +kernel)
set_option maxRecDepth 20000 in
theorem gX11_apart_X11_columnOf : GoodIn wsX11_apart (va_wsS RX11 215 yX11_columnOf wsX11_columnOf) := goodIn_app (goodIn_of _ (by decide +kernel)) ggX11_apart_X11_columnOf
theorem dX11_apart_0 : decode cX11_apart 0 = .ok (.iload_n 0, 1) := by decide +kernel
theorem dX11_apart_1 : decode cX11_apart 1 = .ok (.invokestatic 212, 3) := by decide +kernel
theorem dX11_apart_4 : decode cX11_apart 4 = .ok (.iload_n 1, 1) := by decide +kernel
theorem dX11_apart_5 : decode cX11_apart 5 = .ok (.invokestatic 212, 3) := by decide +kernel
theorem dX11_apart_8 : decode cX11_apart 8 = .ok (.isub, 1) := by decide +kernel
theorem dX11_apart_9 : decode cX11_apart 9 = .ok (.invokestatic 263, 3) := by decide +kernel
theorem dX11_apart_12 : decode cX11_apart 12 = .ok (.iload_n 0, 1) := by decide +kernel
theorem dX11_apart_13 : decode cX11_apart 13 = .ok (.invokestatic 215, 3) := by decide +kernel
theorem dX11_apart_16 : decode cX11_apart 16 = .ok (.iload_n 1, 1) := by decide +kernel
theorem dX11_apart_17 : decode cX11_apart 17 = .ok (.invokestatic 215, 3) := by decide +kernel
theorem dX11_apart_20 : decode cX11_apart 20 = .ok (.isub, 1) := by decide +kernel
theorem dX11_apart_21 : decode cX11_apart 21 = .ok (.invokestatic 263, 3) := by decide +kernel
theorem dX11_apart_24 : decode cX11_apart 24 = .ok (.invokestatic 204, 3) := by decide +kernel
theorem dX11_apart_27 : decode cX11_apart 27 = .ok (.ireturn, 1) := by decide +kernel
set_option maxRecDepth 20000 in
theorem ggX11_besideOrSame_X11_rowOf : GoodIn wsX11_besideOrSame wsX11_rowOf := goodIn_r _ [6] (by decide +kernel) (by decide +kernel)
set_option maxRecDepth 20000 in
theorem gX11_besideOrSame_X11_rowOf : GoodIn wsX11_besideOrSame (va_wsS RX11 212 yX11_rowOf wsX11_rowOf) := goodIn_app (goodIn_of _ (by decide +kernel)) ggX11_besideOrSame_X11_rowOf
set_option maxRecDepth 20000 in
theorem ggX11_besideOrSame_X11_columnOf : GoodIn wsX11_besideOrSame wsX11_columnOf := goodIn_r _ [9] (by decide +kernel) (by decide +kernel)
set_option maxRecDepth 20000 in
theorem gX11_besideOrSame_X11_columnOf : GoodIn wsX11_besideOrSame (va_wsS RX11 215 yX11_columnOf wsX11_columnOf) := goodIn_app (goodIn_of _ (by decide +kernel)) ggX11_besideOrSame_X11_columnOf
set_option maxRecDepth 20000 in
theorem ggX11_besideOrSame_X11_isOnHill : GoodIn wsX11_besideOrSame wsX11_isOnHill := goodIn_r _ [12] (by decide +kernel) (by decide +kernel)
set_option maxRecDepth 20000 in
theorem gX11_besideOrSame_X11_isOnHill : GoodIn wsX11_besideOrSame (va_wsS RX11 218 yX11_isOnHill wsX11_isOnHill) := goodIn_app (goodIn_of _ (by decide +kernel)) ggX11_besideOrSame_X11_isOnHill
theorem dX11_besideOrSame_0 : decode cX11_besideOrSame 0 = .ok (.iload_n 0, 1) := by decide +kernel
theorem dX11_besideOrSame_1 : decode cX11_besideOrSame 1 = .ok (.invokestatic 212, 3) := by decide +kernel
theorem dX11_besideOrSame_4 : decode cX11_besideOrSame 4 = .ok (.getstatic 266, 3) := by decide +kernel
theorem dX11_besideOrSame_7 : decode cX11_besideOrSame 7 = .ok (.iload_n 1, 1) := by decide +kernel
theorem dX11_besideOrSame_8 : decode cX11_besideOrSame 8 = .ok (.iaload, 1) := by decide +kernel
theorem dX11_besideOrSame_9 : decode cX11_besideOrSame 9 = .ok (.iadd, 1) := by decide +kernel
theorem dX11_besideOrSame_10 : decode cX11_besideOrSame 10 = .ok (.istore_n 2, 1) := by decide +kernel
theorem dX11_besideOrSame_11 : decode cX11_besideOrSame 11 = .ok (.iload_n 0, 1) := by decide +kernel
theorem dX11_besideOrSame_12 : decode cX11_besideOrSame 12 = .ok (.invokestatic 215, 3) := by decide +kernel
theorem dX11_besideOrSame_15 : decode cX11_besideOrSame 15 = .ok (.getstatic 269, 3) := by decide +kernel
theorem dX11_besideOrSame_18 : decode cX11_besideOrSame 18 = .ok (.iload_n 1, 1) := by decide +kernel
theorem dX11_besideOrSame_19 : decode cX11_besideOrSame 19 = .ok (.iaload, 1) := by decide +kernel
theorem dX11_besideOrSame_20 : decode cX11_besideOrSame 20 = .ok (.iadd, 1) := by decide +kernel
theorem dX11_besideOrSame_21 : decode cX11_besideOrSame 21 = .ok (.istore_n 3, 1) := by decide +kernel
theorem dX11_besideOrSame_22 : decode cX11_besideOrSame 22 = .ok (.iload_n 2, 1) := by decide +kernel
theorem dX11_besideOrSame_23 : decode cX11_besideOrSame 23 = .ok (.iload_n 3, 1) := by decide +kernel
theorem dX11_besideOrSame_24 : decode cX11_besideOrSame 24 = .ok (.invokestatic 218, 3) := by decide +kernel
theorem dX11_besideOrSame_27 : decode cX11_besideOrSame 27 = .ok (.ifCond .eq 12, 3) := by decide +kernel
theorem dX11_besideOrSame_30 : decode cX11_besideOrSame 30 = .ok (.iload_n 2, 1) := by decide +kernel
theorem dX11_besideOrSame_31 : decode cX11_besideOrSame 31 = .ok (.bipush 6, 2) := by decide +kernel
theorem dX11_besideOrSame_33 : decode cX11_besideOrSame 33 = .ok (.imul, 1) := by decide +kernel
theorem dX11_besideOrSame_34 : decode cX11_besideOrSame 34 = .ok (.iload_n 3, 1) := by decide +kernel
theorem dX11_besideOrSame_35 : decode cX11_besideOrSame 35 = .ok (.iadd, 1) := by decide +kernel
theorem dX11_besideOrSame_36 : decode cX11_besideOrSame 36 = .ok (.goto 4, 3) := by decide +kernel
theorem dX11_besideOrSame_39 : decode cX11_besideOrSame 39 = .ok (.iload_n 0, 1) := by decide +kernel
theorem dX11_besideOrSame_40 : decode cX11_besideOrSame 40 = .ok (.ireturn, 1) := by decide +kernel
theorem dX11_isIn_0 : decode cX11_isIn 0 = .ok (.lload_n 0, 1) := by decide +kernel
theorem dX11_isIn_1 : decode cX11_isIn 1 = .ok (.iload_n 2, 1) := by decide +kernel
theorem dX11_isIn_2 : decode cX11_isIn 2 = .ok (.lshr, 1) := by decide +kernel
theorem dX11_isIn_3 : decode cX11_isIn 3 = .ok (.lconst 1, 1) := by decide +kernel
theorem dX11_isIn_4 : decode cX11_isIn 4 = .ok (.land, 1) := by decide +kernel
theorem dX11_isIn_5 : decode cX11_isIn 5 = .ok (.lconst 1, 1) := by decide +kernel
theorem dX11_isIn_6 : decode cX11_isIn 6 = .ok (.lcmp, 1) := by decide +kernel
theorem dX11_isIn_7 : decode cX11_isIn 7 = .ok (.ifCond .ne 7, 3) := by decide +kernel
theorem dX11_isIn_10 : decode cX11_isIn 10 = .ok (.iconst 1, 1) := by decide +kernel
theorem dX11_isIn_11 : decode cX11_isIn 11 = .ok (.goto 4, 3) := by decide +kernel
theorem dX11_isIn_14 : decode cX11_isIn 14 = .ok (.iconst 0, 1) := by decide +kernel
theorem dX11_isIn_15 : decode cX11_isIn 15 = .ok (.ireturn, 1) := by decide +kernel
set_option maxRecDepth 20000 in
theorem ggX11_partOf_X11_commonDivisor : GoodIn wsX11_partOf wsX11_commonDivisor := goodIn_r _ [5] (by decide +kernel) (by decide +kernel)
set_option maxRecDepth 20000 in
theorem gX11_partOf_X11_commonDivisor : GoodIn wsX11_partOf (va_wsS RX11 272 yX11_commonDivisor wsX11_commonDivisor) := goodIn_app (goodIn_of _ (by decide +kernel)) ggX11_partOf_X11_commonDivisor
theorem dX11_partOf_0 : decode cX11_partOf 0 = .ok (.lload_n 0, 1) := by decide +kernel
theorem dX11_partOf_1 : decode cX11_partOf 1 = .ok (.lload_n 2, 1) := by decide +kernel
theorem dX11_partOf_2 : decode cX11_partOf 2 = .ok (.invokestatic 272, 3) := by decide +kernel
theorem dX11_partOf_5 : decode cX11_partOf 5 = .ok (.lstore 5, 2) := by decide +kernel
theorem dX11_partOf_7 : decode cX11_partOf 7 = .ok (.lload 5, 2) := by decide +kernel
theorem dX11_partOf_9 : decode cX11_partOf 9 = .ok (.lconst 0, 1) := by decide +kernel
theorem dX11_partOf_10 : decode cX11_partOf 10 = .ok (.lcmp, 1) := by decide +kernel
theorem dX11_partOf_11 : decode cX11_partOf 11 = .ok (.ifCond .gt 7, 3) := by decide +kernel
theorem dX11_partOf_14 : decode cX11_partOf 14 = .ok (.ldc2_w 139, 3) := by decide +kernel
theorem dX11_partOf_17 : decode cX11_partOf 17 = .ok (.lreturn, 1) := by decide +kernel
theorem dX11_partOf_18 : decode cX11_partOf 18 = .ok (.iload 4, 2) := by decide +kernel
theorem dX11_partOf_20 : decode cX11_partOf 20 = .ok (.ifCond .ne 7, 3) := by decide +kernel
theorem dX11_partOf_23 : decode cX11_partOf 23 = .ok (.lload_n 0, 1) := by decide +kernel
theorem dX11_partOf_24 : decode cX11_partOf 24 = .ok (.goto 4, 3) := by decide +kernel
theorem dX11_partOf_27 : decode cX11_partOf 27 = .ok (.lload_n 2, 1) := by decide +kernel
theorem dX11_partOf_28 : decode cX11_partOf 28 = .ok (.lload 5, 2) := by decide +kernel
theorem dX11_partOf_30 : decode cX11_partOf 30 = .ok (.ldiv, 1) := by decide +kernel
theorem dX11_partOf_31 : decode cX11_partOf 31 = .ok (.lreturn, 1) := by decide +kernel
theorem dX11_commonDivisor_0 : decode cX11_commonDivisor 0 = .ok (.iconst 0, 1) := by decide +kernel
theorem dX11_commonDivisor_1 : decode cX11_commonDivisor 1 = .ok (.istore 4, 2) := by decide +kernel
theorem dX11_commonDivisor_3 : decode cX11_commonDivisor 3 = .ok (.iload 4, 2) := by decide +kernel
theorem dX11_commonDivisor_5 : decode cX11_commonDivisor 5 = .ok (.bipush 64, 2) := by decide +kernel
theorem dX11_commonDivisor_7 : decode cX11_commonDivisor 7 = .ok (.if_icmp .ge 25, 3) := by decide +kernel
theorem dX11_commonDivisor_10 : decode cX11_commonDivisor 10 = .ok (.lload_n 2, 1) := by decide +kernel
theorem dX11_commonDivisor_11 : decode cX11_commonDivisor 11 = .ok (.lconst 0, 1) := by decide +kernel
theorem dX11_commonDivisor_12 : decode cX11_commonDivisor 12 = .ok (.lcmp, 1) := by decide +kernel
theorem dX11_commonDivisor_13 : decode cX11_commonDivisor 13 = .ok (.ifCond .eq 19, 3) := by decide +kernel
theorem dX11_commonDivisor_16 : decode cX11_commonDivisor 16 = .ok (.lload_n 0, 1) := by decide +kernel
theorem dX11_commonDivisor_17 : decode cX11_commonDivisor 17 = .ok (.lload_n 2, 1) := by decide +kernel
theorem dX11_commonDivisor_18 : decode cX11_commonDivisor 18 = .ok (.lrem, 1) := by decide +kernel
theorem dX11_commonDivisor_19 : decode cX11_commonDivisor 19 = .ok (.lstore 5, 2) := by decide +kernel
theorem dX11_commonDivisor_21 : decode cX11_commonDivisor 21 = .ok (.lload_n 2, 1) := by decide +kernel
theorem dX11_commonDivisor_22 : decode cX11_commonDivisor 22 = .ok (.lstore_n 0, 1) := by decide +kernel
theorem dX11_commonDivisor_23 : decode cX11_commonDivisor 23 = .ok (.lload 5, 2) := by decide +kernel
theorem dX11_commonDivisor_25 : decode cX11_commonDivisor 25 = .ok (.lstore_n 2, 1) := by decide +kernel
theorem dX11_commonDivisor_26 : decode cX11_commonDivisor 26 = .ok (.iinc 4 1, 3) := by decide +kernel
theorem dX11_commonDivisor_29 : decode cX11_commonDivisor 29 = .ok (.goto (-26), 3) := by decide +kernel
theorem dX11_commonDivisor_32 : decode cX11_commonDivisor 32 = .ok (.lload_n 0, 1) := by decide +kernel
theorem dX11_commonDivisor_33 : decode cX11_commonDivisor 33 = .ok (.lreturn, 1) := by decide +kernel
set_option maxRecDepth 20000 in
theorem ggX11_heapOfKind_X4_init : GoodIn wsX11_heapOfKind wsX4_init := goodIn_r _ [24, 25, 26, 21, 27, 28, 29, 30, 31, 32, 33, 34, 64, 65, 66, 67, 80, 81, 82, 83, 56, 57, 58, 59, 60, 61, 62, 63, 76, 77, 78, 79, 72, 73, 74, 75, 68, 69, 70, 71] (by decide +kernel) (by decide +kernel)
set_option maxRecDepth 20000 in
theorem gX11_heapOfKind_X4_init : GoodIn wsX11_heapOfKind (wsX4_init) := ggX11_heapOfKind_X4_init
set_option maxRecDepth 20000 in
theorem ggX11_heapOfKind_X6_init : GoodIn wsX11_heapOfKind wsX6_init := goodIn_r _ [37, 38, 26, 21, 27, 28, 29, 30, 31, 32, 33, 34, 64, 65, 66, 67, 80, 81, 82, 83, 56, 57, 58, 59, 60, 61, 62, 63, 76, 77, 78, 79, 72, 73, 74, 75, 68, 69, 70, 71] (by decide +kernel) (by decide +kernel)
set_option maxRecDepth 20000 in
theorem gX11_heapOfKind_X6_init : GoodIn wsX11_heapOfKind (wsX6_init) := ggX11_heapOfKind_X6_init
set_option maxRecDepth 20000 in
theorem ggX11_heapOfKind_X1_init : GoodIn wsX11_heapOfKind wsX1_init := goodIn_r _ [41, 42, 26, 21, 27, 28, 29, 30, 31, 32, 33, 34, 64, 65, 66, 67, 80, 81, 82, 83, 56, 57, 58, 59, 60, 61, 62, 63, 76, 77, 78, 79, 72, 73, 74, 75, 68, 69, 70, 71] (by decide +kernel) (by decide +kernel)
set_option maxRecDepth 20000 in
theorem gX11_heapOfKind_X1_init : GoodIn wsX11_heapOfKind (wsX1_init) := ggX11_heapOfKind_X1_init
set_option maxRecDepth 20000 in
theorem ggX11_heapOfKind_X10_init : GoodIn wsX11_heapOfKind wsX10_init := goodIn_r _ [45, 46, 23, 3, 24, 25, 26, 21, 27, 28, 29, 30, 31, 32, 33, 34, 64, 65, 66, 67, 80, 81, 82, 83, 56, 57, 58, 59, 60, 61, 62, 63, 76, 77, 78, 79, 72, 73, 74, 75, 68, 69, 70, 71] (by decide +kernel) (by decide +kernel)
set_option maxRecDepth 20000 in
theorem gX11_heapOfKind_X10_init : GoodIn wsX11_heapOfKind (wsX10_init) := ggX11_heapOfKind_X10_init
set_option maxRecDepth 20000 in
theorem ggX11_heapOfKind_X9_init : GoodIn wsX11_heapOfKind wsX9_init := goodIn_r _ [49, 50, 36, 6, 37, 38, 26, 21, 27, 28, 29, 30, 31, 32, 33, 34, 64, 65, 66, 67, 80, 81, 82, 83, 56, 57, 58, 59, 60, 61, 62, 63, 76, 77, 78, 79, 72, 73, 74, 75, 68, 69, 70, 71] (by decide +kernel) (by decide +kernel)
set_option maxRecDepth 20000 in
theorem gX11_heapOfKind_X9_init : GoodIn wsX11_heapOfKind (wsX9_init) := ggX11_heapOfKind_X9_init
set_option maxRecDepth 20000 in
theorem ggX11_heapOfKind_X7_init : GoodIn wsX11_heapOfKind wsX7_init := goodIn_r _ [53, 54, 40, 9, 41, 42, 26, 21, 27, 28, 29, 30, 31, 32, 33, 34, 64, 65, 66, 67, 80, 81, 82, 83, 56, 57, 58, 59, 60, 61, 62, 63, 76, 77, 78, 79, 72, 73, 74, 75, 68, 69, 70, 71] (by decide +kernel) (by decide +kernel)
set_option maxRecDepth 20000 in
theorem gX11_heapOfKind_X7_init : GoodIn wsX11_heapOfKind (wsX7_init) := ggX11_heapOfKind_X7_init
set_option maxRecDepth 20000 in
theorem ggX11_heapOfKind_X3_init : GoodIn wsX11_heapOfKind wsX3_init := goodIn_r _ [27, 28, 29, 30, 31, 32, 33, 34, 64, 65, 66, 67, 80, 81, 82, 83, 56, 57, 58, 59, 60, 61, 62, 63, 76, 77, 78, 79, 72, 73, 74, 75, 68, 69, 70, 71] (by decide +kernel) (by decide +kernel)
set_option maxRecDepth 20000 in
theorem gX11_heapOfKind_X3_init : GoodIn wsX11_heapOfKind (wsX3_init) := ggX11_heapOfKind_X3_init
theorem dX11_heapOfKind_0 : decode cX11_heapOfKind 0 = .ok (.iload_n 0, 1) := by decide +kernel
theorem dX11_heapOfKind_1 : decode cX11_heapOfKind 1 = .ok (.tableswitch 111 1 6 #[39, 51, 63, 75, 87, 99], 39) := by decide +kernel
theorem dX11_heapOfKind_40 : decode cX11_heapOfKind 40 = .ok (.new 276, 3) := by decide +kernel
theorem dX11_heapOfKind_43 : decode cX11_heapOfKind 43 = .ok (.dup, 1) := by decide +kernel
theorem dX11_heapOfKind_44 : decode cX11_heapOfKind 44 = .ok (.iload_n 0, 1) := by decide +kernel
theorem dX11_heapOfKind_45 : decode cX11_heapOfKind 45 = .ok (.iload_n 1, 1) := by decide +kernel
theorem dX11_heapOfKind_46 : decode cX11_heapOfKind 46 = .ok (.iload_n 2, 1) := by decide +kernel
theorem dX11_heapOfKind_47 : decode cX11_heapOfKind 47 = .ok (.iload_n 3, 1) := by decide +kernel
theorem dX11_heapOfKind_48 : decode cX11_heapOfKind 48 = .ok (.invokespecial 278, 3) := by decide +kernel
theorem dX11_heapOfKind_51 : decode cX11_heapOfKind 51 = .ok (.areturn, 1) := by decide +kernel
theorem dX11_heapOfKind_52 : decode cX11_heapOfKind 52 = .ok (.new 281, 3) := by decide +kernel
theorem dX11_heapOfKind_55 : decode cX11_heapOfKind 55 = .ok (.dup, 1) := by decide +kernel
theorem dX11_heapOfKind_56 : decode cX11_heapOfKind 56 = .ok (.iload_n 0, 1) := by decide +kernel
theorem dX11_heapOfKind_57 : decode cX11_heapOfKind 57 = .ok (.iload_n 1, 1) := by decide +kernel
theorem dX11_heapOfKind_58 : decode cX11_heapOfKind 58 = .ok (.iload_n 2, 1) := by decide +kernel
theorem dX11_heapOfKind_59 : decode cX11_heapOfKind 59 = .ok (.iload_n 3, 1) := by decide +kernel
theorem dX11_heapOfKind_60 : decode cX11_heapOfKind 60 = .ok (.invokespecial 283, 3) := by decide +kernel
theorem dX11_heapOfKind_63 : decode cX11_heapOfKind 63 = .ok (.areturn, 1) := by decide +kernel
theorem dX11_heapOfKind_64 : decode cX11_heapOfKind 64 = .ok (.new 284, 3) := by decide +kernel
theorem dX11_heapOfKind_67 : decode cX11_heapOfKind 67 = .ok (.dup, 1) := by decide +kernel
theorem dX11_heapOfKind_68 : decode cX11_heapOfKind 68 = .ok (.iload_n 0, 1) := by decide +kernel
theorem dX11_heapOfKind_69 : decode cX11_heapOfKind 69 = .ok (.iload_n 1, 1) := by decide +kernel
theorem dX11_heapOfKind_70 : decode cX11_heapOfKind 70 = .ok (.iload_n 2, 1) := by decide +kernel
theorem dX11_heapOfKind_71 : decode cX11_heapOfKind 71 = .ok (.iload_n 3, 1) := by decide +kernel
theorem dX11_heapOfKind_72 : decode cX11_heapOfKind 72 = .ok (.invokespecial 286, 3) := by decide +kernel
theorem dX11_heapOfKind_75 : decode cX11_heapOfKind 75 = .ok (.areturn, 1) := by decide +kernel
theorem dX11_heapOfKind_76 : decode cX11_heapOfKind 76 = .ok (.new 287, 3) := by decide +kernel
theorem dX11_heapOfKind_79 : decode cX11_heapOfKind 79 = .ok (.dup, 1) := by decide +kernel
theorem dX11_heapOfKind_80 : decode cX11_heapOfKind 80 = .ok (.iload_n 0, 1) := by decide +kernel
theorem dX11_heapOfKind_81 : decode cX11_heapOfKind 81 = .ok (.iload_n 1, 1) := by decide +kernel
theorem dX11_heapOfKind_82 : decode cX11_heapOfKind 82 = .ok (.iload_n 2, 1) := by decide +kernel
theorem dX11_heapOfKind_83 : decode cX11_heapOfKind 83 = .ok (.iload_n 3, 1) := by decide +kernel
theorem dX11_heapOfKind_84 : decode cX11_heapOfKind 84 = .ok (.invokespecial 289, 3) := by decide +kernel
theorem dX11_heapOfKind_87 : decode cX11_heapOfKind 87 = .ok (.areturn, 1) := by decide +kernel
theorem dX11_heapOfKind_88 : decode cX11_heapOfKind 88 = .ok (.new 290, 3) := by decide +kernel
theorem dX11_heapOfKind_91 : decode cX11_heapOfKind 91 = .ok (.dup, 1) := by decide +kernel
theorem dX11_heapOfKind_92 : decode cX11_heapOfKind 92 = .ok (.iload_n 0, 1) := by decide +kernel
theorem dX11_heapOfKind_93 : decode cX11_heapOfKind 93 = .ok (.iload_n 1, 1) := by decide +kernel
theorem dX11_heapOfKind_94 : decode cX11_heapOfKind 94 = .ok (.iload_n 2, 1) := by decide +kernel
theorem dX11_heapOfKind_95 : decode cX11_heapOfKind 95 = .ok (.iload_n 3, 1) := by decide +kernel
theorem dX11_heapOfKind_96 : decode cX11_heapOfKind 96 = .ok (.invokespecial 292, 3) := by decide +kernel
theorem dX11_heapOfKind_99 : decode cX11_heapOfKind 99 = .ok (.areturn, 1) := by decide +kernel
theorem dX11_heapOfKind_100 : decode cX11_heapOfKind 100 = .ok (.new 293, 3) := by decide +kernel
theorem dX11_heapOfKind_103 : decode cX11_heapOfKind 103 = .ok (.dup, 1) := by decide +kernel
theorem dX11_heapOfKind_104 : decode cX11_heapOfKind 104 = .ok (.iload_n 0, 1) := by decide +kernel
theorem dX11_heapOfKind_105 : decode cX11_heapOfKind 105 = .ok (.iload_n 1, 1) := by decide +kernel
theorem dX11_heapOfKind_106 : decode cX11_heapOfKind 106 = .ok (.iload_n 2, 1) := by decide +kernel
theorem dX11_heapOfKind_107 : decode cX11_heapOfKind 107 = .ok (.iload_n 3, 1) := by decide +kernel
theorem dX11_heapOfKind_108 : decode cX11_heapOfKind 108 = .ok (.invokespecial 295, 3) := by decide +kernel
theorem dX11_heapOfKind_111 : decode cX11_heapOfKind 111 = .ok (.areturn, 1) := by decide +kernel
theorem dX11_heapOfKind_112 : decode cX11_heapOfKind 112 = .ok (.new 117, 3) := by decide +kernel
theorem dX11_heapOfKind_115 : decode cX11_heapOfKind 115 = .ok (.dup, 1) := by decide +kernel
theorem dX11_heapOfKind_116 : decode cX11_heapOfKind 116 = .ok (.iload_n 0, 1) := by decide +kernel
theorem dX11_heapOfKind_117 : decode cX11_heapOfKind 117 = .ok (.iload_n 1, 1) := by decide +kernel
theorem dX11_heapOfKind_118 : decode cX11_heapOfKind 118 = .ok (.iload_n 2, 1) := by decide +kernel
theorem dX11_heapOfKind_119 : decode cX11_heapOfKind 119 = .ok (.iload_n 3, 1) := by decide +kernel
theorem dX11_heapOfKind_120 : decode cX11_heapOfKind 120 = .ok (.invokespecial 296, 3) := by decide +kernel
theorem dX11_heapOfKind_123 : decode cX11_heapOfKind 123 = .ok (.areturn, 1) := by decide +kernel
theorem dX12_init_0 : decode cX12_init 0 = .ok (.aload_n 0, 1) := by decide +kernel
theorem dX12_init_1 : decode cX12_init 1 = .ok (.invokespecial 3, 3) := by decide +kernel
theorem dX12_init_4 : decode cX12_init 4 = .ok (.aload_n 0, 1) := by decide +kernel
theorem dX12_init_5 : decode cX12_init 5 = .ok (.sipush 901, 3) := by decide +kernel
theorem dX12_init_8 : decode cX12_init 8 = .ok (.newarray .int, 2) := by decide +kernel
theorem dX12_init_10 : decode cX12_init 10 = .ok (.putfield 9, 3) := by decide +kernel
theorem dX12_init_13 : decode cX12_init 13 = .ok (.aload_n 0, 1) := by decide +kernel
theorem dX12_init_14 : decode cX12_init 14 = .ok (.sipush 901, 3) := by decide +kernel
theorem dX12_init_17 : decode cX12_init 17 = .ok (.newarray .int, 2) := by decide +kernel
theorem dX12_init_19 : decode cX12_init 19 = .ok (.putfield 15, 3) := by decide +kernel
theorem dX12_init_22 : decode cX12_init 22 = .ok (.aload_n 0, 1) := by decide +kernel
theorem dX12_init_23 : decode cX12_init 23 = .ok (.bipush 6, 2) := by decide +kernel
theorem dX12_init_25 : decode cX12_init 25 = .ok (.newarray .int, 2) := by decide +kernel
theorem dX12_init_27 : decode cX12_init 27 = .ok (.putfield 18, 3) := by decide +kernel
theorem dX12_init_30 : decode cX12_init 30 = .ok (.aload_n 0, 1) := by decide +kernel
theorem dX12_init_31 : decode cX12_init 31 = .ok (.bipush 64, 2) := by decide +kernel
theorem dX12_init_33 : decode cX12_init 33 = .ok (.newarray .boolean, 2) := by decide +kernel
theorem dX12_init_35 : decode cX12_init 35 = .ok (.putfield 21, 3) := by decide +kernel
theorem dX12_init_38 : decode cX12_init 38 = .ok (.aload_n 0, 1) := by decide +kernel
theorem dX12_init_39 : decode cX12_init 39 = .ok (.bipush 9, 2) := by decide +kernel
theorem dX12_init_41 : decode cX12_init 41 = .ok (.newarray .int, 2) := by decide +kernel
theorem dX12_init_43 : decode cX12_init 43 = .ok (.putfield 25, 3) := by decide +kernel
theorem dX12_init_46 : decode cX12_init 46 = .ok (.aload_n 0, 1) := by decide +kernel
theorem dX12_init_47 : decode cX12_init 47 = .ok (.bipush 36, 2) := by decide +kernel
theorem dX12_init_49 : decode cX12_init 49 = .ok (.newarray .long, 2) := by decide +kernel
theorem dX12_init_51 : decode cX12_init 51 = .ok (.putfield 28, 3) := by decide +kernel
theorem dX12_init_54 : decode cX12_init 54 = .ok (.aload_n 0, 1) := by decide +kernel
theorem dX12_init_55 : decode cX12_init 55 = .ok (.bipush 36, 2) := by decide +kernel
theorem dX12_init_57 : decode cX12_init 57 = .ok (.newarray .long, 2) := by decide +kernel
theorem dX12_init_59 : decode cX12_init 59 = .ok (.putfield 32, 3) := by decide +kernel
theorem dX12_init_62 : decode cX12_init 62 = .ok (.aload_n 0, 1) := by decide +kernel
theorem dX12_init_63 : decode cX12_init 63 = .ok (.bipush 36, 2) := by decide +kernel
theorem dX12_init_65 : decode cX12_init 65 = .ok (.newarray .int, 2) := by decide +kernel
theorem dX12_init_67 : decode cX12_init 67 = .ok (.putfield 35, 3) := by decide +kernel
theorem dX12_init_70 : decode cX12_init 70 = .ok (.aload_n 0, 1) := by decide +kernel
theorem dX12_init_71 : decode cX12_init 71 = .ok (.bipush 20, 2) := by decide +kernel
theorem dX12_init_73 : decode cX12_init 73 = .ok (.newarray .int, 2) := by decide +kernel
theorem dX12_init_75 : decode cX12_init 75 = .ok (.putfield 38, 3) := by decide +kernel
theorem dX12_init_78 : decode cX12_init 78 = .ok (.aload_n 0, 1) := by decide +kernel
theorem dX12_init_79 : decode cX12_init 79 = .ok (.getfield 9, 3) := by decide +kernel
theorem dX12_init_82 : decode cX12_init 82 = .ok (.iconst 5, 1) := by decide +kernel
theorem dX12_init_83 : decode cX12_init 83 = .ok (.iconst (-1), 1) := by decide +kernel
theorem dX12_init_84 : decode cX12_init 84 = .ok (.iastore, 1) := by decide +kernel
theorem dX12_init_85 : decode cX12_init 85 = .ok (.return_, 1) := by decide +kernel
theorem dX12_in_0 : decode cX12_in 0 = .ok (.iload_n 0, 1) := by decide +kernel
theorem dX12_in_1 : decode cX12_in 1 = .ok (.iload_n 1, 1) := by decide +kernel
theorem dX12_in_2 : decode cX12_in 2 = .ok (.if_icmp .lt 12, 3) := by decide +kernel
theorem dX12_in_5 : decode cX12_in 5 = .ok (.iload_n 0, 1) := by decide +kernel
theorem dX12_in_6 : decode cX12_in 6 = .ok (.iload_n 2, 1) := by decide +kernel
theorem dX12_in_7 : decode cX12_in 7 = .ok (.if_icmp .gt 7, 3) := by decide +kernel
theorem dX12_in_10 : decode cX12_in 10 = .ok (.iconst 1, 1) := by decide +kernel
theorem dX12_in_11 : decode cX12_in 11 = .ok (.goto 4, 3) := by decide +kernel
theorem dX12_in_14 : decode cX12_in 14 = .ok (.iconst 0, 1) := by decide +kernel
theorem dX12_in_15 : decode cX12_in 15 = .ok (.ireturn, 1) := by decide +kernel
theorem dX12_size_0 : decode cX12_size 0 = .ok (.iload_n 0, 1) := by decide +kernel
theorem dX12_size_1 : decode cX12_size 1 = .ok (.ifCond .ge 8, 3) := by decide +kernel
theorem dX12_size_4 : decode cX12_size 4 = .ok (.iload_n 0, 1) := by decide +kernel
theorem dX12_size_5 : decode cX12_size 5 = .ok (.ineg, 1) := by decide +kernel
theorem dX12_size_6 : decode cX12_size 6 = .ok (.goto 4, 3) := by decide +kernel
theorem dX12_size_9 : decode cX12_size 9 = .ok (.iload_n 0, 1) := by decide +kernel
theorem dX12_size_10 : decode cX12_size 10 = .ok (.ireturn, 1) := by decide +kernel
set_option maxRecDepth 20000 in
theorem ggX12_isCell_X12_in : GoodIn wsX12_isCell wsX12_in := goodIn_r _ [4] (by decide +kernel) (by decide +kernel)
set_option maxRecDepth 20000 in
theorem gX12_isCell_X12_in : GoodIn wsX12_isCell (va_wsS RX12 45 yX12_in wsX12_in) := goodIn_app (goodIn_of _ (by decide +kernel)) ggX12_isCell_X12_in
theorem dX12_isCell_0 : decode cX12_isCell 0 = .ok (.iload_n 0, 1) := by decide +kernel
theorem dX12_isCell_1 : decode cX12_isCell 1 = .ok (.iconst 0, 1) := by decide +kernel
theorem dX12_isCell_2 : decode cX12_isCell 2 = .ok (.bipush 35, 2) := by decide +kernel
theorem dX12_isCell_4 : decode cX12_isCell 4 = .ok (.invokestatic 45, 3) := by decide +kernel
theorem dX12_isCell_7 : decode cX12_isCell 7 = .ok (.ireturn, 1) := by decide +kernel
set_option maxRecDepth 20000 in
theorem ggX12_isHeap_X12_in : GoodIn wsX12_isHeap wsX12_in := goodIn_r _ [5] (by decide +kernel) (by decide +kernel)
set_option maxRecDepth 20000 in
theorem gX12_isHeap_X12_in : GoodIn wsX12_isHeap (va_wsS RX12 45 yX12_in wsX12_in) := goodIn_app (goodIn_of _ (by decide +kernel)) ggX12_isHeap_X12_in
theorem dX12_isHeap_0 : decode cX12_isHeap 0 = .ok (.iload_n 1, 1) := by decide +kernel
theorem dX12_isHeap_1 : decode cX12_isHeap 1 = .ok (.iconst 0, 1) := by decide +kernel
theorem dX12_isHeap_2 : decode cX12_isHeap 2 = .ok (.aload_n 0, 1) := by decide +kernel
theorem dX12_isHeap_3 : decode cX12_isHeap 3 = .ok (.getfield 9, 3) := by decide +kernel
theorem dX12_isHeap_6 : decode cX12_isHeap 6 = .ok (.iconst 0, 1) := by decide +kernel
theorem dX12_isHeap_7 : decode cX12_isHeap 7 = .ok (.iaload, 1) := by decide +kernel
theorem dX12_isHeap_8 : decode cX12_isHeap 8 = .ok (.iconst 1, 1) := by decide +kernel
theorem dX12_isHeap_9 : decode cX12_isHeap 9 = .ok (.isub, 1) := by decide +kernel
theorem dX12_isHeap_10 : decode cX12_isHeap 10 = .ok (.invokestatic 45, 3) := by decide +kernel
theorem dX12_isHeap_13 : decode cX12_isHeap 13 = .ok (.ireturn, 1) := by decide +kernel
set_option maxRecDepth 20000 in
theorem ggX12_apart_X12_size : GoodIn wsX12_apart wsX12_size := goodIn_r _ [4] (by decide +kernel) (by decide +kernel)
set_option maxRecDepth 20000 in
theorem gX12_apart_X12_size : GoodIn wsX12_apart (va_wsS RX12 49 yX12_size wsX12_size) := goodIn_app (goodIn_of _ (by decide +kernel)) ggX12_apart_X12_size
theorem dX12_apart_0 : decode cX12_apart 0 = .ok (.iload_n 0, 1) := by decide +kernel
theorem dX12_apart_1 : decode cX12_apart 1 = .ok (.bipush 6, 2) := by decide +kernel
theorem dX12_apart_3 : decode cX12_apart 3 = .ok (.idiv, 1) := by decide +kernel
theorem dX12_apart_4 : decode cX12_apart 4 = .ok (.iload_n 1, 1) := by decide +kernel
theorem dX12_apart_5 : decode cX12_apart 5 = .ok (.bipush 6, 2) := by decide +kernel
theorem dX12_apart_7 : decode cX12_apart 7 = .ok (.idiv, 1) := by decide +kernel
theorem dX12_apart_8 : decode cX12_apart 8 = .ok (.isub, 1) := by decide +kernel
theorem dX12_apart_9 : decode cX12_apart 9 = .ok (.invokestatic 49, 3) := by decide +kernel
theorem dX12_apart_12 : decode cX12_apart 12 = .ok (.istore_n 2, 1) := by decide +kernel
theorem dX12_apart_13 : decode cX12_apart 13 = .ok (.iload_n 0, 1) := by decide +kernel
theorem dX12_apart_14 : decode cX12_apart 14 = .ok (.bipush 6, 2) := by decide +kernel
theorem dX12_apart_16 : decode cX12_apart 16 = .ok (.irem, 1) := by decide +kernel
theorem dX12_apart_17 : decode cX12_apart 17 = .ok (.iload_n 1, 1) := by decide +kernel
theorem dX12_apart_18 : decode cX12_apart 18 = .ok (.bipush 6, 2) := by decide +kernel
theorem dX12_apart_20 : decode cX12_apart 20 = .ok (.irem, 1) := by decide +kernel
theorem dX12_apart_21 : decode cX12_apart 21 = .ok (.isub, 1) := by decide +kernel
theorem dX12_apart_22 : decode cX12_apart 22 = .ok (.invokestatic 49, 3) := by decide +kernel
theorem dX12_apart_25 : decode cX12_apart 25 = .ok (.istore_n 3, 1) := by decide +kernel
theorem dX12_apart_26 : decode cX12_apart 26 = .ok (.iload_n 2, 1) := by decide +kernel
theorem dX12_apart_27 : decode cX12_apart 27 = .ok (.iload_n 3, 1) := by decide +kernel
theorem dX12_apart_28 : decode cX12_apart 28 = .ok (.if_icmp .le 7, 3) := by decide +kernel
theorem dX12_apart_31 : decode cX12_apart 31 = .ok (.iload_n 2, 1) := by decide +kernel
theorem dX12_apart_32 : decode cX12_apart 32 = .ok (.goto 4, 3) := by decide +kernel
theorem dX12_apart_35 : decode cX12_apart 35 = .ok (.iload_n 3, 1) := by decide +kernel
theorem dX12_apart_36 : decode cX12_apart 36 = .ok (.ireturn, 1) := by decide +kernel
theorem dX12_rowsOf_0 : decode cX12_rowsOf 0 = .ok (.iload_n 0, 1) := by decide +kernel
theorem dX12_rowsOf_1 : decode cX12_rowsOf 1 = .ok (.bipush 7, 2) := by decide +kernel
theorem dX12_rowsOf_3 : decode cX12_rowsOf 3 = .ok (.if_icmp .eq 8, 3) := by decide +kernel
theorem dX12_rowsOf_6 : decode cX12_rowsOf 6 = .ok (.iload_n 0, 1) := by decide +kernel
theorem dX12_rowsOf_7 : decode cX12_rowsOf 7 = .ok (.iconst 2, 1) := by decide +kernel
theorem dX12_rowsOf_8 : decode cX12_rowsOf 8 = .ok (.if_icmp .ge 7, 3) := by decide +kernel
theorem dX12_rowsOf_11 : decode cX12_rowsOf 11 = .ok (.iconst (-1), 1) := by decide +kernel
theorem dX12_rowsOf_12 : decode cX12_rowsOf 12 = .ok (.goto 19, 3) := by decide +kernel
theorem dX12_rowsOf_15 : decode cX12_rowsOf 15 = .ok (.iload_n 0, 1) := by decide +kernel
theorem dX12_rowsOf_16 : decode cX12_rowsOf 16 = .ok (.iconst 2, 1) := by decide +kernel
theorem dX12_rowsOf_17 : decode cX12_rowsOf 17 = .ok (.if_icmp .le 13, 3) := by decide +kernel
theorem dX12_rowsOf_20 : decode cX12_rowsOf 20 = .ok (.iload_n 0, 1) := by decide +kernel
theorem dX12_rowsOf_21 : decode cX12_rowsOf 21 = .ok (.bipush 6, 2) := by decide +kernel
theorem dX12_rowsOf_23 : decode cX12_rowsOf 23 = .ok (.if_icmp .ge 7, 3) := by decide +kernel
theorem dX12_rowsOf_26 : decode cX12_rowsOf 26 = .ok (.iconst 1, 1) := by decide +kernel
theorem dX12_rowsOf_27 : decode cX12_rowsOf 27 = .ok (.goto 4, 3) := by decide +kernel
theorem dX12_rowsOf_30 : decode cX12_rowsOf 30 = .ok (.iconst 0, 1) := by decide +kernel
theorem dX12_rowsOf_31 : decode cX12_rowsOf 31 = .ok (.ireturn, 1) := by decide +kernel
set_option maxRecDepth 20000 in
theorem ggX12_columnsOf_X12_in : GoodIn wsX12_columnsOf wsX12_in := goodIn_r _ [4] (by decide +kernel) (by decide +kernel)
set_option maxRecDepth 20000 in
theorem gX12_columnsOf_X12_in : GoodIn wsX12_columnsOf (va_wsS RX12 45 yX12_in wsX12_in) := goodIn_app (goodIn_of _ (by decide +kernel)) ggX12_columnsOf_X12_in
theorem dX12_columnsOf_0 : decode cX12_columnsOf 0 = .ok (.iload_n 0, 1) := by decide +kernel
theorem dX12_columnsOf_1 : decode cX12_columnsOf 1 = .ok (.iconst 1, 1) := by decide +kernel
theorem dX12_columnsOf_2 : decode cX12_columnsOf 2 = .ok (.iconst 3, 1) := by decide +kernel
theorem dX12_columnsOf_3 : decode cX12_columnsOf 3 = .ok (.invokestatic 45, 3) := by decide +kernel
theorem dX12_columnsOf_6 : decode cX12_columnsOf 6 = .ok (.ifCond .eq 7, 3) := by decide +kernel
theorem dX12_columnsOf_9 : decode cX12_columnsOf 9 = .ok (.iconst 1, 1) := by decide +kernel
theorem dX12_columnsOf_10 : decode cX12_columnsOf 10 = .ok (.goto 13, 3) := by decide +kernel
theorem dX12_columnsOf_13 : decode cX12_columnsOf 13 = .ok (.iload_n 0, 1) := by decide +kernel
theorem dX12_columnsOf_14 : decode cX12_columnsOf 14 = .ok (.iconst 4, 1) := by decide +kernel
theorem dX12_columnsOf_15 : decode cX12_columnsOf 15 = .ok (.if_icmp .le 7, 3) := by decide +kernel
theorem dX12_columnsOf_18 : decode cX12_columnsOf 18 = .ok (.iconst (-1), 1) := by decide +kernel
theorem dX12_columnsOf_19 : decode cX12_columnsOf 19 = .ok (.goto 4, 3) := by decide +kernel
theorem dX12_columnsOf_22 : decode cX12_columnsOf 22 = .ok (.iconst 0, 1) := by decide +kernel
theorem dX12_columnsOf_23 : decode cX12_columnsOf 23 = .ok (.ireturn, 1) := by decide +kernel
set_option maxRecDepth 20000 in
theorem ggX12_nextTo_X12_rowsOf : GoodIn wsX12_nextTo wsX12_rowsOf := goodIn_r _ [4] (by decide +kernel) (by decide +kernel)
set_option maxRecDepth 20000 in
theorem gX12_nextTo_X12_rowsOf : GoodIn wsX12_nextTo (va_wsS RX12 53 yX12_rowsOf wsX12_rowsOf) := goodIn_app (goodIn_of _ (by decide +kernel)) ggX12_nextTo_X12_rowsOf
set_option maxRecDepth 20000 in
theorem ggX12_nextTo_X12_columnsOf : GoodIn wsX12_nextTo wsX12_columnsOf := goodIn_r _ [7, 8, 9, 3, 10] (by decide +kernel) (by decide +kernel)
set_option maxRecDepth 20000 in
theorem gX12_nextTo_X12_columnsOf : GoodIn wsX12_nextTo (va_wsS RX12 56 yX12_columnsOf wsX12_columnsOf) := goodIn_app (goodIn_of _ (by decide +kernel)) ggX12_nextTo_X12_columnsOf
set_option maxRecDepth 20000 in
theorem ggX12_nextTo_X12_in : GoodIn wsX12_nextTo wsX12_in := goodIn_r _ [10] (by decide +kernel) (by decide +kernel)
set_option maxRecDepth 20000 in
theorem gX12_nextTo_X12_in : GoodIn wsX12_nextTo (va_wsS RX12 45 yX12_in wsX12_in) := goodIn_app (goodIn_of _ (by decide +kernel)) ggX12_nextTo_X12_in
theorem dX12_nextTo_0 : decode cX12_nextTo 0 = .ok (.iload_n 0, 1) := by decide +kernel
theorem dX12_nextTo_1 : decode cX12_nextTo 1 = .ok (.bipush 6, 2) := by decide +kernel
theorem dX12_nextTo_3 : decode cX12_nextTo 3 = .ok (.idiv, 1) := by decide +kernel
theorem dX12_nextTo_4 : decode cX12_nextTo 4 = .ok (.iload_n 1, 1) := by decide +kernel
theorem dX12_nextTo_5 : decode cX12_nextTo 5 = .ok (.invokestatic 53, 3) := by decide +kernel
theorem dX12_nextTo_8 : decode cX12_nextTo 8 = .ok (.iadd, 1) := by decide +kernel
theorem dX12_nextTo_9 : decode cX12_nextTo 9 = .ok (.istore_n 2, 1) := by decide +kernel
theorem dX12_nextTo_10 : decode cX12_nextTo 10 = .ok (.iload_n 0, 1) := by decide +kernel
theorem dX12_nextTo_11 : decode cX12_nextTo 11 = .ok (.bipush 6, 2) := by decide +kernel
theorem dX12_nextTo_13 : decode cX12_nextTo 13 = .ok (.irem, 1) := by decide +kernel
theorem dX12_nextTo_14 : decode cX12_nextTo 14 = .ok (.iload_n 1, 1) := by decide +kernel
theorem dX12_nextTo_15 : decode cX12_nextTo 15 = .ok (.invokestatic 56, 3) := by decide +kernel
theorem dX12_nextTo_18 : decode cX12_nextTo 18 = .ok (.iadd, 1) := by decide +kernel
theorem dX12_nextTo_19 : decode cX12_nextTo 19 = .ok (.istore_n 3, 1) := by decide +kernel
theorem dX12_nextTo_20 : decode cX12_nextTo 20 = .ok (.iload_n 2, 1) := by decide +kernel
theorem dX12_nextTo_21 : decode cX12_nextTo 21 = .ok (.iconst 0, 1) := by decide +kernel
theorem dX12_nextTo_22 : decode cX12_nextTo 22 = .ok (.iconst 5, 1) := by decide +kernel
theorem dX12_nextTo_23 : decode cX12_nextTo 23 = .ok (.invokestatic 45, 3) := by decide +kernel
theorem dX12_nextTo_26 : decode cX12_nextTo 26 = .ok (.ifCond .eq 21, 3) := by decide +kernel
theorem dX12_nextTo_29 : decode cX12_nextTo 29 = .ok (.iload_n 3, 1) := by decide +kernel
theorem dX12_nextTo_30 : decode cX12_nextTo 30 = .ok (.iconst 0, 1) := by decide +kernel
theorem dX12_nextTo_31 : decode cX12_nextTo 31 = .ok (.iconst 5, 1) := by decide +kernel
theorem dX12_nextTo_32 : decode cX12_nextTo 32 = .ok (.invokestatic 45, 3) := by decide +kernel
theorem dX12_nextTo_35 : decode cX12_nextTo 35 = .ok (.ifCond .eq 12, 3) := by decide +kernel
theorem dX12_nextTo_38 : decode cX12_nextTo 38 = .ok (.bipush 6, 2) := by decide +kernel
theorem dX12_nextTo_40 : decode cX12_nextTo 40 = .ok (.iload_n 2, 1) := by decide +kernel
theorem dX12_nextTo_41 : decode cX12_nextTo 41 = .ok (.imul, 1) := by decide +kernel
theorem dX12_nextTo_42 : decode cX12_nextTo 42 = .ok (.iload_n 3, 1) := by decide +kernel
theorem dX12_nextTo_43 : decode cX12_nextTo 43 = .ok (.iadd, 1) := by decide +kernel
theorem dX12_nextTo_44 : decode cX12_nextTo 44 = .ok (.goto 4, 3) := by decide +kernel
theorem dX12_nextTo_47 : decode cX12_nextTo 47 = .ok (.iload_n 0, 1) := by decide +kernel
theorem dX12_nextTo_48 : decode cX12_nextTo 48 = .ok (.ireturn, 1) := by decide +kernel
set_option maxRecDepth 20000 in
theorem ggX12_feed_X12_in : GoodIn wsX12_feed wsX12_in := goodIn_r _ [5] (by decide +kernel) (by decide +kernel)
set_option maxRecDepth 20000 in
theorem gX12_feed_X12_in : GoodIn wsX12_feed (va_wsS RX12 45 yX12_in wsX12_in) := goodIn_app (goodIn_of _ (by decide +kernel)) ggX12_feed_X12_in
theorem dX12_feed_0 : decode cX12_feed 0 = .ok (.iload_n 1, 1) := by decide +kernel
theorem dX12_feed_1 : decode cX12_feed 1 = .ok (.iconst 0, 1) := by decide +kernel
theorem dX12_feed_2 : decode cX12_feed 2 = .ok (.bipush 127, 2) := by decide +kernel
theorem dX12_feed_4 : decode cX12_feed 4 = .ok (.invokestatic 45, 3) := by decide +kernel
theorem dX12_feed_7 : decode cX12_feed 7 = .ok (.ifCond .ne 6, 3) := by decide +kernel
theorem dX12_feed_10 : decode cX12_feed 10 = .ok (.bipush (-2), 2) := by decide +kernel
theorem dX12_feed_12 : decode cX12_feed 12 = .ok (.ireturn, 1) := by decide +kernel
theorem dX12_feed_13 : decode cX12_feed 13 = .ok (.aload_n 0, 1) := by decide +kernel
theorem dX12_feed_14 : decode cX12_feed 14 = .ok (.getfield 9, 3) := by decide +kernel
theorem dX12_feed_17 : decode cX12_feed 17 = .ok (.iconst 4, 1) := by decide +kernel
theorem dX12_feed_18 : decode cX12_feed 18 = .ok (.iaload, 1) := by decide +kernel
theorem dX12_feed_19 : decode cX12_feed 19 = .ok (.bipush 100, 2) := by decide +kernel
theorem dX12_feed_21 : decode cX12_feed 21 = .ok (.if_icmp .ne 6, 3) := by decide +kernel
theorem dX12_feed_24 : decode cX12_feed 24 = .ok (.bipush (-4), 2) := by decide +kernel
theorem dX12_feed_26 : decode cX12_feed 26 = .ok (.ireturn, 1) := by decide +kernel
theorem dX12_feed_27 : decode cX12_feed 27 = .ok (.aload_n 0, 1) := by decide +kernel
theorem dX12_feed_28 : decode cX12_feed 28 = .ok (.getfield 9, 3) := by decide +kernel
theorem dX12_feed_31 : decode cX12_feed 31 = .ok (.bipush 91, 2) := by decide +kernel
theorem dX12_feed_33 : decode cX12_feed 33 = .ok (.aload_n 0, 1) := by decide +kernel
theorem dX12_feed_34 : decode cX12_feed 34 = .ok (.getfield 9, 3) := by decide +kernel
theorem dX12_feed_37 : decode cX12_feed 37 = .ok (.iconst 4, 1) := by decide +kernel
theorem dX12_feed_38 : decode cX12_feed 38 = .ok (.iaload, 1) := by decide +kernel
theorem dX12_feed_39 : decode cX12_feed 39 = .ok (.iadd, 1) := by decide +kernel
theorem dX12_feed_40 : decode cX12_feed 40 = .ok (.iload_n 1, 1) := by decide +kernel
theorem dX12_feed_41 : decode cX12_feed 41 = .ok (.iastore, 1) := by decide +kernel
theorem dX12_feed_42 : decode cX12_feed 42 = .ok (.aload_n 0, 1) := by decide +kernel
theorem dX12_feed_43 : decode cX12_feed 43 = .ok (.getfield 9, 3) := by decide +kernel
theorem dX12_feed_46 : decode cX12_feed 46 = .ok (.iconst 4, 1) := by decide +kernel
theorem dX12_feed_47 : decode cX12_feed 47 = .ok (.dup2, 1) := by decide +kernel
theorem dX12_feed_48 : decode cX12_feed 48 = .ok (.iaload, 1) := by decide +kernel
theorem dX12_feed_49 : decode cX12_feed 49 = .ok (.iconst 1, 1) := by decide +kernel
theorem dX12_feed_50 : decode cX12_feed 50 = .ok (.iadd, 1) := by decide +kernel
theorem dX12_feed_51 : decode cX12_feed 51 = .ok (.iastore, 1) := by decide +kernel
theorem dX12_feed_52 : decode cX12_feed 52 = .ok (.aload_n 0, 1) := by decide +kernel
theorem dX12_feed_53 : decode cX12_feed 53 = .ok (.getfield 9, 3) := by decide +kernel
theorem dX12_feed_56 : decode cX12_feed 56 = .ok (.iconst 4, 1) := by decide +kernel
theorem dX12_feed_57 : decode cX12_feed 57 = .ok (.iaload, 1) := by decide +kernel
theorem dX12_feed_58 : decode cX12_feed 58 = .ok (.ireturn, 1) := by decide +kernel
theorem dX12_here_0 : decode cX12_here 0 = .ok (.aload_n 0, 1) := by decide +kernel
theorem dX12_here_1 : decode cX12_here 1 = .ok (.getfield 59, 3) := by decide +kernel
theorem dX12_here_4 : decode cX12_here 4 = .ok (.aload_n 0, 1) := by decide +kernel
theorem dX12_here_5 : decode cX12_here 5 = .ok (.getfield 62, 3) := by decide +kernel
theorem dX12_here_8 : decode cX12_here 8 = .ok (.if_icmp .ge 18, 3) := by decide +kernel
theorem dX12_here_11 : decode cX12_here 11 = .ok (.aload_n 0, 1) := by decide +kernel
theorem dX12_here_12 : decode cX12_here 12 = .ok (.getfield 9, 3) := by decide +kernel
theorem dX12_here_15 : decode cX12_here 15 = .ok (.bipush 91, 2) := by decide +kernel
theorem dX12_here_17 : decode cX12_here 17 = .ok (.aload_n 0, 1) := by decide +kernel
theorem dX12_here_18 : decode cX12_here 18 = .ok (.getfield 59, 3) := by decide +kernel
theorem dX12_here_21 : decode cX12_here 21 = .ok (.iadd, 1) := by decide +kernel
theorem dX12_here_22 : decode cX12_here 22 = .ok (.iaload, 1) := by decide +kernel
theorem dX12_here_23 : decode cX12_here 23 = .ok (.goto 4, 3) := by decide +kernel
theorem dX12_here_26 : decode cX12_here 26 = .ok (.iconst (-1), 1) := by decide +kernel
theorem dX12_here_27 : decode cX12_here 27 = .ok (.ireturn, 1) := by decide +kernel
set_option maxRecDepth 20000 in
theorem ggX12_must_X12_here : GoodIn wsX12_must wsX12_here := goodIn_r _ [7, 2, 8, 9, 10, 11, 12, 13, 14, 15, 16, 17, 18, 19, 20, 21, 22, 23, 24, 25, 26, 27, 28, 29, 30, 31, 32] (by decide +kernel) (by decide +kernel)
set_option maxRecDepth 20000 in
theorem gX12_must_X12_here : GoodIn wsX12_must (wsV RX12 69 RX12 yX12_here wsX12_here) := goodIn_app (goodIn_of _ (by decide +kernel)) ggX12_must_X12_here
theorem dX12_must_0 : decode cX12_must 0 = .ok (.aload_n 0, 1) := by decide +kernel
theorem dX12_must_1 : decode cX12_must 1 = .ok (.aload_n 0, 1) := by decide +kernel
theorem dX12_must_2 : decode cX12_must 2 = .ok (.getfield 65, 3) := by decide +kernel
theorem dX12_must_5 : decode cX12_must 5 = .ok (.ifCond .ne 11, 3) := by decide +kernel
theorem dX12_must_8 : decode cX12_must 8 = .ok (.aload_n 0, 1) := by decide +kernel
theorem dX12_must_9 : decode cX12_must 9 = .ok (.invokevirtual 69, 3) := by decide +kernel
theorem dX12_must_12 : decode cX12_must 12 = .ok (.iload_n 1, 1) := by decide +kernel
theorem dX12_must_13 : decode cX12_must 13 = .ok (.if_icmp .eq 7, 3) := by decide +kernel
theorem dX12_must_16 : decode cX12_must 16 = .ok (.iconst 1, 1) := by decide +kernel
theorem dX12_must_17 : decode cX12_must 17 = .ok (.goto 4, 3) := by decide +kernel
theorem dX12_must_20 : decode cX12_must 20 = .ok (.iconst 0, 1) := by decide +kernel
theorem dX12_must_21 : decode cX12_must 21 = .ok (.putfield 65, 3) := by decide +kernel
theorem dX12_must_24 : decode cX12_must 24 = .ok (.aload_n 0, 1) := by decide +kernel
theorem dX12_must_25 : decode cX12_must 25 = .ok (.dup, 1) := by decide +kernel
theorem dX12_must_26 : decode cX12_must 26 = .ok (.getfield 59, 3) := by decide +kernel
theorem dX12_must_29 : decode cX12_must 29 = .ok (.aload_n 0, 1) := by decide +kernel
theorem dX12_must_30 : decode cX12_must 30 = .ok (.getfield 65, 3) := by decide +kernel
theorem dX12_must_33 : decode cX12_must 33 = .ok (.ifCond .eq 7, 3) := by decide +kernel
theorem dX12_must_36 : decode cX12_must 36 = .ok (.iconst 0, 1) := by decide +kernel
theorem dX12_must_37 : decode cX12_must 37 = .ok (.goto 4, 3) := by decide +kernel
theorem dX12_must_40 : decode cX12_must 40 = .ok (.iconst 1, 1) := by decide +kernel
theorem dX12_must_41 : decode cX12_must 41 = .ok (.iadd, 1) := by decide +kernel
theorem dX12_must_42 : decode cX12_must 42 = .ok (.putfield 59, 3) := by decide +kernel
theorem dX12_must_45 : decode cX12_must 45 = .ok (.return_, 1) := by decide +kernel
set_option maxRecDepth 20000 in
theorem ggX12_spells_J0_length_8abf5 : GoodIn wsX12_spells wsJ0_length_8abf5 := goodIn_r _ [5, 6, 7, 8, 9, 4, 10, 11, 12] (by decide +kernel) (by decide +kernel)
set_option maxRecDepth 20000 in
theorem gX12_spells_J0_length_8abf5 : GoodIn wsX12_spells (wsV RX12 73 RJ0 yJ0_length_8abf5 wsJ0_length_8abf5) := goodIn_app (goodIn_of _ (by decide +kernel)) ggX12_spells_J0_length_8abf5
set_option maxRecDepth 20000 in
theorem ggX12_spells_J0_charAt_5068e : GoodIn wsX12_spells wsJ0_charAt_5068e := goodIn_r _ [16, 6, 17, 18, 19, 4, 20, 11, 12, 21, 22, 23, 24, 25, 26, 27, 28, 29, 30, 31, 32, 33, 34, 35, 36, 37, 38, 39, 40, 41, 42, 43, 44, 45, 46, 47, 48, 49] (by decide +kernel) (by decide +kernel)
set_option maxRecDepth 20000 in
theorem gX12_spells_J0_charAt_5068e : GoodIn wsX12_spells (wsV RX12 78 RJ0 yJ0_charAt_5068e wsJ0_charAt_5068e) := goodIn_app (goodIn_of _ (by decide +kernel)) ggX12_spells_J0_charAt_5068e
set_option maxRecDepth 20000 in
theorem ggX12_spells_X12_must : GoodIn wsX12_spells wsX12_must := goodIn_r _ [54, 55, 56, 57, 58, 59, 53, 60, 61, 62, 63, 64, 65, 66, 67, 68, 69, 70, 71, 72, 73, 74, 75, 76, 77, 78, 79, 80, 81, 82, 83, 84, 85] (by decide +kernel) (by decide +kernel)
set_option maxRecDepth 20000 in
theorem gX12_spells_X12_must : GoodIn wsX12_spells (wsV RX12 82 RX12 yX12_must wsX12_must) := goodIn_app (goodIn_of _ (by decide +kernel)) ggX12_spells_X12_must
theorem dX12_spells_0 : decode cX12_spells 0 = .ok (.iconst 0, 1) := by decide +kernel
theorem dX12_spells_1 : decode cX12_spells 1 = .ok (.istore_n 2, 1) := by decide +kernel
theorem dX12_spells_2 : decode cX12_spells 2 = .ok (.iload_n 2, 1) := by decide +kernel
theorem dX12_spells_3 : decode cX12_spells 3 = .ok (.aload_n 1, 1) := by decide +kernel
theorem dX12_spells_4 : decode cX12_spells 4 = .ok (.invokevirtual 73, 3) := by decide +kernel
theorem dX12_spells_7 : decode cX12_spells 7 = .ok (.if_icmp .ge 18, 3) := by decide +kernel
theorem dX12_spells_10 : decode cX12_spells 10 = .ok (.aload_n 0, 1) := by decide +kernel
theorem dX12_spells_11 : decode cX12_spells 11 = .ok (.aload_n 1, 1) := by decide +kernel
theorem dX12_spells_12 : decode cX12_spells 12 = .ok (.iload_n 2, 1) := by decide +kernel
theorem dX12_spells_13 : decode cX12_spells 13 = .ok (.invokevirtual 78, 3) := by decide +kernel
theorem dX12_spells_16 : decode cX12_spells 16 = .ok (.invokevirtual 82, 3) := by decide +kernel
theorem dX12_spells_19 : decode cX12_spells 19 = .ok (.iinc 2 1, 3) := by decide +kernel
theorem dX12_spells_22 : decode cX12_spells 22 = .ok (.goto (-20), 3) := by decide +kernel
theorem dX12_spells_25 : decode cX12_spells 25 = .ok (.return_, 1) := by decide +kernel
set_option maxRecDepth 20000 in
theorem ggX12_figures_X12_here : GoodIn wsX12_figures wsX12_here := goodIn_r _ [7, 2, 8, 9, 13, 14, 15, 16, 17, 18, 19, 20, 21, 22, 23, 24, 25, 26, 27, 28, 29, 30, 31, 32, 33, 34, 35] (by decide +kernel) (by decide +kernel)
set_option maxRecDepth 20000 in
theorem gX12_figures_X12_here : GoodIn wsX12_figures (wsV RX12 69 RX12 yX12_here wsX12_here) := goodIn_app (goodIn_of _ (by decide +kernel)) ggX12_figures_X12_here
set_option maxRecDepth 20000 in
theorem ggX12_figures_X12_in : GoodIn wsX12_figures wsX12_in := goodIn_r _ [12] (by decide +kernel) (by decide +kernel)
set_option maxRecDepth 20000 in
theorem gX12_figures_X12_in : GoodIn wsX12_figures (va_wsS RX12 45 yX12_in wsX12_in) := goodIn_app (goodIn_of _ (by decide +kernel)) ggX12_figures_X12_in
theorem dX12_figures_0 : decode cX12_figures 0 = .ok (.aload_n 0, 1) := by decide +kernel
theorem dX12_figures_1 : decode cX12_figures 1 = .ok (.aload_n 0, 1) := by decide +kernel
theorem dX12_figures_2 : decode cX12_figures 2 = .ok (.getfield 65, 3) := by decide +kernel
theorem dX12_figures_5 : decode cX12_figures 5 = .ok (.ifCond .ne 17, 3) := by decide +kernel
theorem dX12_figures_8 : decode cX12_figures 8 = .ok (.aload_n 0, 1) := by decide +kernel
theorem dX12_figures_9 : decode cX12_figures 9 = .ok (.invokevirtual 69, 3) := by decide +kernel
theorem dX12_figures_12 : decode cX12_figures 12 = .ok (.bipush 48, 2) := by decide +kernel
theorem dX12_figures_14 : decode cX12_figures 14 = .ok (.bipush 57, 2) := by decide +kernel
theorem dX12_figures_16 : decode cX12_figures 16 = .ok (.invokestatic 45, 3) := by decide +kernel
theorem dX12_figures_19 : decode cX12_figures 19 = .ok (.ifCond .ne 7, 3) := by decide +kernel
theorem dX12_figures_22 : decode cX12_figures 22 = .ok (.iconst 1, 1) := by decide +kernel
theorem dX12_figures_23 : decode cX12_figures 23 = .ok (.goto 4, 3) := by decide +kernel
theorem dX12_figures_26 : decode cX12_figures 26 = .ok (.iconst 0, 1) := by decide +kernel
theorem dX12_figures_27 : decode cX12_figures 27 = .ok (.putfield 65, 3) := by decide +kernel
theorem dX12_figures_30 : decode cX12_figures 30 = .ok (.iconst 0, 1) := by decide +kernel
theorem dX12_figures_31 : decode cX12_figures 31 = .ok (.istore_n 1, 1) := by decide +kernel
theorem dX12_figures_32 : decode cX12_figures 32 = .ok (.iconst 0, 1) := by decide +kernel
theorem dX12_figures_33 : decode cX12_figures 33 = .ok (.istore_n 2, 1) := by decide +kernel
theorem dX12_figures_34 : decode cX12_figures 34 = .ok (.iload_n 2, 1) := by decide +kernel
theorem dX12_figures_35 : decode cX12_figures 35 = .ok (.iconst 2, 1) := by decide +kernel
theorem dX12_figures_36 : decode cX12_figures 36 = .ok (.if_icmp .ge 61, 3) := by decide +kernel
theorem dX12_figures_39 : decode cX12_figures 39 = .ok (.aload_n 0, 1) := by decide +kernel
theorem dX12_figures_40 : decode cX12_figures 40 = .ok (.getfield 65, 3) := by decide +kernel
theorem dX12_figures_43 : decode cX12_figures 43 = .ok (.ifCond .ne 54, 3) := by decide +kernel
theorem dX12_figures_46 : decode cX12_figures 46 = .ok (.aload_n 0, 1) := by decide +kernel
theorem dX12_figures_47 : decode cX12_figures 47 = .ok (.invokevirtual 69, 3) := by decide +kernel
theorem dX12_figures_50 : decode cX12_figures 50 = .ok (.bipush 48, 2) := by decide +kernel
theorem dX12_figures_52 : decode cX12_figures 52 = .ok (.bipush 57, 2) := by decide +kernel
theorem dX12_figures_54 : decode cX12_figures 54 = .ok (.invokestatic 45, 3) := by decide +kernel
theorem dX12_figures_57 : decode cX12_figures 57 = .ok (.ifCond .eq 40, 3) := by decide +kernel
theorem dX12_figures_60 : decode cX12_figures 60 = .ok (.iload_n 2, 1) := by decide +kernel
theorem dX12_figures_61 : decode cX12_figures 61 = .ok (.ifCond .eq 7, 3) := by decide +kernel
theorem dX12_figures_64 : decode cX12_figures 64 = .ok (.iload_n 1, 1) := by decide +kernel
theorem dX12_figures_65 : decode cX12_figures 65 = .ok (.ifCond .le 32, 3) := by decide +kernel
theorem dX12_figures_68 : decode cX12_figures 68 = .ok (.bipush 10, 2) := by decide +kernel
theorem dX12_figures_70 : decode cX12_figures 70 = .ok (.iload_n 1, 1) := by decide +kernel
theorem dX12_figures_71 : decode cX12_figures 71 = .ok (.imul, 1) := by decide +kernel
theorem dX12_figures_72 : decode cX12_figures 72 = .ok (.aload_n 0, 1) := by decide +kernel
theorem dX12_figures_73 : decode cX12_figures 73 = .ok (.invokevirtual 69, 3) := by decide +kernel
theorem dX12_figures_76 : decode cX12_figures 76 = .ok (.iadd, 1) := by decide +kernel
theorem dX12_figures_77 : decode cX12_figures 77 = .ok (.bipush 48, 2) := by decide +kernel
theorem dX12_figures_79 : decode cX12_figures 79 = .ok (.isub, 1) := by decide +kernel
theorem dX12_figures_80 : decode cX12_figures 80 = .ok (.istore_n 1, 1) := by decide +kernel
theorem dX12_figures_81 : decode cX12_figures 81 = .ok (.aload_n 0, 1) := by decide +kernel
theorem dX12_figures_82 : decode cX12_figures 82 = .ok (.dup, 1) := by decide +kernel
theorem dX12_figures_83 : decode cX12_figures 83 = .ok (.getfield 59, 3) := by decide +kernel
theorem dX12_figures_86 : decode cX12_figures 86 = .ok (.iconst 1, 1) := by decide +kernel
theorem dX12_figures_87 : decode cX12_figures 87 = .ok (.iadd, 1) := by decide +kernel
theorem dX12_figures_88 : decode cX12_figures 88 = .ok (.putfield 59, 3) := by decide +kernel
theorem dX12_figures_91 : decode cX12_figures 91 = .ok (.iinc 2 1, 3) := by decide +kernel
theorem dX12_figures_94 : decode cX12_figures 94 = .ok (.goto (-60), 3) := by decide +kernel
theorem dX12_figures_97 : decode cX12_figures 97 = .ok (.iload_n 1, 1) := by decide +kernel
theorem dX12_figures_98 : decode cX12_figures 98 = .ok (.ireturn, 1) := by decide +kernel
set_option maxRecDepth 20000 in
theorem ggX12_among_J0_length_8abf5 : GoodIn wsX12_among wsJ0_length_8abf5 := goodIn_r _ [6, 7, 8, 9, 10, 5, 11, 12, 13] (by decide +kernel) (by decide +kernel)
set_option maxRecDepth 20000 in
theorem gX12_among_J0_length_8abf5 : GoodIn wsX12_among (wsV RX12 73 RJ0 yJ0_length_8abf5 wsJ0_length_8abf5) := goodIn_app (goodIn_of _ (by decide +kernel)) ggX12_among_J0_length_8abf5
set_option maxRecDepth 20000 in
theorem ggX12_among_X12_here : GoodIn wsX12_among wsX12_here := goodIn_r _ [18, 1, 19, 20, 58, 59, 60, 61, 62, 63, 64, 65, 66, 67, 68, 69, 70, 71, 72, 73, 74, 75, 76, 77, 78, 79, 80] (by decide +kernel) (by decide +kernel)
set_option maxRecDepth 20000 in
theorem gX12_among_X12_here : GoodIn wsX12_among (wsV RX12 69 RX12 yX12_here wsX12_here) := goodIn_app (goodIn_of _ (by decide +kernel)) ggX12_among_X12_here
set_option maxRecDepth 20000 in
theorem ggX12_among_J0_charAt_5068e : GoodIn wsX12_among wsJ0_charAt_5068e := goodIn_r _ [24, 7, 25, 26, 27, 5, 28, 12, 13, 29, 30, 31, 32, 33, 34, 35, 36, 37, 38, 39, 40, 41, 42, 43, 44, 45, 46, 47, 48, 49, 50, 51, 52, 53, 54, 55, 56, 57] (by decide +kernel) (by decide +kernel)
set_option maxRecDepth 20000 in
theorem gX12_among_J0_charAt_5068e : GoodIn wsX12_among (wsV RX12 78 RJ0 yJ0_charAt_5068e wsJ0_charAt_5068e) := goodIn_app (goodIn_of _ (by decide +kernel)) ggX12_among_J0_charAt_5068e
theorem dX12_among_0 : decode cX12_among 0 = .ok (.iconst 0, 1) := by decide +kernel
theorem dX12_among_1 : decode cX12_among 1 = .ok (.istore_n 2, 1) := by decide +kernel
theorem dX12_among_2 : decode cX12_among 2 = .ok (.iload_n 2, 1) := by decide +kernel
theorem dX12_among_3 : decode cX12_among 3 = .ok (.aload_n 1, 1) := by decide +kernel
theorem dX12_among_4 : decode cX12_among 4 = .ok (.invokevirtual 73, 3) := by decide +kernel
theorem dX12_among_7 : decode cX12_among 7 = .ok (.if_icmp .ge 33, 3) := by decide +kernel
theorem dX12_among_10 : decode cX12_among 10 = .ok (.aload_n 0, 1) := by decide +kernel
theorem dX12_among_11 : decode cX12_among 11 = .ok (.invokevirtual 69, 3) := by decide +kernel
theorem dX12_among_14 : decode cX12_among 14 = .ok (.aload_n 1, 1) := by decide +kernel
theorem dX12_among_15 : decode cX12_among 15 = .ok (.iload_n 2, 1) := by decide +kernel
theorem dX12_among_16 : decode cX12_among 16 = .ok (.invokevirtual 78, 3) := by decide +kernel
theorem dX12_among_19 : decode cX12_among 19 = .ok (.if_icmp .ne 15, 3) := by decide +kernel
theorem dX12_among_22 : decode cX12_among 22 = .ok (.aload_n 0, 1) := by decide +kernel
theorem dX12_among_23 : decode cX12_among 23 = .ok (.dup, 1) := by decide +kernel
theorem dX12_among_24 : decode cX12_among 24 = .ok (.getfield 59, 3) := by decide +kernel
theorem dX12_among_27 : decode cX12_among 27 = .ok (.iconst 1, 1) := by decide +kernel
theorem dX12_among_28 : decode cX12_among 28 = .ok (.iadd, 1) := by decide +kernel
theorem dX12_among_29 : decode cX12_among 29 = .ok (.putfield 59, 3) := by decide +kernel
theorem dX12_among_32 : decode cX12_among 32 = .ok (.iload_n 2, 1) := by decide +kernel
theorem dX12_among_33 : decode cX12_among 33 = .ok (.ireturn, 1) := by decide +kernel
theorem dX12_among_34 : decode cX12_among 34 = .ok (.iinc 2 1, 3) := by decide +kernel
theorem dX12_among_37 : decode cX12_among 37 = .ok (.goto (-35), 3) := by decide +kernel
theorem dX12_among_40 : decode cX12_among 40 = .ok (.iconst (-1), 1) := by decide +kernel
theorem dX12_among_41 : decode cX12_among 41 = .ok (.ireturn, 1) := by decide +kernel
theorem dX12_emits_0 : decode cX12_emits 0 = .ok (.aload_n 0, 1) := by decide +kernel
theorem dX12_emits_1 : decode cX12_emits 1 = .ok (.getfield 65, 3) := by decide +kernel
theorem dX12_emits_4 : decode cX12_emits 4 = .ok (.ifCond .ne 52, 3) := by decide +kernel
theorem dX12_emits_7 : decode cX12_emits 7 = .ok (.aload_n 0, 1) := by decide +kernel
theorem dX12_emits_8 : decode cX12_emits 8 = .ok (.getfield 9, 3) := by decide +kernel
theorem dX12_emits_11 : decode cX12_emits 11 = .ok (.sipush 201, 3) := by decide +kernel
theorem dX12_emits_14 : decode cX12_emits 14 = .ok (.sipush 140, 3) := by decide +kernel
theorem dX12_emits_17 : decode cX12_emits 17 = .ok (.aload_n 0, 1) := by decide +kernel
theorem dX12_emits_18 : decode cX12_emits 18 = .ok (.getfield 86, 3) := by decide +kernel
theorem dX12_emits_21 : decode cX12_emits 21 = .ok (.imul, 1) := by decide +kernel
theorem dX12_emits_22 : decode cX12_emits 22 = .ok (.iadd, 1) := by decide +kernel
theorem dX12_emits_23 : decode cX12_emits 23 = .ok (.aload_n 0, 1) := by decide +kernel
theorem dX12_emits_24 : decode cX12_emits 24 = .ok (.getfield 9, 3) := by decide +kernel
theorem dX12_emits_27 : decode cX12_emits 27 = .ok (.sipush 196, 3) := by decide +kernel
theorem dX12_emits_30 : decode cX12_emits 30 = .ok (.aload_n 0, 1) := by decide +kernel
theorem dX12_emits_31 : decode cX12_emits 31 = .ok (.getfield 86, 3) := by decide +kernel
theorem dX12_emits_34 : decode cX12_emits 34 = .ok (.iadd, 1) := by decide +kernel
theorem dX12_emits_35 : decode cX12_emits 35 = .ok (.iaload, 1) := by decide +kernel
theorem dX12_emits_36 : decode cX12_emits 36 = .ok (.iadd, 1) := by decide +kernel
theorem dX12_emits_37 : decode cX12_emits 37 = .ok (.iload_n 1, 1) := by decide +kernel
theorem dX12_emits_38 : decode cX12_emits 38 = .ok (.iastore, 1) := by decide +kernel
theorem dX12_emits_39 : decode cX12_emits 39 = .ok (.aload_n 0, 1) := by decide +kernel
theorem dX12_emits_40 : decode cX12_emits 40 = .ok (.getfield 9, 3) := by decide +kernel
theorem dX12_emits_43 : decode cX12_emits 43 = .ok (.sipush 196, 3) := by decide +kernel
theorem dX12_emits_46 : decode cX12_emits 46 = .ok (.aload_n 0, 1) := by decide +kernel
theorem dX12_emits_47 : decode cX12_emits 47 = .ok (.getfield 86, 3) := by decide +kernel
theorem dX12_emits_50 : decode cX12_emits 50 = .ok (.iadd, 1) := by decide +kernel
theorem dX12_emits_51 : decode cX12_emits 51 = .ok (.dup2, 1) := by decide +kernel
theorem dX12_emits_52 : decode cX12_emits 52 = .ok (.iaload, 1) := by decide +kernel
theorem dX12_emits_53 : decode cX12_emits 53 = .ok (.iconst 1, 1) := by decide +kernel
theorem dX12_emits_54 : decode cX12_emits 54 = .ok (.iadd, 1) := by decide +kernel
theorem dX12_emits_55 : decode cX12_emits 55 = .ok (.iastore, 1) := by decide +kernel
theorem dX12_emits_56 : decode cX12_emits 56 = .ok (.return_, 1) := by decide +kernel
set_option maxRecDepth 20000 in
theorem ggX12_factor_X12_here : GoodIn wsX12_factor wsX12_here := goodIn_r _ [8, 3, 9, 10, 91, 92, 93, 94, 95, 96, 97, 98, 99, 100, 101, 102, 103, 104, 105, 106, 107, 108, 109, 110, 111, 112, 113] (by decide +kernel) (by decide +kernel)
set_option maxRecDepth 20000 in
theorem gX12_factor_X12_here : GoodIn wsX12_factor (wsV RX12 69 RX12 yX12_here wsX12_here) := goodIn_app (goodIn_of _ (by decide +kernel)) ggX12_factor_X12_here
set_option maxRecDepth 20000 in
theorem ggX12_factor_X12_factor : GoodIn wsX12_factor wsX12_factor := goodIn_r _ [0, 1, 2, 3, 4, 5, 6, 7, 8, 9, 10, 11, 12, 13, 14, 15, 16, 17, 18, 19, 20, 21, 22, 23, 24, 25, 26, 27, 28, 29, 30, 31, 32, 33, 34, 35, 36, 37, 38, 39, 40, 41, 42, 43, 44, 45, 46, 47, 48, 49, 50, 51, 52, 53, 54, 55, 56, 57, 58, 59, 60, 61, 62, 63, 64, 65, 66, 67, 68, 69, 70, 71, 72, 73, 74, 75, 76, 77, 78, 79, 80, 81, 82, 83, 84, 85, 86, 87, 88, 89, 90, 91, 92, 93, 94, 95, 96, 97, 98, 99, 100, 101, 102, 103, 104, 105, 106, 107, 108, 109, 110, 111, 112, 113] (by decide +kernel) (by decide +kernel)
set_option maxRecDepth 20000 in
theorem gX12_factor_X12_factor : GoodIn wsX12_factor (wsV RX12 92 RX12 yX12_factor wsX12_factor) := goodIn_app (goodIn_of _ (by decide +kernel)) ggX12_factor_X12_factor
set_option maxRecDepth 20000 in
theorem ggX12_factor_X12_emits : GoodIn wsX12_factor wsX12_emits := goodIn_r _ [17, 1, 10, 18, 91, 92, 93, 94, 95, 96, 97, 98, 99, 100, 101, 102, 103, 104, 105, 106, 107, 108, 109, 110, 111, 112, 113] (by decide +kernel) (by decide +kernel)
set_option maxRecDepth 20000 in
theorem gX12_factor_X12_emits : GoodIn wsX12_factor (wsV RX12 95 RX12 yX12_emits wsX12_emits) := goodIn_app (goodIn_of _ (by decide +kernel)) ggX12_factor_X12_emits
set_option maxRecDepth 20000 in
theorem ggX12_factor_X12_some : GoodIn wsX12_factor wsX12_some := goodIn_r _ [87, 1, 3, 88, 89, 90, 7, 4, 5, 6, 8, 9, 10, 14, 15, 16, 17, 18, 86, 11, 12, 13, 0, 2, 19, 20, 21, 22, 23, 24, 25, 26, 27, 28, 29, 30, 31, 32, 33, 34, 35, 36, 37, 38, 39, 40, 41, 42, 43, 44, 45, 46, 47, 48, 49, 50, 51, 52, 53, 54, 55, 56, 57, 58, 59, 60, 61, 62, 63, 64, 65, 66, 67, 68, 69, 70, 71, 72, 73, 74, 75, 76, 77, 78, 79, 80, 81, 82, 83, 84, 85, 91, 92, 93, 94, 95, 96, 97, 98, 99, 100, 101, 102, 103, 104, 105, 106, 107, 108, 109, 110, 111, 112, 113] (by decide +kernel) (by decide +kernel)
set_option maxRecDepth 20000 in
theorem gX12_factor_X12_some : GoodIn wsX12_factor (wsV RX12 98 RX12 yX12_some wsX12_some) := goodIn_app (goodIn_of _ (by decide +kernel)) ggX12_factor_X12_some
set_option maxRecDepth 20000 in
theorem ggX12_factor_X12_must : GoodIn wsX12_factor wsX12_must := goodIn_r _ [25, 1, 3, 4, 5, 6, 7, 8, 9, 10, 91, 92, 93, 94, 95, 96, 97, 98, 99, 100, 101, 102, 103, 104, 105, 106, 107, 108, 109, 110, 111, 112, 113] (by decide +kernel) (by decide +kernel)
set_option maxRecDepth 20000 in
theorem gX12_factor_X12_must : GoodIn wsX12_factor (wsV RX12 82 RX12 yX12_must wsX12_must) := goodIn_app (goodIn_of _ (by decide +kernel)) ggX12_factor_X12_must
set_option maxRecDepth 20000 in
theorem ggX12_factor_X12_among : GoodIn wsX12_factor wsX12_among := goodIn_r _ [29, 3, 30, 31, 32, 33, 34, 35, 36, 37, 38, 39, 40, 41, 4, 5, 6, 7, 8, 9, 10, 42, 43, 44, 45, 46, 47, 48, 49, 50, 51, 52, 53, 54, 55, 56, 57, 58, 59, 60, 61, 62, 63, 64, 65, 66, 67, 68, 69, 70, 71, 72, 73, 74, 75, 76, 77, 78, 91, 92, 93, 94, 95, 96, 97, 98, 99, 100, 101, 102, 103, 104, 105, 106, 107, 108, 109, 110, 111, 112, 113] (by decide +kernel) (by decide +kernel)
set_option maxRecDepth 20000 in
theorem gX12_factor_X12_among : GoodIn wsX12_factor (wsV RX12 103 RX12 yX12_among wsX12_among) := goodIn_app (goodIn_of _ (by decide +kernel)) ggX12_factor_X12_among
set_option maxRecDepth 20000 in
theorem ggX12_factor_X12_figures : GoodIn wsX12_factor wsX12_figures := goodIn_r _ [82, 1, 3, 4, 5, 6, 7, 8, 9, 10, 83, 84, 85, 91, 92, 93, 94, 95, 96, 97, 98, 99, 100, 101, 102, 103, 104, 105, 106, 107, 108, 109, 110, 111, 112, 113] (by decide +kernel) (by decide +kernel)
set_option maxRecDepth 20000 in
theorem gX12_factor_X12_figures : GoodIn wsX12_factor (wsV RX12 109 RX12 yX12_figures wsX12_figures) := goodIn_app (goodIn_of _ (by decide +kernel)) ggX12_factor_X12_figures
theorem dX12_factor_0 : decode cX12_factor 0 = .ok (.aload_n 0, 1) := by decide +kernel
theorem dX12_factor_1 : decode cX12_factor 1 = .ok (.getfield 65, 3) := by decide +kernel
theorem dX12_factor_4 : decode cX12_factor 4 = .ok (.ifCond .eq 4, 3) := by decide +kernel
theorem dX12_factor_7 : decode cX12_factor 7 = .ok (.return_, 1) := by decide +kernel
theorem dX12_factor_8 : decode cX12_factor 8 = .ok (.aload_n 0, 1) := by decide +kernel
theorem dX12_factor_9 : decode cX12_factor 9 = .ok (.invokevirtual 69, 3) := by decide +kernel
theorem dX12_factor_12 : decode cX12_factor 12 = .ok (.istore_n 1, 1) := by decide +kernel
theorem dX12_factor_13 : decode cX12_factor 13 = .ok (.iload_n 1, 1) := by decide +kernel
theorem dX12_factor_14 : decode cX12_factor 14 = .ok (.bipush 33, 2) := by decide +kernel
theorem dX12_factor_16 : decode cX12_factor 16 = .ok (.if_icmp .eq 9, 3) := by decide +kernel
theorem dX12_factor_19 : decode cX12_factor 19 = .ok (.iload_n 1, 1) := by decide +kernel
theorem dX12_factor_20 : decode cX12_factor 20 = .ok (.bipush 40, 2) := by decide +kernel
theorem dX12_factor_22 : decode cX12_factor 22 = .ok (.if_icmp .ne 90, 3) := by decide +kernel
theorem dX12_factor_25 : decode cX12_factor 25 = .ok (.aload_n 0, 1) := by decide +kernel
theorem dX12_factor_26 : decode cX12_factor 26 = .ok (.aload_n 0, 1) := by decide +kernel
theorem dX12_factor_27 : decode cX12_factor 27 = .ok (.getfield 89, 3) := by decide +kernel
theorem dX12_factor_30 : decode cX12_factor 30 = .ok (.iconst 5, 1) := by decide +kernel
theorem dX12_factor_31 : decode cX12_factor 31 = .ok (.if_icmp .ne 7, 3) := by decide +kernel
theorem dX12_factor_34 : decode cX12_factor 34 = .ok (.iconst 1, 1) := by decide +kernel
theorem dX12_factor_35 : decode cX12_factor 35 = .ok (.goto 4, 3) := by decide +kernel
theorem dX12_factor_38 : decode cX12_factor 38 = .ok (.iconst 0, 1) := by decide +kernel
theorem dX12_factor_39 : decode cX12_factor 39 = .ok (.putfield 65, 3) := by decide +kernel
theorem dX12_factor_42 : decode cX12_factor 42 = .ok (.aload_n 0, 1) := by decide +kernel
theorem dX12_factor_43 : decode cX12_factor 43 = .ok (.dup, 1) := by decide +kernel
theorem dX12_factor_44 : decode cX12_factor 44 = .ok (.getfield 89, 3) := by decide +kernel
theorem dX12_factor_47 : decode cX12_factor 47 = .ok (.iconst 1, 1) := by decide +kernel
theorem dX12_factor_48 : decode cX12_factor 48 = .ok (.iadd, 1) := by decide +kernel
theorem dX12_factor_49 : decode cX12_factor 49 = .ok (.putfield 89, 3) := by decide +kernel
theorem dX12_factor_52 : decode cX12_factor 52 = .ok (.aload_n 0, 1) := by decide +kernel
theorem dX12_factor_53 : decode cX12_factor 53 = .ok (.dup, 1) := by decide +kernel
theorem dX12_factor_54 : decode cX12_factor 54 = .ok (.getfield 59, 3) := by decide +kernel
theorem dX12_factor_57 : decode cX12_factor 57 = .ok (.aload_n 0, 1) := by decide +kernel
theorem dX12_factor_58 : decode cX12_factor 58 = .ok (.getfield 65, 3) := by decide +kernel
theorem dX12_factor_61 : decode cX12_factor 61 = .ok (.ifCond .eq 7, 3) := by decide +kernel
theorem dX12_factor_64 : decode cX12_factor 64 = .ok (.iconst 0, 1) := by decide +kernel
theorem dX12_factor_65 : decode cX12_factor 65 = .ok (.goto 4, 3) := by decide +kernel
theorem dX12_factor_68 : decode cX12_factor 68 = .ok (.iconst 1, 1) := by decide +kernel
theorem dX12_factor_69 : decode cX12_factor 69 = .ok (.iadd, 1) := by decide +kernel
theorem dX12_factor_70 : decode cX12_factor 70 = .ok (.putfield 59, 3) := by decide +kernel
theorem dX12_factor_73 : decode cX12_factor 73 = .ok (.iload_n 1, 1) := by decide +kernel
theorem dX12_factor_74 : decode cX12_factor 74 = .ok (.bipush 33, 2) := by decide +kernel
theorem dX12_factor_76 : decode cX12_factor 76 = .ok (.if_icmp .ne 15, 3) := by decide +kernel
theorem dX12_factor_79 : decode cX12_factor 79 = .ok (.aload_n 0, 1) := by decide +kernel
theorem dX12_factor_80 : decode cX12_factor 80 = .ok (.invokevirtual 92, 3) := by decide +kernel
theorem dX12_factor_83 : decode cX12_factor 83 = .ok (.aload_n 0, 1) := by decide +kernel
theorem dX12_factor_84 : decode cX12_factor 84 = .ok (.iconst (-1), 1) := by decide +kernel
theorem dX12_factor_85 : decode cX12_factor 85 = .ok (.invokevirtual 95, 3) := by decide +kernel
theorem dX12_factor_88 : decode cX12_factor 88 = .ok (.goto 13, 3) := by decide +kernel
theorem dX12_factor_91 : decode cX12_factor 91 = .ok (.aload_n 0, 1) := by decide +kernel
theorem dX12_factor_92 : decode cX12_factor 92 = .ok (.invokevirtual 98, 3) := by decide +kernel
theorem dX12_factor_95 : decode cX12_factor 95 = .ok (.aload_n 0, 1) := by decide +kernel
theorem dX12_factor_96 : decode cX12_factor 96 = .ok (.bipush 41, 2) := by decide +kernel
theorem dX12_factor_98 : decode cX12_factor 98 = .ok (.invokevirtual 82, 3) := by decide +kernel
theorem dX12_factor_101 : decode cX12_factor 101 = .ok (.aload_n 0, 1) := by decide +kernel
theorem dX12_factor_102 : decode cX12_factor 102 = .ok (.dup, 1) := by decide +kernel
theorem dX12_factor_103 : decode cX12_factor 103 = .ok (.getfield 89, 3) := by decide +kernel
theorem dX12_factor_106 : decode cX12_factor 106 = .ok (.iconst 1, 1) := by decide +kernel
theorem dX12_factor_107 : decode cX12_factor 107 = .ok (.isub, 1) := by decide +kernel
theorem dX12_factor_108 : decode cX12_factor 108 = .ok (.putfield 89, 3) := by decide +kernel
theorem dX12_factor_111 : decode cX12_factor 111 = .ok (.return_, 1) := by decide +kernel
theorem dX12_factor_112 : decode cX12_factor 112 = .ok (.aload_n 0, 1) := by decide +kernel
theorem dX12_factor_113 : decode cX12_factor 113 = .ok (.ldc 101, 2) := by decide +kernel
theorem dX12_factor_115 : decode cX12_factor 115 = .ok (.invokevirtual 103, 3) := by decide +kernel
theorem dX12_factor_118 : decode cX12_factor 118 = .ok (.istore_n 2, 1) := by decide +kernel
theorem dX12_factor_119 : decode cX12_factor 119 = .ok (.aload_n 0, 1) := by decide +kernel
theorem dX12_factor_120 : decode cX12_factor 120 = .ok (.iload_n 2, 1) := by decide +kernel
theorem dX12_factor_121 : decode cX12_factor 121 = .ok (.iconst (-1), 1) := by decide +kernel
theorem dX12_factor_122 : decode cX12_factor 122 = .ok (.if_icmp .ne 7, 3) := by decide +kernel
theorem dX12_factor_125 : decode cX12_factor 125 = .ok (.iconst 1, 1) := by decide +kernel
theorem dX12_factor_126 : decode cX12_factor 126 = .ok (.goto 4, 3) := by decide +kernel
theorem dX12_factor_129 : decode cX12_factor 129 = .ok (.iconst 0, 1) := by decide +kernel
theorem dX12_factor_130 : decode cX12_factor 130 = .ok (.putfield 65, 3) := by decide +kernel
theorem dX12_factor_133 : decode cX12_factor 133 = .ok (.aload_n 0, 1) := by decide +kernel
theorem dX12_factor_134 : decode cX12_factor 134 = .ok (.getfield 65, 3) := by decide +kernel
theorem dX12_factor_137 : decode cX12_factor 137 = .ok (.ifCond .eq 7, 3) := by decide +kernel
theorem dX12_factor_140 : decode cX12_factor 140 = .ok (.iconst 0, 1) := by decide +kernel
theorem dX12_factor_141 : decode cX12_factor 141 = .ok (.goto 9, 3) := by decide +kernel
theorem dX12_factor_144 : decode cX12_factor 144 = .ok (.aload_n 0, 1) := by decide +kernel
theorem dX12_factor_145 : decode cX12_factor 145 = .ok (.ldc 107, 2) := by decide +kernel
theorem dX12_factor_147 : decode cX12_factor 147 = .ok (.invokevirtual 103, 3) := by decide +kernel
theorem dX12_factor_150 : decode cX12_factor 150 = .ok (.istore_n 3, 1) := by decide +kernel
theorem dX12_factor_151 : decode cX12_factor 151 = .ok (.aload_n 0, 1) := by decide +kernel
theorem dX12_factor_152 : decode cX12_factor 152 = .ok (.aload_n 0, 1) := by decide +kernel
theorem dX12_factor_153 : decode cX12_factor 153 = .ok (.getfield 65, 3) := by decide +kernel
theorem dX12_factor_156 : decode cX12_factor 156 = .ok (.ifCond .ne 8, 3) := by decide +kernel
theorem dX12_factor_159 : decode cX12_factor 159 = .ok (.iload_n 3, 1) := by decide +kernel
theorem dX12_factor_160 : decode cX12_factor 160 = .ok (.iconst (-1), 1) := by decide +kernel
theorem dX12_factor_161 : decode cX12_factor 161 = .ok (.if_icmp .ne 7, 3) := by decide +kernel
theorem dX12_factor_164 : decode cX12_factor 164 = .ok (.iconst 1, 1) := by decide +kernel
theorem dX12_factor_165 : decode cX12_factor 165 = .ok (.goto 4, 3) := by decide +kernel
theorem dX12_factor_168 : decode cX12_factor 168 = .ok (.iconst 0, 1) := by decide +kernel
theorem dX12_factor_169 : decode cX12_factor 169 = .ok (.putfield 65, 3) := by decide +kernel
theorem dX12_factor_172 : decode cX12_factor 172 = .ok (.aload_n 0, 1) := by decide +kernel
theorem dX12_factor_173 : decode cX12_factor 173 = .ok (.invokevirtual 109, 3) := by decide +kernel
theorem dX12_factor_176 : decode cX12_factor 176 = .ok (.istore 4, 2) := by decide +kernel
theorem dX12_factor_178 : decode cX12_factor 178 = .ok (.aload_n 0, 1) := by decide +kernel
theorem dX12_factor_179 : decode cX12_factor 179 = .ok (.iload_n 2, 1) := by decide +kernel
theorem dX12_factor_180 : decode cX12_factor 180 = .ok (.bipush 8, 2) := by decide +kernel
theorem dX12_factor_182 : decode cX12_factor 182 = .ok (.iload_n 3, 1) := by decide +kernel
theorem dX12_factor_183 : decode cX12_factor 183 = .ok (.imul, 1) := by decide +kernel
theorem dX12_factor_184 : decode cX12_factor 184 = .ok (.iadd, 1) := by decide +kernel
theorem dX12_factor_185 : decode cX12_factor 185 = .ok (.bipush 32, 2) := by decide +kernel
theorem dX12_factor_187 : decode cX12_factor 187 = .ok (.iload 4, 2) := by decide +kernel
theorem dX12_factor_189 : decode cX12_factor 189 = .ok (.imul, 1) := by decide +kernel
theorem dX12_factor_190 : decode cX12_factor 190 = .ok (.iadd, 1) := by decide +kernel
theorem dX12_factor_191 : decode cX12_factor 191 = .ok (.invokevirtual 95, 3) := by decide +kernel
theorem dX12_factor_194 : decode cX12_factor 194 = .ok (.return_, 1) := by decide +kernel
set_option maxRecDepth 20000 in
theorem ggX12_every_X12_factor : GoodIn wsX12_every wsX12_factor := goodIn_r _ [18, 1, 19, 2, 7, 8, 9, 6, 10, 11, 12, 3, 4, 5, 13, 14, 15, 16, 17, 20, 21, 22, 23, 24, 25, 26, 27, 28, 29, 30, 31, 32, 33, 34, 35, 36, 37, 38, 39, 40, 41, 42, 43, 44, 45, 46, 47, 48, 49, 50, 51, 52, 53, 54, 55, 56, 57, 58, 59, 60, 61, 62, 63, 64, 65, 66, 67, 68, 69, 70, 71, 72, 73, 74, 75, 76, 77, 78, 79, 80, 81, 82, 83, 84, 85, 86, 0, 87, 88, 89, 90, 91, 92, 93, 94, 95, 96, 97, 98, 99, 100, 101, 102, 103, 104, 105, 106, 107, 108, 109, 110, 111, 112, 113] (by decide +kernel) (by decide +kernel)
set_option maxRecDepth 20000 in
theorem gX12_every_X12_factor : GoodIn wsX12_every (wsV RX12 92 RX12 yX12_factor wsX12_factor) := goodIn_app (goodIn_of _ (by decide +kernel)) ggX12_every_X12_factor
set_option maxRecDepth 20000 in
theorem ggX12_every_X12_here : GoodIn wsX12_every wsX12_here := goodIn_r _ [10, 2, 11, 12, 91, 92, 93, 94, 95, 96, 97, 98, 99, 100, 101, 102, 103, 104, 105, 106, 107, 108, 109, 110, 111, 112, 113] (by decide +kernel) (by decide +kernel)
set_option maxRecDepth 20000 in
theorem gX12_every_X12_here : GoodIn wsX12_every (wsV RX12 69 RX12 yX12_here wsX12_here) := goodIn_app (goodIn_of _ (by decide +kernel)) ggX12_every_X12_here
set_option maxRecDepth 20000 in
theorem ggX12_every_X12_emits : GoodIn wsX12_every wsX12_emits := goodIn_r _ [16, 1, 12, 17, 91, 92, 93, 94, 95, 96, 97, 98, 99, 100, 101, 102, 103, 104, 105, 106, 107, 108, 109, 110, 111, 112, 113] (by decide +kernel) (by decide +kernel)
set_option maxRecDepth 20000 in
theorem gX12_every_X12_emits : GoodIn wsX12_every (wsV RX12 95 RX12 yX12_emits wsX12_emits) := goodIn_app (goodIn_of _ (by decide +kernel)) ggX12_every_X12_emits
theorem dX12_every_0 : decode cX12_every 0 = .ok (.aload_n 0, 1) := by decide +kernel
theorem dX12_every_1 : decode cX12_every 1 = .ok (.invokevirtual 92, 3) := by decide +kernel
theorem dX12_every_4 : decode cX12_every 4 = .ok (.aload_n 0, 1) := by decide +kernel
theorem dX12_every_5 : decode cX12_every 5 = .ok (.getfield 65, 3) := by decide +kernel
theorem dX12_every_8 : decode cX12_every 8 = .ok (.ifCond .ne 35, 3) := by decide +kernel
theorem dX12_every_11 : decode cX12_every 11 = .ok (.aload_n 0, 1) := by decide +kernel
theorem dX12_every_12 : decode cX12_every 12 = .ok (.invokevirtual 69, 3) := by decide +kernel
theorem dX12_every_15 : decode cX12_every 15 = .ok (.bipush 38, 2) := by decide +kernel
theorem dX12_every_17 : decode cX12_every 17 = .ok (.if_icmp .ne 26, 3) := by decide +kernel
theorem dX12_every_20 : decode cX12_every 20 = .ok (.aload_n 0, 1) := by decide +kernel
theorem dX12_every_21 : decode cX12_every 21 = .ok (.dup, 1) := by decide +kernel
theorem dX12_every_22 : decode cX12_every 22 = .ok (.getfield 59, 3) := by decide +kernel
theorem dX12_every_25 : decode cX12_every 25 = .ok (.iconst 1, 1) := by decide +kernel
theorem dX12_every_26 : decode cX12_every 26 = .ok (.iadd, 1) := by decide +kernel
theorem dX12_every_27 : decode cX12_every 27 = .ok (.putfield 59, 3) := by decide +kernel
theorem dX12_every_30 : decode cX12_every 30 = .ok (.aload_n 0, 1) := by decide +kernel
theorem dX12_every_31 : decode cX12_every 31 = .ok (.invokevirtual 92, 3) := by decide +kernel
theorem dX12_every_34 : decode cX12_every 34 = .ok (.aload_n 0, 1) := by decide +kernel
theorem dX12_every_35 : decode cX12_every 35 = .ok (.bipush (-2), 2) := by decide +kernel
theorem dX12_every_37 : decode cX12_every 37 = .ok (.invokevirtual 95, 3) := by decide +kernel
theorem dX12_every_40 : decode cX12_every 40 = .ok (.goto (-36), 3) := by decide +kernel
theorem dX12_every_43 : decode cX12_every 43 = .ok (.return_, 1) := by decide +kernel
set_option maxRecDepth 20000 in
theorem ggX12_some_X12_every : GoodIn wsX12_some wsX12_every := goodIn_r _ [18, 1, 2, 19, 20, 21, 6, 7, 8, 9, 10, 11, 12, 13, 14, 15, 16, 17, 22, 23, 24, 25, 26, 27, 28, 29, 30, 31, 32, 33, 34, 35, 36, 37, 38, 39, 40, 41, 42, 43, 44, 45, 46, 47, 48, 49, 50, 51, 52, 53, 54, 55, 56, 57, 58, 59, 60, 61, 62, 63, 64, 65, 66, 67, 68, 69, 70, 71, 72, 73, 74, 75, 76, 77, 78, 79, 80, 81, 82, 83, 84, 85, 86, 87, 88, 89, 90, 0, 3, 4, 5, 91, 92, 93, 94, 95, 96, 97, 98, 99, 100, 101, 102, 103, 104, 105, 106, 107, 108, 109, 110, 111, 112, 113] (by decide +kernel) (by decide +kernel)
set_option maxRecDepth 20000 in
theorem gX12_some_X12_every : GoodIn wsX12_some (wsV RX12 112 RX12 yX12_every wsX12_every) := goodIn_app (goodIn_of _ (by decide +kernel)) ggX12_some_X12_every
set_option maxRecDepth 20000 in
theorem ggX12_some_X12_here : GoodIn wsX12_some wsX12_here := goodIn_r _ [10, 2, 11, 12, 91, 92, 93, 94, 95, 96, 97, 98, 99, 100, 101, 102, 103, 104, 105, 106, 107, 108, 109, 110, 111, 112, 113] (by decide +kernel) (by decide +kernel)
set_option maxRecDepth 20000 in
theorem gX12_some_X12_here : GoodIn wsX12_some (wsV RX12 69 RX12 yX12_here wsX12_here) := goodIn_app (goodIn_of _ (by decide +kernel)) ggX12_some_X12_here
set_option maxRecDepth 20000 in
theorem ggX12_some_X12_emits : GoodIn wsX12_some wsX12_emits := goodIn_r _ [16, 1, 12, 17, 91, 92, 93, 94, 95, 96, 97, 98, 99, 100, 101, 102, 103, 104, 105, 106, 107, 108, 109, 110, 111, 112, 113] (by decide +kernel) (by decide +kernel)
set_option maxRecDepth 20000 in
theorem gX12_some_X12_emits : GoodIn wsX12_some (wsV RX12 95 RX12 yX12_emits wsX12_emits) := goodIn_app (goodIn_of _ (by decide +kernel)) ggX12_some_X12_emits
theorem dX12_some_0 : decode cX12_some 0 = .ok (.aload_n 0, 1) := by decide +kernel
theorem dX12_some_1 : decode cX12_some 1 = .ok (.invokevirtual 112, 3) := by decide +kernel
theorem dX12_some_4 : decode cX12_some 4 = .ok (.aload_n 0, 1) := by decide +kernel
theorem dX12_some_5 : decode cX12_some 5 = .ok (.getfield 65, 3) := by decide +kernel
theorem dX12_some_8 : decode cX12_some 8 = .ok (.ifCond .ne 35, 3) := by decide +kernel
theorem dX12_some_11 : decode cX12_some 11 = .ok (.aload_n 0, 1) := by decide +kernel
theorem dX12_some_12 : decode cX12_some 12 = .ok (.invokevirtual 69, 3) := by decide +kernel
theorem dX12_some_15 : decode cX12_some 15 = .ok (.bipush 124, 2) := by decide +kernel
theorem dX12_some_17 : decode cX12_some 17 = .ok (.if_icmp .ne 26, 3) := by decide +kernel
theorem dX12_some_20 : decode cX12_some 20 = .ok (.aload_n 0, 1) := by decide +kernel
theorem dX12_some_21 : decode cX12_some 21 = .ok (.dup, 1) := by decide +kernel
theorem dX12_some_22 : decode cX12_some 22 = .ok (.getfield 59, 3) := by decide +kernel
theorem dX12_some_25 : decode cX12_some 25 = .ok (.iconst 1, 1) := by decide +kernel
theorem dX12_some_26 : decode cX12_some 26 = .ok (.iadd, 1) := by decide +kernel
theorem dX12_some_27 : decode cX12_some 27 = .ok (.putfield 59, 3) := by decide +kernel
theorem dX12_some_30 : decode cX12_some 30 = .ok (.aload_n 0, 1) := by decide +kernel
theorem dX12_some_31 : decode cX12_some 31 = .ok (.invokevirtual 112, 3) := by decide +kernel
theorem dX12_some_34 : decode cX12_some 34 = .ok (.aload_n 0, 1) := by decide +kernel
theorem dX12_some_35 : decode cX12_some 35 = .ok (.bipush (-3), 2) := by decide +kernel
theorem dX12_some_37 : decode cX12_some 37 = .ok (.invokevirtual 95, 3) := by decide +kernel
theorem dX12_some_40 : decode cX12_some 40 = .ok (.goto (-36), 3) := by decide +kernel
theorem dX12_some_43 : decode cX12_some 43 = .ok (.return_, 1) := by decide +kernel
set_option maxRecDepth 20000 in
theorem ggX12_much_X12_spells : GoodIn wsX12_much wsX12_spells := goodIn_r _ [5, 6, 7, 8, 9, 10, 11, 12, 13, 14, 15, 16, 17, 18, 19, 20, 21, 22, 23, 24, 25, 26, 27, 28, 29, 30, 31, 32, 33, 34, 35, 36, 37, 38, 39, 40, 41, 42, 43, 44, 45, 46, 47, 48, 49, 50, 51, 52, 53, 54, 55, 56, 57, 4, 58, 59, 60, 61, 62, 63, 64, 65, 66, 96, 97, 98, 99, 100, 101, 102, 103, 104, 105, 106, 107, 108, 109, 110, 111, 112, 113, 114, 115, 116, 117, 118] (by decide +kernel) (by decide +kernel)
set_option maxRecDepth 20000 in
theorem gX12_much_X12_spells : GoodIn wsX12_much (wsV RX12 115 RX12 yX12_spells wsX12_spells) := goodIn_app (goodIn_of _ (by decide +kernel)) ggX12_much_X12_spells
set_option maxRecDepth 20000 in
theorem ggX12_much_X12_figures : GoodIn wsX12_much wsX12_figures := goodIn_r _ [70, 59, 60, 61, 62, 63, 4, 64, 65, 66, 71, 72, 73, 96, 97, 98, 99, 100, 101, 102, 103, 104, 105, 106, 107, 108, 109, 110, 111, 112, 113, 114, 115, 116, 117, 118] (by decide +kernel) (by decide +kernel)
set_option maxRecDepth 20000 in
theorem gX12_much_X12_figures : GoodIn wsX12_much (wsV RX12 109 RX12 yX12_figures wsX12_figures) := goodIn_app (goodIn_of _ (by decide +kernel)) ggX12_much_X12_figures
set_option maxRecDepth 20000 in
theorem ggX12_much_X12_must : GoodIn wsX12_much wsX12_must := goodIn_r _ [58, 59, 60, 61, 62, 63, 4, 64, 65, 66, 96, 97, 98, 99, 100, 101, 102, 103, 104, 105, 106, 107, 108, 109, 110, 111, 112, 113, 114, 115, 116, 117, 118] (by decide +kernel) (by decide +kernel)
set_option maxRecDepth 20000 in
theorem gX12_much_X12_must : GoodIn wsX12_much (wsV RX12 82 RX12 yX12_must wsX12_must) := goodIn_app (goodIn_of _ (by decide +kernel)) ggX12_much_X12_must
set_option maxRecDepth 20000 in
theorem ggX12_much_X12_some : GoodIn wsX12_much wsX12_some := goodIn_r _ [77, 59, 60, 78, 79, 80, 4, 61, 62, 63, 64, 65, 66, 81, 82, 83, 84, 85, 86, 87, 88, 89, 90, 91, 74, 75, 76, 55, 56, 57, 58, 92, 93, 94, 95, 6, 7, 8, 9, 10, 11, 12, 13, 14, 15, 16, 17, 18, 19, 20, 21, 22, 23, 24, 25, 26, 27, 28, 29, 30, 31, 32, 33, 34, 35, 36, 37, 38, 39, 40, 41, 42, 43, 44, 45, 46, 47, 48, 49, 50, 51, 52, 53, 54, 67, 68, 69, 70, 71, 72, 73, 96, 97, 98, 99, 100, 101, 102, 103, 104, 105, 106, 107, 108, 109, 110, 111, 112, 113, 114, 115, 116, 117, 118] (by decide +kernel) (by decide +kernel)
set_option maxRecDepth 20000 in
theorem gX12_much_X12_some : GoodIn wsX12_much (wsV RX12 98 RX12 yX12_some wsX12_some) := goodIn_app (goodIn_of _ (by decide +kernel)) ggX12_much_X12_some
set_option maxRecDepth 20000 in
theorem ggX12_much_X12_emits : GoodIn wsX12_much wsX12_emits := goodIn_r _ [84, 59, 66, 85, 96, 97, 98, 99, 100, 101, 102, 103, 104, 105, 106, 107, 108, 109, 110, 111, 112, 113, 114, 115, 116, 117, 118] (by decide +kernel) (by decide +kernel)
set_option maxRecDepth 20000 in
theorem gX12_much_X12_emits : GoodIn wsX12_much (wsV RX12 95 RX12 yX12_emits wsX12_emits) := goodIn_app (goodIn_of _ (by decide +kernel)) ggX12_much_X12_emits
theorem dX12_much_0 : decode cX12_much 0 = .ok (.aload_n 0, 1) := by decide +kernel
theorem dX12_much_1 : decode cX12_much 1 = .ok (.aload_n 2, 1) := by decide +kernel
theorem dX12_much_2 : decode cX12_much 2 = .ok (.invokevirtual 115, 3) := by decide +kernel
theorem dX12_much_5 : decode cX12_much 5 = .ok (.aload_n 0, 1) := by decide +kernel
theorem dX12_much_6 : decode cX12_much 6 = .ok (.invokevirtual 109, 3) := by decide +kernel
theorem dX12_much_9 : decode cX12_much 9 = .ok (.istore_n 3, 1) := by decide +kernel
theorem dX12_much_10 : decode cX12_much 10 = .ok (.aload_n 0, 1) := by decide +kernel
theorem dX12_much_11 : decode cX12_much 11 = .ok (.bipush 32, 2) := by decide +kernel
theorem dX12_much_13 : decode cX12_much 13 = .ok (.invokevirtual 82, 3) := by decide +kernel
theorem dX12_much_16 : decode cX12_much 16 = .ok (.aload_n 0, 1) := by decide +kernel
theorem dX12_much_17 : decode cX12_much 17 = .ok (.invokevirtual 98, 3) := by decide +kernel
theorem dX12_much_20 : decode cX12_much 20 = .ok (.aload_n 0, 1) := by decide +kernel
theorem dX12_much_21 : decode cX12_much 21 = .ok (.iload_n 1, 1) := by decide +kernel
theorem dX12_much_22 : decode cX12_much 22 = .ok (.iload_n 3, 1) := by decide +kernel
theorem dX12_much_23 : decode cX12_much 23 = .ok (.isub, 1) := by decide +kernel
theorem dX12_much_24 : decode cX12_much 24 = .ok (.invokevirtual 95, 3) := by decide +kernel
theorem dX12_much_27 : decode cX12_much 27 = .ok (.return_, 1) := by decide +kernel
set_option maxRecDepth 20000 in
theorem ggX12_clauseOfS_X12_must : GoodIn wsX12_clauseOfS wsX12_must := goodIn_r _ [8, 1, 9, 10, 11, 12, 7, 13, 14, 2, 100, 101, 102, 103, 104, 105, 106, 107, 108, 109, 110, 111, 112, 113, 114, 115, 116, 117, 118, 119, 120, 121, 122] (by decide +kernel) (by decide +kernel)
set_option maxRecDepth 20000 in
theorem gX12_clauseOfS_X12_must : GoodIn wsX12_clauseOfS (wsV RX12 82 RX12 yX12_must wsX12_must) := goodIn_app (goodIn_of _ (by decide +kernel)) ggX12_clauseOfS_X12_must
set_option maxRecDepth 20000 in
theorem ggX12_clauseOfS_X12_here : GoodIn wsX12_clauseOfS wsX12_here := goodIn_r _ [13, 9, 14, 2, 100, 101, 102, 103, 104, 105, 106, 107, 108, 109, 110, 111, 112, 113, 114, 115, 116, 117, 118, 119, 120, 121, 122] (by decide +kernel) (by decide +kernel)
set_option maxRecDepth 20000 in
theorem gX12_clauseOfS_X12_here : GoodIn wsX12_clauseOfS (wsV RX12 69 RX12 yX12_here wsX12_here) := goodIn_app (goodIn_of _ (by decide +kernel)) ggX12_clauseOfS_X12_here
set_option maxRecDepth 20000 in
theorem ggX12_clauseOfS_X12_much : GoodIn wsX12_clauseOfS wsX12_much := goodIn_r _ [18, 19, 20, 21, 7, 22, 23, 24, 25, 26, 27, 28, 29, 30, 31, 32, 33, 34, 35, 36, 37, 38, 39, 40, 41, 42, 43, 44, 45, 46, 47, 48, 49, 50, 51, 52, 53, 54, 55, 56, 57, 58, 59, 60, 61, 62, 63, 64, 65, 66, 67, 68, 69, 70, 71, 4, 5, 6, 8, 1, 9, 10, 11, 12, 13, 14, 2, 72, 73, 74, 75, 76, 77, 78, 79, 80, 81, 82, 83, 84, 85, 86, 87, 88, 89, 3, 90, 91, 92, 93, 94, 95, 96, 97, 98, 99, 100, 101, 102, 103, 104, 105, 106, 107, 108, 109, 110, 111, 112, 113, 114, 115, 116, 117, 118, 119, 120, 121, 122] (by decide +kernel) (by decide +kernel)
set_option maxRecDepth 20000 in
theorem gX12_clauseOfS_X12_much : GoodIn wsX12_clauseOfS (wsV RX12 121 RX12 yX12_much wsX12_much) := goodIn_app (goodIn_of _ (by decide +kernel)) ggX12_clauseOfS_X12_much
set_option maxRecDepth 20000 in
theorem ggX12_clauseOfS_X12_spells : GoodIn wsX12_clauseOfS wsX12_spells := goodIn_r _ [22, 23, 24, 25, 26, 27, 28, 29, 30, 31, 32, 33, 34, 35, 36, 37, 38, 39, 40, 41, 42, 43, 44, 45, 46, 47, 48, 49, 50, 51, 52, 53, 54, 55, 56, 57, 58, 59, 60, 61, 62, 63, 64, 65, 66, 67, 68, 69, 70, 71, 4, 5, 6, 7, 8, 1, 9, 10, 11, 12, 13, 14, 2, 100, 101, 102, 103, 104, 105, 106, 107, 108, 109, 110, 111, 112, 113, 114, 115, 116, 117, 118, 119, 120, 121, 122] (by decide +kernel) (by decide +kernel)
set_option maxRecDepth 20000 in
theorem gX12_clauseOfS_X12_spells : GoodIn wsX12_clauseOfS (wsV RX12 115 RX12 yX12_spells wsX12_spells) := goodIn_app (goodIn_of _ (by decide +kernel)) ggX12_clauseOfS_X12_spells
set_option maxRecDepth 20000 in
theorem ggX12_clauseOfS_X12_figures : GoodIn wsX12_clauseOfS wsX12_figures := goodIn_r _ [75, 1, 9, 10, 11, 12, 7, 13, 14, 2, 76, 77, 78, 100, 101, 102, 103, 104, 105, 106, 107, 108, 109, 110, 111, 112, 113, 114, 115, 116, 117, 118, 119, 120, 121, 122] (by decide +kernel) (by decide +kernel)
set_option maxRecDepth 20000 in
theorem gX12_clauseOfS_X12_figures : GoodIn wsX12_clauseOfS (wsV RX12 109 RX12 yX12_figures wsX12_figures) := goodIn_app (goodIn_of _ (by decide +kernel)) ggX12_clauseOfS_X12_figures
theorem dX12_clauseOfS_0 : decode cX12_clauseOfS 0 = .ok (.aload_n 0, 1) := by decide +kernel
theorem dX12_clauseOfS_1 : decode cX12_clauseOfS 1 = .ok (.bipush 115, 2) := by decide +kernel
theorem dX12_clauseOfS_3 : decode cX12_clauseOfS 3 = .ok (.invokevirtual 82, 3) := by decide +kernel
theorem dX12_clauseOfS_6 : decode cX12_clauseOfS 6 = .ok (.aload_n 0, 1) := by decide +kernel
theorem dX12_clauseOfS_7 : decode cX12_clauseOfS 7 = .ok (.invokevirtual 69, 3) := by decide +kernel
theorem dX12_clauseOfS_10 : decode cX12_clauseOfS 10 = .ok (.bipush 101, 2) := by decide +kernel
theorem dX12_clauseOfS_12 : decode cX12_clauseOfS 12 = .ok (.if_icmp .ne 12, 3) := by decide +kernel
theorem dX12_clauseOfS_15 : decode cX12_clauseOfS 15 = .ok (.aload_n 0, 1) := by decide +kernel
theorem dX12_clauseOfS_16 : decode cX12_clauseOfS 16 = .ok (.bipush (-10), 2) := by decide +kernel
theorem dX12_clauseOfS_18 : decode cX12_clauseOfS 18 = .ok (.ldc 119, 2) := by decide +kernel
theorem dX12_clauseOfS_20 : decode cX12_clauseOfS 20 = .ok (.invokevirtual 121, 3) := by decide +kernel
theorem dX12_clauseOfS_23 : decode cX12_clauseOfS 23 = .ok (.return_, 1) := by decide +kernel
theorem dX12_clauseOfS_24 : decode cX12_clauseOfS 24 = .ok (.aload_n 0, 1) := by decide +kernel
theorem dX12_clauseOfS_25 : decode cX12_clauseOfS 25 = .ok (.ldc 125, 2) := by decide +kernel
theorem dX12_clauseOfS_27 : decode cX12_clauseOfS 27 = .ok (.invokevirtual 115, 3) := by decide +kernel
theorem dX12_clauseOfS_30 : decode cX12_clauseOfS 30 = .ok (.aload_n 0, 1) := by decide +kernel
theorem dX12_clauseOfS_31 : decode cX12_clauseOfS 31 = .ok (.invokevirtual 109, 3) := by decide +kernel
theorem dX12_clauseOfS_34 : decode cX12_clauseOfS 34 = .ok (.istore_n 1, 1) := by decide +kernel
theorem dX12_clauseOfS_35 : decode cX12_clauseOfS 35 = .ok (.aload_n 0, 1) := by decide +kernel
theorem dX12_clauseOfS_36 : decode cX12_clauseOfS 36 = .ok (.getfield 65, 3) := by decide +kernel
theorem dX12_clauseOfS_39 : decode cX12_clauseOfS 39 = .ok (.ifCond .ne 17, 3) := by decide +kernel
theorem dX12_clauseOfS_42 : decode cX12_clauseOfS 42 = .ok (.aload_n 0, 1) := by decide +kernel
theorem dX12_clauseOfS_43 : decode cX12_clauseOfS 43 = .ok (.getfield 9, 3) := by decide +kernel
theorem dX12_clauseOfS_46 : decode cX12_clauseOfS 46 = .ok (.sipush 191, 3) := by decide +kernel
theorem dX12_clauseOfS_49 : decode cX12_clauseOfS 49 = .ok (.aload_n 0, 1) := by decide +kernel
theorem dX12_clauseOfS_50 : decode cX12_clauseOfS 50 = .ok (.getfield 86, 3) := by decide +kernel
theorem dX12_clauseOfS_53 : decode cX12_clauseOfS 53 = .ok (.iadd, 1) := by decide +kernel
theorem dX12_clauseOfS_54 : decode cX12_clauseOfS 54 = .ok (.iload_n 1, 1) := by decide +kernel
theorem dX12_clauseOfS_55 : decode cX12_clauseOfS 55 = .ok (.iastore, 1) := by decide +kernel
theorem dX12_clauseOfS_56 : decode cX12_clauseOfS 56 = .ok (.return_, 1) := by decide +kernel
set_option maxRecDepth 20000 in
theorem ggX12_clauseHere_X12_here : GoodIn wsX12_clauseHere wsX12_here := goodIn_r _ [6, 7, 8, 9, 104, 105, 106, 107, 108, 109, 110, 111, 112, 113, 114, 115, 116, 117, 118, 119, 120, 121, 122, 123, 124, 125, 126] (by decide +kernel) (by decide +kernel)
set_option maxRecDepth 20000 in
theorem gX12_clauseHere_X12_here : GoodIn wsX12_clauseHere (wsV RX12 69 RX12 yX12_here wsX12_here) := goodIn_app (goodIn_of _ (by decide +kernel)) ggX12_clauseHere_X12_here
set_option maxRecDepth 20000 in
theorem ggX12_clauseHere_X12_clauseOfS : GoodIn wsX12_clauseHere wsX12_clauseOfS := goodIn_r _ [13, 1, 9, 14, 15, 16, 17, 5, 18, 7, 2, 3, 4, 6, 8, 19, 20, 21, 22, 23, 24, 25, 26, 27, 28, 29, 30, 31, 32, 33, 34, 35, 36, 37, 38, 39, 40, 41, 42, 43, 44, 45, 46, 47, 48, 49, 50, 51, 52, 53, 54, 55, 56, 57, 58, 59, 60, 61, 62, 63, 64, 65, 66, 67, 68, 69, 70, 71, 72, 73, 74, 75, 76, 77, 78, 79, 80, 81, 82, 83, 84, 85, 86, 87, 88, 89, 90, 91, 92, 93, 94, 95, 96, 97, 98, 99, 100, 101, 102, 103, 104, 105, 106, 107, 108, 109, 110, 111, 112, 113, 114, 115, 116, 117, 118, 119, 120, 121, 122, 123, 124, 125, 126] (by decide +kernel) (by decide +kernel)
set_option maxRecDepth 20000 in
theorem gX12_clauseHere_X12_clauseOfS : GoodIn wsX12_clauseHere (wsV RX12 127 RX12 yX12_clauseOfS wsX12_clauseOfS) := goodIn_app (goodIn_of _ (by decide +kernel)) ggX12_clauseHere_X12_clauseOfS
set_option maxRecDepth 20000 in
theorem ggX12_clauseHere_X12_much : GoodIn wsX12_clauseHere wsX12_much := goodIn_r _ [22, 23, 24, 25, 5, 26, 27, 28, 29, 30, 31, 32, 33, 34, 35, 36, 37, 38, 39, 40, 41, 42, 43, 44, 45, 46, 47, 48, 49, 50, 51, 52, 53, 54, 55, 56, 57, 58, 59, 60, 61, 62, 63, 64, 65, 66, 67, 68, 69, 70, 71, 72, 73, 74, 75, 15, 16, 17, 18, 1, 7, 2, 3, 4, 6, 8, 9, 76, 77, 78, 79, 80, 81, 82, 83, 84, 85, 86, 87, 88, 89, 90, 91, 92, 93, 14, 94, 95, 96, 97, 98, 99, 100, 101, 102, 103, 104, 105, 106, 107, 108, 109, 110, 111, 112, 113, 114, 115, 116, 117, 118, 119, 120, 121, 122, 123, 124, 125, 126] (by decide +kernel) (by decide +kernel)
set_option maxRecDepth 20000 in
theorem gX12_clauseHere_X12_much : GoodIn wsX12_clauseHere (wsV RX12 121 RX12 yX12_much wsX12_much) := goodIn_app (goodIn_of _ (by decide +kernel)) ggX12_clauseHere_X12_much
theorem dX12_clauseHere_0 : decode cX12_clauseHere 0 = .ok (.aload_n 0, 1) := by decide +kernel
theorem dX12_clauseHere_1 : decode cX12_clauseHere 1 = .ok (.invokevirtual 69, 3) := by decide +kernel
theorem dX12_clauseHere_4 : decode cX12_clauseHere 4 = .ok (.lookupswitch 67 #[(100, 55), (104, 43), (115, 36)], 36) := by decide +kernel
theorem dX12_clauseHere_40 : decode cX12_clauseHere 40 = .ok (.aload_n 0, 1) := by decide +kernel
theorem dX12_clauseHere_41 : decode cX12_clauseHere 41 = .ok (.invokevirtual 127, 3) := by decide +kernel
theorem dX12_clauseHere_44 : decode cX12_clauseHere 44 = .ok (.goto 32, 3) := by decide +kernel
theorem dX12_clauseHere_47 : decode cX12_clauseHere 47 = .ok (.aload_n 0, 1) := by decide +kernel
theorem dX12_clauseHere_48 : decode cX12_clauseHere 48 = .ok (.sipush (-200), 3) := by decide +kernel
theorem dX12_clauseHere_51 : decode cX12_clauseHere 51 = .ok (.ldc 130, 2) := by decide +kernel
theorem dX12_clauseHere_53 : decode cX12_clauseHere 53 = .ok (.invokevirtual 121, 3) := by decide +kernel
theorem dX12_clauseHere_56 : decode cX12_clauseHere 56 = .ok (.goto 20, 3) := by decide +kernel
theorem dX12_clauseHere_59 : decode cX12_clauseHere 59 = .ok (.aload_n 0, 1) := by decide +kernel
theorem dX12_clauseHere_60 : decode cX12_clauseHere 60 = .ok (.sipush (-400), 3) := by decide +kernel
theorem dX12_clauseHere_63 : decode cX12_clauseHere 63 = .ok (.ldc 132, 2) := by decide +kernel
theorem dX12_clauseHere_65 : decode cX12_clauseHere 65 = .ok (.invokevirtual 121, 3) := by decide +kernel
theorem dX12_clauseHere_68 : decode cX12_clauseHere 68 = .ok (.goto 8, 3) := by decide +kernel
theorem dX12_clauseHere_71 : decode cX12_clauseHere 71 = .ok (.aload_n 0, 1) := by decide +kernel
theorem dX12_clauseHere_72 : decode cX12_clauseHere 72 = .ok (.iconst 1, 1) := by decide +kernel
theorem dX12_clauseHere_73 : decode cX12_clauseHere 73 = .ok (.putfield 65, 3) := by decide +kernel
theorem dX12_clauseHere_76 : decode cX12_clauseHere 76 = .ok (.return_, 1) := by decide +kernel
set_option maxRecDepth 20000 in
theorem ggX12_hill_X12_clauseHere : GoodIn wsX12_hill wsX12_clauseHere := goodIn_r _ [11, 5, 12, 13, 14, 10, 15, 4, 3, 1, 16, 17, 18, 19, 2, 20, 21, 22, 23, 24, 25, 26, 27, 28, 29, 30, 31, 32, 33, 34, 35, 36, 37, 38, 39, 40, 41, 42, 43, 44, 45, 46, 47, 48, 49, 50, 51, 52, 53, 54, 55, 56, 57, 58, 59, 60, 61, 62, 63, 64, 65, 66, 67, 68, 69, 70, 71, 72, 73, 74, 75, 76, 77, 78, 79, 80, 81, 82, 83, 84, 85, 86, 87, 88, 89, 90, 91, 92, 93, 94, 95, 96, 97, 98, 99, 100, 101, 102, 103, 6, 104, 105, 106, 107, 108, 109, 110, 111, 112, 113, 114, 115, 116, 117, 118, 119, 120, 121, 122, 123, 124, 125, 126, 127, 128, 129, 130] (by decide +kernel) (by decide +kernel)
