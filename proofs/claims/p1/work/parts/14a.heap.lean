theorem dX11_heapOfKind_0 : decode cX11_heapOfKind 0 = .ok (.iload_n 0, 1) := by decide +kernel
theorem dX11_heapOfKind_1 : decode cX11_heapOfKind 1 = .ok (.tableswitch 111 1 6 #[39, 51, 63, 75, 87, 99], 39) := by decide +kernel
theorem dX11_heapOfKind_112 : decode cX11_heapOfKind 112 = .ok (.new 117, 3) := by decide +kernel
theorem dX11_heapOfKind_115 : decode cX11_heapOfKind 115 = .ok (.dup, 1) := by decide +kernel
theorem dX11_heapOfKind_116 : decode cX11_heapOfKind 116 = .ok (.iload_n 0, 1) := by decide +kernel
theorem dX11_heapOfKind_117 : decode cX11_heapOfKind 117 = .ok (.iload_n 1, 1) := by decide +kernel
theorem dX11_heapOfKind_118 : decode cX11_heapOfKind 118 = .ok (.iload_n 2, 1) := by decide +kernel
theorem dX11_heapOfKind_119 : decode cX11_heapOfKind 119 = .ok (.iload_n 3, 1) := by decide +kernel
set_option maxRecDepth 20000 in
theorem ggX11_heapOfKind_X3_init : GoodIn wsX11_heapOfKind wsX3_init := goodIn_r _ [27, 28, 29, 30, 31, 32, 33, 34, 64, 65, 66, 67, 80, 81, 82, 83, 56, 57, 58, 59, 60, 61, 62, 63, 76, 77, 78, 79, 72, 73, 74, 75, 68, 69, 70, 71] (by decide +kernel) (by decide +kernel)
theorem dX11_heapOfKind_120 : decode cX11_heapOfKind 120 = .ok (.invokespecial 296, 3) := by decide +kernel
theorem dX11_heapOfKind_123 : decode cX11_heapOfKind 123 = .ok (.areturn, 1) := by decide +kernel
theorem dX11_heapOfKind_40 : decode cX11_heapOfKind 40 = .ok (.new 276, 3) := by decide +kernel
theorem dX11_heapOfKind_43 : decode cX11_heapOfKind 43 = .ok (.dup, 1) := by decide +kernel
theorem dX11_heapOfKind_44 : decode cX11_heapOfKind 44 = .ok (.iload_n 0, 1) := by decide +kernel
theorem dX11_heapOfKind_45 : decode cX11_heapOfKind 45 = .ok (.iload_n 1, 1) := by decide +kernel
theorem dX11_heapOfKind_46 : decode cX11_heapOfKind 46 = .ok (.iload_n 2, 1) := by decide +kernel
theorem dX11_heapOfKind_47 : decode cX11_heapOfKind 47 = .ok (.iload_n 3, 1) := by decide +kernel
set_option maxRecDepth 20000 in
theorem ggX11_heapOfKind_X4_init : GoodIn wsX11_heapOfKind wsX4_init := goodIn_r _ [24, 25, 26, 21, 27, 28, 29, 30, 31, 32, 33, 34, 64, 65, 66, 67, 80, 81, 82, 83, 56, 57, 58, 59, 60, 61, 62, 63, 76, 77, 78, 79, 72, 73, 74, 75, 68, 69, 70, 71] (by decide +kernel) (by decide +kernel)
theorem dX11_heapOfKind_48 : decode cX11_heapOfKind 48 = .ok (.invokespecial 278, 3) := by decide +kernel
theorem dX11_heapOfKind_51 : decode cX11_heapOfKind 51 = .ok (.areturn, 1) := by decide +kernel
theorem dX11_heapOfKind_52 : decode cX11_heapOfKind 52 = .ok (.new 281, 3) := by decide +kernel
theorem dX11_heapOfKind_55 : decode cX11_heapOfKind 55 = .ok (.dup, 1) := by decide +kernel
theorem dX11_heapOfKind_56 : decode cX11_heapOfKind 56 = .ok (.iload_n 0, 1) := by decide +kernel
theorem dX11_heapOfKind_57 : decode cX11_heapOfKind 57 = .ok (.iload_n 1, 1) := by decide +kernel
theorem dX11_heapOfKind_58 : decode cX11_heapOfKind 58 = .ok (.iload_n 2, 1) := by decide +kernel
theorem dX11_heapOfKind_59 : decode cX11_heapOfKind 59 = .ok (.iload_n 3, 1) := by decide +kernel
set_option maxRecDepth 20000 in
theorem ggX11_heapOfKind_X6_init : GoodIn wsX11_heapOfKind wsX6_init := goodIn_r _ [37, 38, 26, 21, 27, 28, 29, 30, 31, 32, 33, 34, 64, 65, 66, 67, 80, 81, 82, 83, 56, 57, 58, 59, 60, 61, 62, 63, 76, 77, 78, 79, 72, 73, 74, 75, 68, 69, 70, 71] (by decide +kernel) (by decide +kernel)
theorem dX11_heapOfKind_60 : decode cX11_heapOfKind 60 = .ok (.invokespecial 283, 3) := by decide +kernel
theorem dX11_heapOfKind_63 : decode cX11_heapOfKind 63 = .ok (.areturn, 1) := by decide +kernel
theorem dX11_heapOfKind_64 : decode cX11_heapOfKind 64 = .ok (.new 284, 3) := by decide +kernel
theorem dX11_heapOfKind_67 : decode cX11_heapOfKind 67 = .ok (.dup, 1) := by decide +kernel
theorem dX11_heapOfKind_68 : decode cX11_heapOfKind 68 = .ok (.iload_n 0, 1) := by decide +kernel
theorem dX11_heapOfKind_69 : decode cX11_heapOfKind 69 = .ok (.iload_n 1, 1) := by decide +kernel
theorem dX11_heapOfKind_70 : decode cX11_heapOfKind 70 = .ok (.iload_n 2, 1) := by decide +kernel
theorem dX11_heapOfKind_71 : decode cX11_heapOfKind 71 = .ok (.iload_n 3, 1) := by decide +kernel
set_option maxRecDepth 20000 in
theorem ggX11_heapOfKind_X1_init : GoodIn wsX11_heapOfKind wsX1_init := goodIn_r _ [41, 42, 26, 21, 27, 28, 29, 30, 31, 32, 33, 34, 64, 65, 66, 67, 80, 81, 82, 83, 56, 57, 58, 59, 60, 61, 62, 63, 76, 77, 78, 79, 72, 73, 74, 75, 68, 69, 70, 71] (by decide +kernel) (by decide +kernel)
theorem dX11_heapOfKind_72 : decode cX11_heapOfKind 72 = .ok (.invokespecial 286, 3) := by decide +kernel
theorem dX11_heapOfKind_75 : decode cX11_heapOfKind 75 = .ok (.areturn, 1) := by decide +kernel
theorem dX11_heapOfKind_76 : decode cX11_heapOfKind 76 = .ok (.new 287, 3) := by decide +kernel
theorem dX11_heapOfKind_79 : decode cX11_heapOfKind 79 = .ok (.dup, 1) := by decide +kernel
theorem dX11_heapOfKind_80 : decode cX11_heapOfKind 80 = .ok (.iload_n 0, 1) := by decide +kernel
theorem dX11_heapOfKind_81 : decode cX11_heapOfKind 81 = .ok (.iload_n 1, 1) := by decide +kernel
theorem dX11_heapOfKind_82 : decode cX11_heapOfKind 82 = .ok (.iload_n 2, 1) := by decide +kernel
theorem dX11_heapOfKind_83 : decode cX11_heapOfKind 83 = .ok (.iload_n 3, 1) := by decide +kernel
set_option maxRecDepth 20000 in
theorem ggX11_heapOfKind_X10_init : GoodIn wsX11_heapOfKind wsX10_init := goodIn_r _ [45, 46, 23, 3, 24, 25, 26, 21, 27, 28, 29, 30, 31, 32, 33, 34, 64, 65, 66, 67, 80, 81, 82, 83, 56, 57, 58, 59, 60, 61, 62, 63, 76, 77, 78, 79, 72, 73, 74, 75, 68, 69, 70, 71] (by decide +kernel) (by decide +kernel)
theorem dX11_heapOfKind_84 : decode cX11_heapOfKind 84 = .ok (.invokespecial 289, 3) := by decide +kernel
theorem dX11_heapOfKind_87 : decode cX11_heapOfKind 87 = .ok (.areturn, 1) := by decide +kernel
theorem dX11_heapOfKind_88 : decode cX11_heapOfKind 88 = .ok (.new 290, 3) := by decide +kernel
theorem dX11_heapOfKind_91 : decode cX11_heapOfKind 91 = .ok (.dup, 1) := by decide +kernel
theorem dX11_heapOfKind_92 : decode cX11_heapOfKind 92 = .ok (.iload_n 0, 1) := by decide +kernel
theorem dX11_heapOfKind_93 : decode cX11_heapOfKind 93 = .ok (.iload_n 1, 1) := by decide +kernel
theorem dX11_heapOfKind_94 : decode cX11_heapOfKind 94 = .ok (.iload_n 2, 1) := by decide +kernel
theorem dX11_heapOfKind_95 : decode cX11_heapOfKind 95 = .ok (.iload_n 3, 1) := by decide +kernel
set_option maxRecDepth 20000 in
theorem ggX11_heapOfKind_X9_init : GoodIn wsX11_heapOfKind wsX9_init := goodIn_r _ [49, 50, 36, 6, 37, 38, 26, 21, 27, 28, 29, 30, 31, 32, 33, 34, 64, 65, 66, 67, 80, 81, 82, 83, 56, 57, 58, 59, 60, 61, 62, 63, 76, 77, 78, 79, 72, 73, 74, 75, 68, 69, 70, 71] (by decide +kernel) (by decide +kernel)
theorem dX11_heapOfKind_96 : decode cX11_heapOfKind 96 = .ok (.invokespecial 292, 3) := by decide +kernel
theorem dX11_heapOfKind_99 : decode cX11_heapOfKind 99 = .ok (.areturn, 1) := by decide +kernel
theorem dX11_heapOfKind_100 : decode cX11_heapOfKind 100 = .ok (.new 293, 3) := by decide +kernel
theorem dX11_heapOfKind_103 : decode cX11_heapOfKind 103 = .ok (.dup, 1) := by decide +kernel
theorem dX11_heapOfKind_104 : decode cX11_heapOfKind 104 = .ok (.iload_n 0, 1) := by decide +kernel
theorem dX11_heapOfKind_105 : decode cX11_heapOfKind 105 = .ok (.iload_n 1, 1) := by decide +kernel
theorem dX11_heapOfKind_106 : decode cX11_heapOfKind 106 = .ok (.iload_n 2, 1) := by decide +kernel
theorem dX11_heapOfKind_107 : decode cX11_heapOfKind 107 = .ok (.iload_n 3, 1) := by decide +kernel
set_option maxRecDepth 20000 in
theorem ggX11_heapOfKind_X7_init : GoodIn wsX11_heapOfKind wsX7_init := goodIn_r _ [53, 54, 40, 9, 41, 42, 26, 21, 27, 28, 29, 30, 31, 32, 33, 34, 64, 65, 66, 67, 80, 81, 82, 83, 56, 57, 58, 59, 60, 61, 62, 63, 76, 77, 78, 79, 72, 73, 74, 75, 68, 69, 70, 71] (by decide +kernel) (by decide +kernel)
theorem dX11_heapOfKind_108 : decode cX11_heapOfKind 108 = .ok (.invokespecial 295, 3) := by decide +kernel
theorem dX11_heapOfKind_111 : decode cX11_heapOfKind 111 = .ok (.areturn, 1) := by decide +kernel
theorem dX8_isTaken_0 : decode cX8_isTaken 0 = .ok (.iconst 0, 1) := by decide +kernel
theorem dX8_isTaken_1 : decode cX8_isTaken 1 = .ok (.istore_n 2, 1) := by decide +kernel
theorem dX8_isTaken_2 : decode cX8_isTaken 2 = .ok (.iload_n 2, 1) := by decide +kernel
theorem dX8_isTaken_3 : decode cX8_isTaken 3 = .ok (.aload_n 0, 1) := by decide +kernel
theorem dX8_isTaken_4 : decode cX8_isTaken 4 = .ok (.getfield 60, 3) := by decide +kernel
theorem dX8_isTaken_7 : decode cX8_isTaken 7 = .ok (.if_icmp .ge 24, 3) := by decide +kernel
theorem dX8_isTaken_31 : decode cX8_isTaken 31 = .ok (.iconst 0, 1) := by decide +kernel
theorem dX8_isTaken_32 : decode cX8_isTaken 32 = .ok (.ireturn, 1) := by decide +kernel
theorem dX11_heap_0 : decode cX11_heap 0 = .ok (.iload_n 1, 1) := by decide +kernel
theorem dX11_heap_1 : decode cX11_heap 1 = .ok (.ifCond .lt 16, 3) := by decide +kernel
theorem dX11_heap_17 : decode cX11_heap 17 = .ok (.iconst (-1), 1) := by decide +kernel
theorem dX11_heap_18 : decode cX11_heap 18 = .ok (.ireturn, 1) := by decide +kernel
theorem dX11_heap_4 : decode cX11_heap 4 = .ok (.iload_n 1, 1) := by decide +kernel
theorem dX11_heap_5 : decode cX11_heap 5 = .ok (.bipush 7, 2) := by decide +kernel
theorem dX11_heap_7 : decode cX11_heap 7 = .ok (.if_icmp .ge 10, 3) := by decide +kernel
theorem dX11_heap_10 : decode cX11_heap 10 = .ok (.iload_n 3, 1) := by decide +kernel
set_option maxRecDepth 20000 in
theorem ggX11_heap_X11_isCell : GoodIn wsX11_heap wsX11_isCell := goodIn_r _ [7] (by decide +kernel) (by decide +kernel)
set_option maxRecDepth 20000 in
theorem gX11_heap_X11_isCell : GoodIn wsX11_heap (va_wsS RX11 94 yX11_isCell wsX11_isCell) := goodIn_app (goodIn_of _ (by decide +kernel)) ggX11_heap_X11_isCell
theorem dX11_heap_11 : decode cX11_heap 11 = .ok (.invokestatic 94, 3) := by decide +kernel
theorem dX11_heap_14 : decode cX11_heap 14 = .ok (.ifCond .ne 5, 3) := by decide +kernel
theorem dX11_heap_19 : decode cX11_heap 19 = .ok (.iload_n 2, 1) := by decide +kernel
theorem dX11_heap_20 : decode cX11_heap 20 = .ok (.ifCond .lt 9, 3) := by decide +kernel
theorem dX11_heap_29 : decode cX11_heap 29 = .ok (.bipush (-2), 2) := by decide +kernel
theorem dX11_heap_31 : decode cX11_heap 31 = .ok (.ireturn, 1) := by decide +kernel
theorem dX11_heap_23 : decode cX11_heap 23 = .ok (.iload_n 2, 1) := by decide +kernel
theorem dX11_heap_24 : decode cX11_heap 24 = .ok (.bipush 9, 2) := by decide +kernel
theorem dX11_heap_26 : decode cX11_heap 26 = .ok (.if_icmp .le 6, 3) := by decide +kernel
theorem dX11_heap_32 : decode cX11_heap 32 = .ok (.aload_n 0, 1) := by decide +kernel
theorem dX11_heap_33 : decode cX11_heap 33 = .ok (.getfield 14, 3) := by decide +kernel
theorem dX11_heap_36 : decode cX11_heap 36 = .ok (.iload_n 3, 1) := by decide +kernel
set_option maxRecDepth 20000 in
theorem ggX11_heap_X8_isTaken : GoodIn wsX11_heap wsX8_isTaken := goodIn_r _ [12, 13, 14, 15, 81, 82, 83, 84, 85, 86, 87, 88, 89, 90, 91, 92, 93, 94, 95, 96, 97, 98, 99, 100, 101, 102, 103, 104, 105, 106, 107, 108, 109, 110, 111, 112, 113, 114, 115, 116, 117, 118, 119, 120, 121, 122] (by decide +kernel) (by decide +kernel)
set_option maxRecDepth 20000 in
theorem gX11_heap_X8_isTaken : GoodIn wsX11_heap (wsV RX11 98 RX8 yX8_isTaken wsX8_isTaken) := goodIn_app (goodIn_of _ (by decide +kernel)) ggX11_heap_X8_isTaken
theorem dX11_heap_37 : decode cX11_heap 37 = .ok (.invokevirtual 98, 3) := by decide +kernel
theorem dX11_heap_40 : decode cX11_heap 40 = .ok (.ifCond .eq 6, 3) := by decide +kernel
theorem dX11_heap_46 : decode cX11_heap 46 = .ok (.aload_n 0, 1) := by decide +kernel
theorem dX11_heap_47 : decode cX11_heap 47 = .ok (.getfield 14, 3) := by decide +kernel
theorem dX11_heap_50 : decode cX11_heap 50 = .ok (.getfield 101, 3) := by decide +kernel
theorem dX11_heap_53 : decode cX11_heap 53 = .ok (.bipush 8, 2) := by decide +kernel
theorem dX11_heap_55 : decode cX11_heap 55 = .ok (.if_icmp .lt 6, 3) := by decide +kernel
theorem dX11_heap_61 : decode cX11_heap 61 = .ok (.aload_n 0, 1) := by decide +kernel
theorem dX11_heap_62 : decode cX11_heap 62 = .ok (.getfield 14, 3) := by decide +kernel
theorem dX11_heap_65 : decode cX11_heap 65 = .ok (.getfield 104, 3) := by decide +kernel
theorem dX11_heap_68 : decode cX11_heap 68 = .ok (.aload_n 0, 1) := by decide +kernel
theorem dX11_heap_69 : decode cX11_heap 69 = .ok (.getfield 14, 3) := by decide +kernel
theorem dX11_heap_72 : decode cX11_heap 72 = .ok (.getfield 101, 3) := by decide +kernel
theorem dX11_heap_75 : decode cX11_heap 75 = .ok (.iload_n 1, 1) := by decide +kernel
theorem dX11_heap_76 : decode cX11_heap 76 = .ok (.aload_n 0, 1) := by decide +kernel
theorem dX11_heap_77 : decode cX11_heap 77 = .ok (.getfield 14, 3) := by decide +kernel
theorem dX11_heap_80 : decode cX11_heap 80 = .ok (.getfield 101, 3) := by decide +kernel
theorem dX11_heap_83 : decode cX11_heap 83 = .ok (.iload_n 2, 1) := by decide +kernel
theorem dX11_heap_84 : decode cX11_heap 84 = .ok (.iload_n 3, 1) := by decide +kernel
set_option maxRecDepth 20000 in
theorem ggX11_heap_X11_heapOfKind : GoodIn wsX11_heap wsX11_heapOfKind := goodIn_r _ [18, 19, 20, 21, 22, 23, 24, 25, 26, 27, 28, 29, 30, 31, 32, 33, 34, 35, 36, 37, 38, 39, 40, 41, 42, 43, 44, 45, 46, 47, 48, 49, 50, 51, 52, 53, 54, 55, 56, 57, 58, 59, 60, 61, 62, 63, 64, 65, 66, 67, 68, 69, 70, 71, 72, 73, 103, 104, 105, 106, 107, 108, 109, 110, 95, 96, 97, 98, 119, 120, 121, 122, 115, 116, 117, 118, 111, 112, 113, 114, 99, 100, 101, 102] (by decide +kernel) (by decide +kernel)
set_option maxRecDepth 20000 in
theorem gX11_heap_X11_heapOfKind : GoodIn wsX11_heap (va_wsS RX11 108 yX11_heapOfKind wsX11_heapOfKind) := goodIn_app (goodIn_of _ (by decide +kernel)) ggX11_heap_X11_heapOfKind
theorem dX11_heap_85 : decode cX11_heap 85 = .ok (.invokestatic 108, 3) := by decide +kernel
theorem dX11_heap_88 : decode cX11_heap 88 = .ok (.aastore, 1) := by decide +kernel
theorem dX11_heap_89 : decode cX11_heap 89 = .ok (.aload_n 0, 1) := by decide +kernel
theorem dX11_heap_90 : decode cX11_heap 90 = .ok (.getfield 14, 3) := by decide +kernel
theorem dX11_heap_93 : decode cX11_heap 93 = .ok (.dup, 1) := by decide +kernel
theorem dX11_heap_94 : decode cX11_heap 94 = .ok (.getfield 101, 3) := by decide +kernel
theorem dX11_heap_97 : decode cX11_heap 97 = .ok (.iconst 1, 1) := by decide +kernel
theorem dX11_heap_98 : decode cX11_heap 98 = .ok (.iadd, 1) := by decide +kernel
theorem dX11_heap_99 : decode cX11_heap 99 = .ok (.putfield 101, 3) := by decide +kernel
theorem dX11_heap_102 : decode cX11_heap 102 = .ok (.aload_n 0, 1) := by decide +kernel
theorem dX11_heap_103 : decode cX11_heap 103 = .ok (.getfield 14, 3) := by decide +kernel
theorem dX11_heap_106 : decode cX11_heap 106 = .ok (.getfield 101, 3) := by decide +kernel
theorem dX11_heap_109 : decode cX11_heap 109 = .ok (.iconst 1, 1) := by decide +kernel
theorem dX11_heap_110 : decode cX11_heap 110 = .ok (.isub, 1) := by decide +kernel
theorem dX11_heap_111 : decode cX11_heap 111 = .ok (.ireturn, 1) := by decide +kernel
theorem dX8_copyFrom_0 : decode cX8_copyFrom 0 = .ok (.aload_n 1, 1) := by decide +kernel
theorem dX8_copyFrom_1 : decode cX8_copyFrom 1 = .ok (.getfield 9, 3) := by decide +kernel
theorem dX8_copyFrom_4 : decode cX8_copyFrom 4 = .ok (.iconst 0, 1) := by decide +kernel
theorem dX8_copyFrom_5 : decode cX8_copyFrom 5 = .ok (.aload_n 0, 1) := by decide +kernel
theorem dX8_copyFrom_6 : decode cX8_copyFrom 6 = .ok (.getfield 9, 3) := by decide +kernel
theorem dX8_copyFrom_9 : decode cX8_copyFrom 9 = .ok (.iconst 0, 1) := by decide +kernel
theorem dX8_copyFrom_10 : decode cX8_copyFrom 10 = .ok (.bipush 100, 2) := by decide +kernel
theorem dX8_copyFrom_12 : decode cX8_copyFrom 12 = .ok (.invokestatic 37, 3) := by decide +kernel
theorem dX8_copyFrom_15 : decode cX8_copyFrom 15 = .ok (.aload_n 0, 1) := by decide +kernel
theorem dX8_copyFrom_16 : decode cX8_copyFrom 16 = .ok (.aload_n 1, 1) := by decide +kernel
theorem dX8_copyFrom_17 : decode cX8_copyFrom 17 = .ok (.getfield 43, 3) := by decide +kernel
theorem dX8_copyFrom_20 : decode cX8_copyFrom 20 = .ok (.putfield 43, 3) := by decide +kernel
theorem dX8_copyFrom_23 : decode cX8_copyFrom 23 = .ok (.aload_n 0, 1) := by decide +kernel
theorem dX8_copyFrom_24 : decode cX8_copyFrom 24 = .ok (.aload_n 1, 1) := by decide +kernel
theorem dX8_copyFrom_25 : decode cX8_copyFrom 25 = .ok (.getfield 18, 3) := by decide +kernel
theorem dX8_copyFrom_28 : decode cX8_copyFrom 28 = .ok (.putfield 18, 3) := by decide +kernel
theorem dX8_copyFrom_31 : decode cX8_copyFrom 31 = .ok (.aload_n 0, 1) := by decide +kernel
theorem dX8_copyFrom_32 : decode cX8_copyFrom 32 = .ok (.aload_n 1, 1) := by decide +kernel
theorem dX8_copyFrom_33 : decode cX8_copyFrom 33 = .ok (.getfield 47, 3) := by decide +kernel
theorem dX8_copyFrom_36 : decode cX8_copyFrom 36 = .ok (.putfield 47, 3) := by decide +kernel
theorem dX8_copyFrom_39 : decode cX8_copyFrom 39 = .ok (.aload_n 0, 1) := by decide +kernel
theorem dX8_copyFrom_40 : decode cX8_copyFrom 40 = .ok (.aload_n 1, 1) := by decide +kernel
theorem dX8_copyFrom_41 : decode cX8_copyFrom 41 = .ok (.getfield 50, 3) := by decide +kernel
theorem dX8_copyFrom_44 : decode cX8_copyFrom 44 = .ok (.putfield 50, 3) := by decide +kernel
theorem dX8_copyFrom_47 : decode cX8_copyFrom 47 = .ok (.aload_n 0, 1) := by decide +kernel
theorem dX8_copyFrom_48 : decode cX8_copyFrom 48 = .ok (.aload_n 1, 1) := by decide +kernel
theorem dX8_copyFrom_49 : decode cX8_copyFrom 49 = .ok (.getfield 54, 3) := by decide +kernel
theorem dX8_copyFrom_52 : decode cX8_copyFrom 52 = .ok (.putfield 54, 3) := by decide +kernel
theorem dX8_copyFrom_55 : decode cX8_copyFrom 55 = .ok (.aload_n 0, 1) := by decide +kernel
theorem dX8_copyFrom_56 : decode cX8_copyFrom 56 = .ok (.aload_n 1, 1) := by decide +kernel
theorem dX8_copyFrom_57 : decode cX8_copyFrom 57 = .ok (.getfield 57, 3) := by decide +kernel
theorem dX8_copyFrom_60 : decode cX8_copyFrom 60 = .ok (.putfield 57, 3) := by decide +kernel
theorem dX8_copyFrom_63 : decode cX8_copyFrom 63 = .ok (.iconst 0, 1) := by decide +kernel
theorem dX8_copyFrom_64 : decode cX8_copyFrom 64 = .ok (.istore_n 2, 1) := by decide +kernel
theorem dX8_copyFrom_65 : decode cX8_copyFrom 65 = .ok (.iload_n 2, 1) := by decide +kernel
theorem dX8_copyFrom_66 : decode cX8_copyFrom 66 = .ok (.bipush 8, 2) := by decide +kernel
theorem dX8_copyFrom_68 : decode cX8_copyFrom 68 = .ok (.if_icmp .ge 21, 3) := by decide +kernel
theorem dX8_copyFrom_89 : decode cX8_copyFrom 89 = .ok (.aload_n 0, 1) := by decide +kernel
theorem dX8_copyFrom_90 : decode cX8_copyFrom 90 = .ok (.aload_n 1, 1) := by decide +kernel
theorem dX8_copyFrom_91 : decode cX8_copyFrom 91 = .ok (.getfield 60, 3) := by decide +kernel
theorem dX8_copyFrom_94 : decode cX8_copyFrom 94 = .ok (.putfield 60, 3) := by decide +kernel
theorem dX8_copyFrom_97 : decode cX8_copyFrom 97 = .ok (.aload_n 1, 1) := by decide +kernel
theorem dX8_copyFrom_98 : decode cX8_copyFrom 98 = .ok (.getfield 28, 3) := by decide +kernel
theorem dX8_copyFrom_101 : decode cX8_copyFrom 101 = .ok (.iconst 0, 1) := by decide +kernel
theorem dX8_copyFrom_102 : decode cX8_copyFrom 102 = .ok (.aload_n 0, 1) := by decide +kernel
theorem dX8_copyFrom_103 : decode cX8_copyFrom 103 = .ok (.getfield 28, 3) := by decide +kernel
theorem dX8_copyFrom_106 : decode cX8_copyFrom 106 = .ok (.iconst 0, 1) := by decide +kernel
theorem dX8_copyFrom_107 : decode cX8_copyFrom 107 = .ok (.bipush 6, 2) := by decide +kernel
theorem dX8_copyFrom_109 : decode cX8_copyFrom 109 = .ok (.invokestatic 37, 3) := by decide +kernel
theorem dX8_copyFrom_112 : decode cX8_copyFrom 112 = .ok (.aload_n 0, 1) := by decide +kernel
theorem dX8_copyFrom_113 : decode cX8_copyFrom 113 = .ok (.aload_n 1, 1) := by decide +kernel
theorem dX8_copyFrom_114 : decode cX8_copyFrom 114 = .ok (.getfield 63, 3) := by decide +kernel
theorem dX8_copyFrom_117 : decode cX8_copyFrom 117 = .ok (.putfield 63, 3) := by decide +kernel
theorem dX8_copyFrom_120 : decode cX8_copyFrom 120 = .ok (.aload_n 1, 1) := by decide +kernel
theorem dX8_copyFrom_121 : decode cX8_copyFrom 121 = .ok (.getfield 31, 3) := by decide +kernel
theorem dX8_copyFrom_124 : decode cX8_copyFrom 124 = .ok (.iconst 0, 1) := by decide +kernel
theorem dX8_copyFrom_125 : decode cX8_copyFrom 125 = .ok (.aload_n 0, 1) := by decide +kernel
theorem dX8_copyFrom_126 : decode cX8_copyFrom 126 = .ok (.getfield 31, 3) := by decide +kernel
theorem dX8_copyFrom_129 : decode cX8_copyFrom 129 = .ok (.iconst 0, 1) := by decide +kernel
theorem dX8_copyFrom_130 : decode cX8_copyFrom 130 = .ok (.bipush 12, 2) := by decide +kernel
theorem dX8_copyFrom_132 : decode cX8_copyFrom 132 = .ok (.invokestatic 37, 3) := by decide +kernel
theorem dX8_copyFrom_135 : decode cX8_copyFrom 135 = .ok (.aload_n 0, 1) := by decide +kernel
theorem dX8_copyFrom_136 : decode cX8_copyFrom 136 = .ok (.aload_n 1, 1) := by decide +kernel
theorem dX8_copyFrom_137 : decode cX8_copyFrom 137 = .ok (.getfield 66, 3) := by decide +kernel
theorem dX8_copyFrom_140 : decode cX8_copyFrom 140 = .ok (.putfield 66, 3) := by decide +kernel
theorem dX8_copyFrom_143 : decode cX8_copyFrom 143 = .ok (.return_, 1) := by decide +kernel
theorem dX8_copyFrom_71 : decode cX8_copyFrom 71 = .ok (.aload_n 0, 1) := by decide +kernel
theorem dX8_copyFrom_72 : decode cX8_copyFrom 72 = .ok (.getfield 24, 3) := by decide +kernel
theorem dX8_copyFrom_75 : decode cX8_copyFrom 75 = .ok (.iload_n 2, 1) := by decide +kernel
theorem dX8_copyFrom_76 : decode cX8_copyFrom 76 = .ok (.aload_n 1, 1) := by decide +kernel
theorem dX8_copyFrom_77 : decode cX8_copyFrom 77 = .ok (.getfield 24, 3) := by decide +kernel
theorem dX8_copyFrom_80 : decode cX8_copyFrom 80 = .ok (.iload_n 2, 1) := by decide +kernel
theorem dX8_copyFrom_81 : decode cX8_copyFrom 81 = .ok (.aaload, 1) := by decide +kernel
theorem dX8_copyFrom_82 : decode cX8_copyFrom 82 = .ok (.aastore, 1) := by decide +kernel
theorem dX8_copyFrom_83 : decode cX8_copyFrom 83 = .ok (.iinc 2 1, 3) := by decide +kernel
theorem dX8_copyFrom_86 : decode cX8_copyFrom 86 = .ok (.goto (-21), 3) := by decide +kernel
theorem dX11_image_0 : decode cX11_image 0 = .ok (.aload_n 0, 1) := by decide +kernel
theorem dX11_image_1 : decode cX11_image 1 = .ok (.getfield 18, 3) := by decide +kernel
theorem dX11_image_4 : decode cX11_image 4 = .ok (.aload_n 0, 1) := by decide +kernel
theorem dX11_image_5 : decode cX11_image 5 = .ok (.getfield 14, 3) := by decide +kernel
set_option maxRecDepth 20000 in
theorem ggX11_image_X8_copyFrom : GoodIn wsX11_image wsX8_copyFrom := goodIn_r _ [9, 10, 11, 12, 13, 14, 15, 16, 17, 18, 19, 20, 21, 22, 23, 24, 25, 26, 34, 35, 36, 37, 38, 39, 40, 41, 42, 43, 44, 45, 46, 47] (by decide +kernel) (by decide +kernel)
set_option maxRecDepth 20000 in
theorem gX11_image_X8_copyFrom : GoodIn wsX11_image (wsV RX11 259 RX8 yX8_copyFrom wsX8_copyFrom) := goodIn_app (goodIn_of _ (by decide +kernel)) ggX11_image_X8_copyFrom
theorem dX11_image_8 : decode cX11_image 8 = .ok (.invokevirtual 259, 3) := by decide +kernel
theorem dX11_image_11 : decode cX11_image 11 = .ok (.aload_n 0, 1) := by decide +kernel
theorem dX11_image_12 : decode cX11_image 12 = .ok (.iconst 1, 1) := by decide +kernel
theorem dX11_image_13 : decode cX11_image 13 = .ok (.putfield 21, 3) := by decide +kernel
theorem dX11_image_16 : decode cX11_image 16 = .ok (.aload_n 0, 1) := by decide +kernel
theorem dX11_image_17 : decode cX11_image 17 = .ok (.getfield 14, 3) := by decide +kernel
theorem dX11_image_20 : decode cX11_image 20 = .ok (.getfield 101, 3) := by decide +kernel
theorem dX11_image_23 : decode cX11_image 23 = .ok (.ireturn, 1) := by decide +kernel
theorem seven {k : Int32} (h1 : ¬ k < 0) (h2 : ¬ 6 < k) : k = 0 ∨ k = 1 ∨ k = 2 ∨ k = 3 ∨ k = 4 ∨ k = 5 ∨ k = 6 := by
  obtain ⟨j, hj, rfl⟩ := in_of (n := 6) (M := 6) rfl h1 h2
  have : j = 0 ∨ j = 1 ∨ j = 2 ∨ j = 3 ∨ j = 4 ∨ j = 5 ∨ j = 6 := by omega
  rcases this with rfl | rfl | rfl | rfl | rfl | rfl | rfl
  · exact Or.inl rfl
  · exact Or.inr (Or.inl rfl)
  · exact Or.inr (Or.inr (Or.inl rfl))
  · exact Or.inr (Or.inr (Or.inr (Or.inl rfl)))
  · exact Or.inr (Or.inr (Or.inr (Or.inr (Or.inl rfl))))
  · exact Or.inr (Or.inr (Or.inr (Or.inr (Or.inr (Or.inl rfl)))))
  · exact Or.inr (Or.inr (Or.inr (Or.inr (Or.inr (Or.inr rfl)))))

theorem kc_hok0_0 : ∀ w ∈ wsX30, w ∈ wsX11_heapOfKind := by decide +kernel
theorem kc_hok0_1 : (.classLink RX11 117 RX3 : Cond) ∈ wsX11_heapOfKind := by decide +kernel
theorem kc_hok0_2 : (.instantiable RX3 4 : Cond) ∈ wsX11_heapOfKind := by decide +kernel
theorem kc_hok0_3 : (.initialized RX3 : Cond) ∈ wsX11_heapOfKind := by decide +kernel
theorem kc_hok0_4 : (.methodLink RX11 296 yX3_init : Cond) ∈ wsX11_heapOfKind := by decide +kernel
theorem kc_hok0_5 : (.instanceMethod yX3_init : Cond) ∈ wsX11_heapOfKind := by decide +kernel
set_option maxHeartbeats 4000000 in
set_option maxRecDepth 100000 in
theorem c_hok0 (l : Launch) (dC : Nat → ClassId) (dI : Nat → Nat → Nat) (x y : Int32) (sz : Nat) : Met l yX11_heapOfKind wsX11_heapOfKind ({ frames := 2, cells := 1, slots := 4, locals := 36 } : Room) (va_Pc [.int 0, .int 0, .int x, .int y] (fun U => U.heap.size = sz ∧ va_P (dC, dI) vwCl [] U.heap ∧ va_K (dC, dI) vwCl [] U ∧ va_D (fun _ => True) [])) (va_Qq (fun (r : Option Nat) (u : Nat) => match u with | qn => r = some qn) (fun (u : Nat) (t : State) => match u with | qn => va_P (dC, dI) vwCl [(qn, .inr (5, [.int 0, .int 0, .int x, .int y]))] t.heap ∧ va_K (dC, dI) vwCl [] t ∧ va_D (va_A [] sz) [(qn, .inr (5, [.int 0, .int 0, .int x, .int y]))]) (va_A [] sz)) 1 4 (va_A [] sz) := by
  refine met_ofQ (cc := cX11_heapOfKind) (maxL := 4) (ret := (some (.object "MistHeaps$Heap"))) (by decide) rfl ?_
  intro p e s m args below meth c s₁ Q B hml hv hQ
  obtain ⟨rfl, hsz, hP, hK, hD0⟩ := hv
  have hx := B.exec
  have hb := B.bytes
  have hr := B.returns
  have hts := atoms_spec (ws := wsX11_heapOfKind) B.pre
  have hown : s.vm.findClass RX11 = some m.cls := findClass_of_methodNamed B.named
  have hlocks := B.notSynchronized
  subst hsz
  have hD := hD0.self (sz := s.heap.size)
  generalize hAe : va_A [] s.heap.size = A at hD hQ ⊢
  have hA : ∀ q : Nat, s.heap.size ≤ q → A q := fun q h => by rw [← hAe]; exact Or.inr h
  have hS : va_S A s.heap s.heap [] := va_S.rf
  have hl := lv_entry [.int 0, .int 0, .int x, .int y] (n := 4) (Nat.le_of_ble_eq_true rfl)
  rw [lg_entry_eq]
  generalize (lg_sl [.int 0, .int 0, .int x, .int y] ++ List.replicate (4 - (lg_sl [.int 0, .int 0, .int x, .int y]).length) Slot.unset).toArray = ls at hl ⊢
  generalize hag : ([.int 0, .int 0, .int x, .int y] : List Value).toArray = args at hts hQ ⊢
  have hl : lv_has ls 4 [(0, .int 0), (1, .int 0), (2, .int x), (3, .int y)] := hl
  obtain ⟨H, hH⟩ : ∃ H : Heap, H = s.heap := ⟨_, rfl⟩
  rw [← hH] at hP
  rw [← hH]
  have hS : va_S A s.heap H [] := by rw [hH]; exact hS
  obtain ⟨locs, hlo⟩ : ∃ L : List Loc, L = [] := ⟨_, rfl⟩
  rw [← hlo] at hS
  rw [← hlo]
  clear hH hlo
  refine lv_iload_n hx hb dX11_heapOfKind_0 rfl (lv_at hl 0 rfl) ?_
  refine lv_tableOut (tgt := 112) hx hb dX11_heapOfKind_1 (by decide) (by decide) ?_
  refine va_new (ci := 5) (fs := [.int 0, .int 0, .int 0, .int 0]) (C := RX3) (T := TX3) (N := 4) hx hb hts kc_hok0_0 tyX3 tyX3_ok hown (hts (.classLink RX11 117 RX3) kc_hok0_1) (hts (.instantiable RX3 4) kc_hok0_2) (hts (.initialized RX3) kc_hok0_3) hK hP hD hS hA rfl (fun j hj => by rcases (show j = 0 ∨ j = 1 ∨ j = 2 ∨ j = 3 by omega) with rfl | rfl | rfl | rfl <;> rfl) (Nat.le_of_ble_eq_true rfl) (Nat.le_of_ble_eq_true rfl) dX11_heapOfKind_112 (fun q_1 H hP hD hS => ?_)
  have hP : va_P (dC, dI) vwCl [(q_1, .inr (5, [.int 0, .int 0, .int 0, .int 0]))] H := hP
  have hD : va_D A [(q_1, .inr (5, [.int 0, .int 0, .int 0, .int 0]))] := hD
  refine W.widen (k := 1) (n := 4) (by omega) (by omega) ?_
  refine lv_dup hx hb dX11_heapOfKind_115 rfl ?_
  refine lv_iload_n hx hb dX11_heapOfKind_116 rfl (lv_at hl 0 rfl) ?_
  refine lv_iload_n hx hb dX11_heapOfKind_117 rfl (lv_at hl 1 rfl) ?_
  refine lv_iload_n hx hb dX11_heapOfKind_118 rfl (lv_at hl 2 rfl) ?_
  refine lv_iload_n hx hb dX11_heapOfKind_119 rfl (lv_at hl 3 rfl) ?_
  have hPc := hP.sub (ws' := [(q_1, .inr (5, [.int 0, .int 0, .int 0, .int 0]))]) [0] rfl
  have hDc := hD.sub (ws' := [(q_1, .inr (5, [.int 0, .int 0, .int 0, .int 0]))]) [0] (by decide) rfl
  have hKc := hK.sub (tys' := []) [] rfl
  have hFc := va_free (wc := [(q_1, .inr (5, [.int 0, .int 0, .int 0, .int 0]))]) hD hS hA [0] rfl
  refine va_callv (va_runI (As := [.int 0, .int 0, .int x, .int y]) (rest := [.ref q_1]) ⟨hx, hb, hml, hown, hts⟩ (c_h3_X3 l dC dI q_1 0 0 x y H.size) (cwI 4 hts ggX11_heapOfKind_X3_init rfl rfl rfl (hts (.initialized RX3) kc_hok0_3) (hts (.methodLink RX11 296 yX3_init) kc_hok0_4) (hts (.instanceMethod yX3_init) kc_hok0_5) rfl (by decide +kernel) ⟨Nat.le_of_ble_eq_true rfl, Nat.le_of_ble_eq_true rfl⟩) ⟨fun a U g mk q => by obtain ⟨q0, q1, qP, qK, qD⟩ := q; exact ⟨q0, q1, qP, va_K.moved (u := U) (U := U.calling g mk a) (Vm.Alike.refl U.vm) qK, qD⟩, fun U hU hW => ⟨rfl, by rw [hU], by rw [hU]; exact hPc, va_K.moved hW.alike hKc, hDc.weaken (fun _ _ _ _ => trivial)⟩⟩ rfl rfl hl.1 rfl (lv_room (Nat.le_of_ble_eq_true rfl)) dX11_heapOfKind_120 ⟨Nat.le_of_ble_eq_true rfl, Nat.le_of_ble_eq_true rfl⟩) hS (fun q _ h => hFc q h) hFc (fun u tC H1 locs htC hvm hw_3 hB hz1 hk1 hS => ?_)
  obtain ⟨⟩ := u
  try dsimp only at hw_3 hB
  obtain ⟨hP1, hK1, hD1⟩ := hB
  rw [htC] at hP1
  have hK1 := va_K.moved hvm.symm hK1
  obtain ⟨hP, hD⟩ := va_join (wr := []) (w1 := [(q_1, .inr (5, [.int 0, .int 0, .int x, .int y]))]) hP hD [0] [] rfl rfl (by decide) (by decide) hk1 hFc hP1 hD1
  have hK := (hK.sub (tys' := []) [] rfl).app hK1
  generalize H1 = H at hP hS ⊢
  have hP : va_P (dC, dI) vwCl [(q_1, .inr (5, [.int 0, .int 0, .int x, .int y]))] H := hP
  have hD : va_D A [(q_1, .inr (5, [.int 0, .int 0, .int x, .int y]))] := hD
  have hK : va_K (dC, dI) vwCl [] s := hK
  rw [hQ]
  have hP9 := hP.sub (ws' := [(q_1, .inr (5, [.int 0, .int 0, .int x, .int y]))]) [0] rfl
  have hD9 := hD.sub (ws' := [(q_1, .inr (5, [.int 0, .int 0, .int x, .int y]))]) [0] (by decide) rfl
  have hK9 := hK.sub (tys' := []) [] rfl
  exact W.aret (v := .ref q_1) hx hb hr (Or.inl ⟨_, rfl⟩) (Or.inr ⟨_, rfl⟩) (fun tQ htQ hWQ => ⟨⟨some q_1, q_1, rfl, rfl, by rw [htQ]; exact hP9, va_K.moved hWQ.alike hK9, hD9⟩, hS.F htQ⟩) hS.2.2 dX11_heapOfKind_123

theorem kc_hok1_0 : ∀ w ∈ wsX40, w ∈ wsX11_heapOfKind := by decide +kernel
theorem kc_hok1_1 : (.classLink RX11 276 RX4 : Cond) ∈ wsX11_heapOfKind := by decide +kernel
theorem kc_hok1_2 : (.instantiable RX4 4 : Cond) ∈ wsX11_heapOfKind := by decide +kernel
theorem kc_hok1_3 : (.initialized RX4 : Cond) ∈ wsX11_heapOfKind := by decide +kernel
theorem kc_hok1_4 : (.methodLink RX11 278 yX4_init : Cond) ∈ wsX11_heapOfKind := by decide +kernel
theorem kc_hok1_5 : (.instanceMethod yX4_init : Cond) ∈ wsX11_heapOfKind := by decide +kernel
set_option maxHeartbeats 4000000 in
set_option maxRecDepth 100000 in
theorem c_hok1 (l : Launch) (dC : Nat → ClassId) (dI : Nat → Nat → Nat) (x y : Int32) (sz : Nat) : Met l yX11_heapOfKind wsX11_heapOfKind ({ frames := 3, cells := 1, slots := 4, locals := 60 } : Room) (va_Pc [.int 1, .int 0, .int x, .int y] (fun U => U.heap.size = sz ∧ va_P (dC, dI) vwCl [] U.heap ∧ va_K (dC, dI) vwCl [] U ∧ va_D (fun _ => True) [])) (va_Qq (fun (r : Option Nat) (u : Nat) => match u with | qn => r = some qn) (fun (u : Nat) (t : State) => match u with | qn => va_P (dC, dI) vwCl [(qn, .inr (6, [.int 1, .int 0, .int x, .int y]))] t.heap ∧ va_K (dC, dI) vwCl [] t ∧ va_D (va_A [] sz) [(qn, .inr (6, [.int 1, .int 0, .int x, .int y]))]) (va_A [] sz)) 1 4 (va_A [] sz) := by
  refine met_ofQ (cc := cX11_heapOfKind) (maxL := 4) (ret := (some (.object "MistHeaps$Heap"))) (by decide) rfl ?_
  intro p e s m args below meth c s₁ Q B hml hv hQ
  obtain ⟨rfl, hsz, hP, hK, hD0⟩ := hv
  have hx := B.exec
  have hb := B.bytes
  have hr := B.returns
  have hts := atoms_spec (ws := wsX11_heapOfKind) B.pre
  have hown : s.vm.findClass RX11 = some m.cls := findClass_of_methodNamed B.named
  have hlocks := B.notSynchronized
  subst hsz
  have hD := hD0.self (sz := s.heap.size)
  generalize hAe : va_A [] s.heap.size = A at hD hQ ⊢
  have hA : ∀ q : Nat, s.heap.size ≤ q → A q := fun q h => by rw [← hAe]; exact Or.inr h
  have hS : va_S A s.heap s.heap [] := va_S.rf
  have hl := lv_entry [.int 1, .int 0, .int x, .int y] (n := 4) (Nat.le_of_ble_eq_true rfl)
  rw [lg_entry_eq]
  generalize (lg_sl [.int 1, .int 0, .int x, .int y] ++ List.replicate (4 - (lg_sl [.int 1, .int 0, .int x, .int y]).length) Slot.unset).toArray = ls at hl ⊢
  generalize hag : ([.int 1, .int 0, .int x, .int y] : List Value).toArray = args at hts hQ ⊢
  have hl : lv_has ls 4 [(0, .int 1), (1, .int 0), (2, .int x), (3, .int y)] := hl
  obtain ⟨H, hH⟩ : ∃ H : Heap, H = s.heap := ⟨_, rfl⟩
  rw [← hH] at hP
  rw [← hH]
  have hS : va_S A s.heap H [] := by rw [hH]; exact hS
  obtain ⟨locs, hlo⟩ : ∃ L : List Loc, L = [] := ⟨_, rfl⟩
  rw [← hlo] at hS
  rw [← hlo]
  clear hH hlo
  refine lv_iload_n hx hb dX11_heapOfKind_0 rfl (lv_at hl 0 rfl) ?_
  refine lv_tableIn (tgt := 40) hx hb dX11_heapOfKind_1 (by decide) (by decide) rfl (by decide) ?_
  refine va_new (ci := 6) (fs := [.int 0, .int 0, .int 0, .int 0]) (C := RX4) (T := TX4) (N := 4) hx hb hts kc_hok1_0 tyX4 tyX4_ok hown (hts (.classLink RX11 276 RX4) kc_hok1_1) (hts (.instantiable RX4 4) kc_hok1_2) (hts (.initialized RX4) kc_hok1_3) hK hP hD hS hA rfl (fun j hj => by rcases (show j = 0 ∨ j = 1 ∨ j = 2 ∨ j = 3 by omega) with rfl | rfl | rfl | rfl <;> rfl) (Nat.le_of_ble_eq_true rfl) (Nat.le_of_ble_eq_true rfl) dX11_heapOfKind_40 (fun q_1 H hP hD hS => ?_)
  have hP : va_P (dC, dI) vwCl [(q_1, .inr (6, [.int 0, .int 0, .int 0, .int 0]))] H := hP
  have hD : va_D A [(q_1, .inr (6, [.int 0, .int 0, .int 0, .int 0]))] := hD
  refine W.widen (k := 1) (n := 4) (by omega) (by omega) ?_
  refine lv_dup hx hb dX11_heapOfKind_43 rfl ?_
  refine lv_iload_n hx hb dX11_heapOfKind_44 rfl (lv_at hl 0 rfl) ?_
  refine lv_iload_n hx hb dX11_heapOfKind_45 rfl (lv_at hl 1 rfl) ?_
  refine lv_iload_n hx hb dX11_heapOfKind_46 rfl (lv_at hl 2 rfl) ?_
  refine lv_iload_n hx hb dX11_heapOfKind_47 rfl (lv_at hl 3 rfl) ?_
  have hPc := hP.sub (ws' := [(q_1, .inr (6, [.int 0, .int 0, .int 0, .int 0]))]) [0] rfl
  have hDc := hD.sub (ws' := [(q_1, .inr (6, [.int 0, .int 0, .int 0, .int 0]))]) [0] (by decide) rfl
  have hKc := hK.sub (tys' := []) [] rfl
  have hFc := va_free (wc := [(q_1, .inr (6, [.int 0, .int 0, .int 0, .int 0]))]) hD hS hA [0] rfl
  refine va_callv (va_runI (As := [.int 1, .int 0, .int x, .int y]) (rest := [.ref q_1]) ⟨hx, hb, hml, hown, hts⟩ (c_h4_X4 l dC dI q_1 1 0 x y H.size) (cwI 4 hts ggX11_heapOfKind_X4_init rfl rfl rfl (hts (.initialized RX4) kc_hok1_3) (hts (.methodLink RX11 278 yX4_init) kc_hok1_4) (hts (.instanceMethod yX4_init) kc_hok1_5) rfl (by decide +kernel) ⟨Nat.le_of_ble_eq_true rfl, Nat.le_of_ble_eq_true rfl⟩) ⟨fun a U g mk q => by obtain ⟨q0, q1, qP, qK, qD⟩ := q; exact ⟨q0, q1, qP, va_K.moved (u := U) (U := U.calling g mk a) (Vm.Alike.refl U.vm) qK, qD⟩, fun U hU hW => ⟨rfl, by rw [hU], by rw [hU]; exact hPc, va_K.moved hW.alike hKc, hDc.weaken (fun _ _ _ _ => trivial)⟩⟩ rfl rfl hl.1 rfl (lv_room (Nat.le_of_ble_eq_true rfl)) dX11_heapOfKind_48 ⟨Nat.le_of_ble_eq_true rfl, Nat.le_of_ble_eq_true rfl⟩) hS (fun q _ h => hFc q h) hFc (fun u tC H1 locs htC hvm hw_3 hB hz1 hk1 hS => ?_)
  obtain ⟨⟩ := u
  try dsimp only at hw_3 hB
  obtain ⟨hP1, hK1, hD1⟩ := hB
  rw [htC] at hP1
  have hK1 := va_K.moved hvm.symm hK1
  obtain ⟨hP, hD⟩ := va_join (wr := []) (w1 := [(q_1, .inr (6, [.int 1, .int 0, .int x, .int y]))]) hP hD [0] [] rfl rfl (by decide) (by decide) hk1 hFc hP1 hD1
  have hK := (hK.sub (tys' := []) [] rfl).app hK1
  generalize H1 = H at hP hS ⊢
  have hP : va_P (dC, dI) vwCl [(q_1, .inr (6, [.int 1, .int 0, .int x, .int y]))] H := hP
  have hD : va_D A [(q_1, .inr (6, [.int 1, .int 0, .int x, .int y]))] := hD
  have hK : va_K (dC, dI) vwCl [] s := hK
  rw [hQ]
  have hP9 := hP.sub (ws' := [(q_1, .inr (6, [.int 1, .int 0, .int x, .int y]))]) [0] rfl
  have hD9 := hD.sub (ws' := [(q_1, .inr (6, [.int 1, .int 0, .int x, .int y]))]) [0] (by decide) rfl
  have hK9 := hK.sub (tys' := []) [] rfl
  exact W.aret (v := .ref q_1) hx hb hr (Or.inl ⟨_, rfl⟩) (Or.inr ⟨_, rfl⟩) (fun tQ htQ hWQ => ⟨⟨some q_1, q_1, rfl, rfl, by rw [htQ]; exact hP9, va_K.moved hWQ.alike hK9, hD9⟩, hS.F htQ⟩) hS.2.2 dX11_heapOfKind_51

theorem kc_hok2_0 : ∀ w ∈ wsX60, w ∈ wsX11_heapOfKind := by decide +kernel
theorem kc_hok2_1 : (.classLink RX11 281 RX6 : Cond) ∈ wsX11_heapOfKind := by decide +kernel
theorem kc_hok2_2 : (.instantiable RX6 4 : Cond) ∈ wsX11_heapOfKind := by decide +kernel
theorem kc_hok2_3 : (.initialized RX6 : Cond) ∈ wsX11_heapOfKind := by decide +kernel
theorem kc_hok2_4 : (.methodLink RX11 283 yX6_init : Cond) ∈ wsX11_heapOfKind := by decide +kernel
theorem kc_hok2_5 : (.instanceMethod yX6_init : Cond) ∈ wsX11_heapOfKind := by decide +kernel
set_option maxHeartbeats 4000000 in
set_option maxRecDepth 100000 in
theorem c_hok2 (l : Launch) (dC : Nat → ClassId) (dI : Nat → Nat → Nat) (x y : Int32) (sz : Nat) : Met l yX11_heapOfKind wsX11_heapOfKind ({ frames := 3, cells := 1, slots := 4, locals := 60 } : Room) (va_Pc [.int 2, .int 0, .int x, .int y] (fun U => U.heap.size = sz ∧ va_P (dC, dI) vwCl [] U.heap ∧ va_K (dC, dI) vwCl [] U ∧ va_D (fun _ => True) [])) (va_Qq (fun (r : Option Nat) (u : Nat) => match u with | qn => r = some qn) (fun (u : Nat) (t : State) => match u with | qn => va_P (dC, dI) vwCl [(qn, .inr (8, [.int 2, .int 0, .int x, .int y]))] t.heap ∧ va_K (dC, dI) vwCl [] t ∧ va_D (va_A [] sz) [(qn, .inr (8, [.int 2, .int 0, .int x, .int y]))]) (va_A [] sz)) 1 4 (va_A [] sz) := by
  refine met_ofQ (cc := cX11_heapOfKind) (maxL := 4) (ret := (some (.object "MistHeaps$Heap"))) (by decide) rfl ?_
  intro p e s m args below meth c s₁ Q B hml hv hQ
  obtain ⟨rfl, hsz, hP, hK, hD0⟩ := hv
  have hx := B.exec
  have hb := B.bytes
  have hr := B.returns
  have hts := atoms_spec (ws := wsX11_heapOfKind) B.pre
  have hown : s.vm.findClass RX11 = some m.cls := findClass_of_methodNamed B.named
  have hlocks := B.notSynchronized
  subst hsz
  have hD := hD0.self (sz := s.heap.size)
  generalize hAe : va_A [] s.heap.size = A at hD hQ ⊢
  have hA : ∀ q : Nat, s.heap.size ≤ q → A q := fun q h => by rw [← hAe]; exact Or.inr h
  have hS : va_S A s.heap s.heap [] := va_S.rf
  have hl := lv_entry [.int 2, .int 0, .int x, .int y] (n := 4) (Nat.le_of_ble_eq_true rfl)
  rw [lg_entry_eq]
  generalize (lg_sl [.int 2, .int 0, .int x, .int y] ++ List.replicate (4 - (lg_sl [.int 2, .int 0, .int x, .int y]).length) Slot.unset).toArray = ls at hl ⊢
  generalize hag : ([.int 2, .int 0, .int x, .int y] : List Value).toArray = args at hts hQ ⊢
  have hl : lv_has ls 4 [(0, .int 2), (1, .int 0), (2, .int x), (3, .int y)] := hl
  obtain ⟨H, hH⟩ : ∃ H : Heap, H = s.heap := ⟨_, rfl⟩
  rw [← hH] at hP
  rw [← hH]
  have hS : va_S A s.heap H [] := by rw [hH]; exact hS
  obtain ⟨locs, hlo⟩ : ∃ L : List Loc, L = [] := ⟨_, rfl⟩
  rw [← hlo] at hS
  rw [← hlo]
  clear hH hlo
  refine lv_iload_n hx hb dX11_heapOfKind_0 rfl (lv_at hl 0 rfl) ?_
  refine lv_tableIn (tgt := 52) hx hb dX11_heapOfKind_1 (by decide) (by decide) rfl (by decide) ?_
  refine va_new (ci := 8) (fs := [.int 0, .int 0, .int 0, .int 0]) (C := RX6) (T := TX6) (N := 4) hx hb hts kc_hok2_0 tyX6 tyX6_ok hown (hts (.classLink RX11 281 RX6) kc_hok2_1) (hts (.instantiable RX6 4) kc_hok2_2) (hts (.initialized RX6) kc_hok2_3) hK hP hD hS hA rfl (fun j hj => by rcases (show j = 0 ∨ j = 1 ∨ j = 2 ∨ j = 3 by omega) with rfl | rfl | rfl | rfl <;> rfl) (Nat.le_of_ble_eq_true rfl) (Nat.le_of_ble_eq_true rfl) dX11_heapOfKind_52 (fun q_1 H hP hD hS => ?_)
  have hP : va_P (dC, dI) vwCl [(q_1, .inr (8, [.int 0, .int 0, .int 0, .int 0]))] H := hP
  have hD : va_D A [(q_1, .inr (8, [.int 0, .int 0, .int 0, .int 0]))] := hD
  refine W.widen (k := 1) (n := 4) (by omega) (by omega) ?_
  refine lv_dup hx hb dX11_heapOfKind_55 rfl ?_
  refine lv_iload_n hx hb dX11_heapOfKind_56 rfl (lv_at hl 0 rfl) ?_
  refine lv_iload_n hx hb dX11_heapOfKind_57 rfl (lv_at hl 1 rfl) ?_
  refine lv_iload_n hx hb dX11_heapOfKind_58 rfl (lv_at hl 2 rfl) ?_
  refine lv_iload_n hx hb dX11_heapOfKind_59 rfl (lv_at hl 3 rfl) ?_
  have hPc := hP.sub (ws' := [(q_1, .inr (8, [.int 0, .int 0, .int 0, .int 0]))]) [0] rfl
  have hDc := hD.sub (ws' := [(q_1, .inr (8, [.int 0, .int 0, .int 0, .int 0]))]) [0] (by decide) rfl
  have hKc := hK.sub (tys' := []) [] rfl
  have hFc := va_free (wc := [(q_1, .inr (8, [.int 0, .int 0, .int 0, .int 0]))]) hD hS hA [0] rfl
  refine va_callv (va_runI (As := [.int 2, .int 0, .int x, .int y]) (rest := [.ref q_1]) ⟨hx, hb, hml, hown, hts⟩ (c_h6_X6 l dC dI q_1 2 0 x y H.size) (cwI 4 hts ggX11_heapOfKind_X6_init rfl rfl rfl (hts (.initialized RX6) kc_hok2_3) (hts (.methodLink RX11 283 yX6_init) kc_hok2_4) (hts (.instanceMethod yX6_init) kc_hok2_5) rfl (by decide +kernel) ⟨Nat.le_of_ble_eq_true rfl, Nat.le_of_ble_eq_true rfl⟩) ⟨fun a U g mk q => by obtain ⟨q0, q1, qP, qK, qD⟩ := q; exact ⟨q0, q1, qP, va_K.moved (u := U) (U := U.calling g mk a) (Vm.Alike.refl U.vm) qK, qD⟩, fun U hU hW => ⟨rfl, by rw [hU], by rw [hU]; exact hPc, va_K.moved hW.alike hKc, hDc.weaken (fun _ _ _ _ => trivial)⟩⟩ rfl rfl hl.1 rfl (lv_room (Nat.le_of_ble_eq_true rfl)) dX11_heapOfKind_60 ⟨Nat.le_of_ble_eq_true rfl, Nat.le_of_ble_eq_true rfl⟩) hS (fun q _ h => hFc q h) hFc (fun u tC H1 locs htC hvm hw_3 hB hz1 hk1 hS => ?_)
  obtain ⟨⟩ := u
  try dsimp only at hw_3 hB
  obtain ⟨hP1, hK1, hD1⟩ := hB
  rw [htC] at hP1
  have hK1 := va_K.moved hvm.symm hK1
  obtain ⟨hP, hD⟩ := va_join (wr := []) (w1 := [(q_1, .inr (8, [.int 2, .int 0, .int x, .int y]))]) hP hD [0] [] rfl rfl (by decide) (by decide) hk1 hFc hP1 hD1
  have hK := (hK.sub (tys' := []) [] rfl).app hK1
  generalize H1 = H at hP hS ⊢
  have hP : va_P (dC, dI) vwCl [(q_1, .inr (8, [.int 2, .int 0, .int x, .int y]))] H := hP
  have hD : va_D A [(q_1, .inr (8, [.int 2, .int 0, .int x, .int y]))] := hD
  have hK : va_K (dC, dI) vwCl [] s := hK
  rw [hQ]
  have hP9 := hP.sub (ws' := [(q_1, .inr (8, [.int 2, .int 0, .int x, .int y]))]) [0] rfl
  have hD9 := hD.sub (ws' := [(q_1, .inr (8, [.int 2, .int 0, .int x, .int y]))]) [0] (by decide) rfl
  have hK9 := hK.sub (tys' := []) [] rfl
  exact W.aret (v := .ref q_1) hx hb hr (Or.inl ⟨_, rfl⟩) (Or.inr ⟨_, rfl⟩) (fun tQ htQ hWQ => ⟨⟨some q_1, q_1, rfl, rfl, by rw [htQ]; exact hP9, va_K.moved hWQ.alike hK9, hD9⟩, hS.F htQ⟩) hS.2.2 dX11_heapOfKind_63

theorem kc_hok3_0 : ∀ w ∈ wsX10, w ∈ wsX11_heapOfKind := by decide +kernel
theorem kc_hok3_1 : (.classLink RX11 284 RX1 : Cond) ∈ wsX11_heapOfKind := by decide +kernel
theorem kc_hok3_2 : (.instantiable RX1 4 : Cond) ∈ wsX11_heapOfKind := by decide +kernel
theorem kc_hok3_3 : (.initialized RX1 : Cond) ∈ wsX11_heapOfKind := by decide +kernel
theorem kc_hok3_4 : (.methodLink RX11 286 yX1_init : Cond) ∈ wsX11_heapOfKind := by decide +kernel
theorem kc_hok3_5 : (.instanceMethod yX1_init : Cond) ∈ wsX11_heapOfKind := by decide +kernel
set_option maxHeartbeats 4000000 in
set_option maxRecDepth 100000 in
theorem c_hok3 (l : Launch) (dC : Nat → ClassId) (dI : Nat → Nat → Nat) (x y : Int32) (sz : Nat) : Met l yX11_heapOfKind wsX11_heapOfKind ({ frames := 3, cells := 1, slots := 4, locals := 60 } : Room) (va_Pc [.int 3, .int 0, .int x, .int y] (fun U => U.heap.size = sz ∧ va_P (dC, dI) vwCl [] U.heap ∧ va_K (dC, dI) vwCl [] U ∧ va_D (fun _ => True) [])) (va_Qq (fun (r : Option Nat) (u : Nat) => match u with | qn => r = some qn) (fun (u : Nat) (t : State) => match u with | qn => va_P (dC, dI) vwCl [(qn, .inr (3, [.int 3, .int 0, .int x, .int y]))] t.heap ∧ va_K (dC, dI) vwCl [] t ∧ va_D (va_A [] sz) [(qn, .inr (3, [.int 3, .int 0, .int x, .int y]))]) (va_A [] sz)) 1 4 (va_A [] sz) := by
  refine met_ofQ (cc := cX11_heapOfKind) (maxL := 4) (ret := (some (.object "MistHeaps$Heap"))) (by decide) rfl ?_
  intro p e s m args below meth c s₁ Q B hml hv hQ
  obtain ⟨rfl, hsz, hP, hK, hD0⟩ := hv
  have hx := B.exec
  have hb := B.bytes
  have hr := B.returns
  have hts := atoms_spec (ws := wsX11_heapOfKind) B.pre
  have hown : s.vm.findClass RX11 = some m.cls := findClass_of_methodNamed B.named
  have hlocks := B.notSynchronized
  subst hsz
  have hD := hD0.self (sz := s.heap.size)
  generalize hAe : va_A [] s.heap.size = A at hD hQ ⊢
  have hA : ∀ q : Nat, s.heap.size ≤ q → A q := fun q h => by rw [← hAe]; exact Or.inr h
  have hS : va_S A s.heap s.heap [] := va_S.rf
  have hl := lv_entry [.int 3, .int 0, .int x, .int y] (n := 4) (Nat.le_of_ble_eq_true rfl)
  rw [lg_entry_eq]
  generalize (lg_sl [.int 3, .int 0, .int x, .int y] ++ List.replicate (4 - (lg_sl [.int 3, .int 0, .int x, .int y]).length) Slot.unset).toArray = ls at hl ⊢
  generalize hag : ([.int 3, .int 0, .int x, .int y] : List Value).toArray = args at hts hQ ⊢
  have hl : lv_has ls 4 [(0, .int 3), (1, .int 0), (2, .int x), (3, .int y)] := hl
  obtain ⟨H, hH⟩ : ∃ H : Heap, H = s.heap := ⟨_, rfl⟩
  rw [← hH] at hP
  rw [← hH]
  have hS : va_S A s.heap H [] := by rw [hH]; exact hS
  obtain ⟨locs, hlo⟩ : ∃ L : List Loc, L = [] := ⟨_, rfl⟩
  rw [← hlo] at hS
  rw [← hlo]
  clear hH hlo
  refine lv_iload_n hx hb dX11_heapOfKind_0 rfl (lv_at hl 0 rfl) ?_
  refine lv_tableIn (tgt := 64) hx hb dX11_heapOfKind_1 (by decide) (by decide) rfl (by decide) ?_
  refine va_new (ci := 3) (fs := [.int 0, .int 0, .int 0, .int 0]) (C := RX1) (T := TX1) (N := 4) hx hb hts kc_hok3_0 tyX1 tyX1_ok hown (hts (.classLink RX11 284 RX1) kc_hok3_1) (hts (.instantiable RX1 4) kc_hok3_2) (hts (.initialized RX1) kc_hok3_3) hK hP hD hS hA rfl (fun j hj => by rcases (show j = 0 ∨ j = 1 ∨ j = 2 ∨ j = 3 by omega) with rfl | rfl | rfl | rfl <;> rfl) (Nat.le_of_ble_eq_true rfl) (Nat.le_of_ble_eq_true rfl) dX11_heapOfKind_64 (fun q_1 H hP hD hS => ?_)
  have hP : va_P (dC, dI) vwCl [(q_1, .inr (3, [.int 0, .int 0, .int 0, .int 0]))] H := hP
  have hD : va_D A [(q_1, .inr (3, [.int 0, .int 0, .int 0, .int 0]))] := hD
  refine W.widen (k := 1) (n := 4) (by omega) (by omega) ?_
  refine lv_dup hx hb dX11_heapOfKind_67 rfl ?_
  refine lv_iload_n hx hb dX11_heapOfKind_68 rfl (lv_at hl 0 rfl) ?_
  refine lv_iload_n hx hb dX11_heapOfKind_69 rfl (lv_at hl 1 rfl) ?_
  refine lv_iload_n hx hb dX11_heapOfKind_70 rfl (lv_at hl 2 rfl) ?_
  refine lv_iload_n hx hb dX11_heapOfKind_71 rfl (lv_at hl 3 rfl) ?_
  have hPc := hP.sub (ws' := [(q_1, .inr (3, [.int 0, .int 0, .int 0, .int 0]))]) [0] rfl
  have hDc := hD.sub (ws' := [(q_1, .inr (3, [.int 0, .int 0, .int 0, .int 0]))]) [0] (by decide) rfl
  have hKc := hK.sub (tys' := []) [] rfl
  have hFc := va_free (wc := [(q_1, .inr (3, [.int 0, .int 0, .int 0, .int 0]))]) hD hS hA [0] rfl
  refine va_callv (va_runI (As := [.int 3, .int 0, .int x, .int y]) (rest := [.ref q_1]) ⟨hx, hb, hml, hown, hts⟩ (c_h1_X1 l dC dI q_1 3 0 x y H.size) (cwI 4 hts ggX11_heapOfKind_X1_init rfl rfl rfl (hts (.initialized RX1) kc_hok3_3) (hts (.methodLink RX11 286 yX1_init) kc_hok3_4) (hts (.instanceMethod yX1_init) kc_hok3_5) rfl (by decide +kernel) ⟨Nat.le_of_ble_eq_true rfl, Nat.le_of_ble_eq_true rfl⟩) ⟨fun a U g mk q => by obtain ⟨q0, q1, qP, qK, qD⟩ := q; exact ⟨q0, q1, qP, va_K.moved (u := U) (U := U.calling g mk a) (Vm.Alike.refl U.vm) qK, qD⟩, fun U hU hW => ⟨rfl, by rw [hU], by rw [hU]; exact hPc, va_K.moved hW.alike hKc, hDc.weaken (fun _ _ _ _ => trivial)⟩⟩ rfl rfl hl.1 rfl (lv_room (Nat.le_of_ble_eq_true rfl)) dX11_heapOfKind_72 ⟨Nat.le_of_ble_eq_true rfl, Nat.le_of_ble_eq_true rfl⟩) hS (fun q _ h => hFc q h) hFc (fun u tC H1 locs htC hvm hw_3 hB hz1 hk1 hS => ?_)
  obtain ⟨⟩ := u
  try dsimp only at hw_3 hB
  obtain ⟨hP1, hK1, hD1⟩ := hB
  rw [htC] at hP1
  have hK1 := va_K.moved hvm.symm hK1
  obtain ⟨hP, hD⟩ := va_join (wr := []) (w1 := [(q_1, .inr (3, [.int 3, .int 0, .int x, .int y]))]) hP hD [0] [] rfl rfl (by decide) (by decide) hk1 hFc hP1 hD1
  have hK := (hK.sub (tys' := []) [] rfl).app hK1
  generalize H1 = H at hP hS ⊢
  have hP : va_P (dC, dI) vwCl [(q_1, .inr (3, [.int 3, .int 0, .int x, .int y]))] H := hP
  have hD : va_D A [(q_1, .inr (3, [.int 3, .int 0, .int x, .int y]))] := hD
  have hK : va_K (dC, dI) vwCl [] s := hK
  rw [hQ]
  have hP9 := hP.sub (ws' := [(q_1, .inr (3, [.int 3, .int 0, .int x, .int y]))]) [0] rfl
  have hD9 := hD.sub (ws' := [(q_1, .inr (3, [.int 3, .int 0, .int x, .int y]))]) [0] (by decide) rfl
  have hK9 := hK.sub (tys' := []) [] rfl
  exact W.aret (v := .ref q_1) hx hb hr (Or.inl ⟨_, rfl⟩) (Or.inr ⟨_, rfl⟩) (fun tQ htQ hWQ => ⟨⟨some q_1, q_1, rfl, rfl, by rw [htQ]; exact hP9, va_K.moved hWQ.alike hK9, hD9⟩, hS.F htQ⟩) hS.2.2 dX11_heapOfKind_75

theorem kc_hok4_0 : ∀ w ∈ wsX100, w ∈ wsX11_heapOfKind := by decide +kernel
theorem kc_hok4_1 : (.classLink RX11 287 RX10 : Cond) ∈ wsX11_heapOfKind := by decide +kernel
theorem kc_hok4_2 : (.instantiable RX10 4 : Cond) ∈ wsX11_heapOfKind := by decide +kernel
theorem kc_hok4_3 : (.initialized RX10 : Cond) ∈ wsX11_heapOfKind := by decide +kernel
theorem kc_hok4_4 : (.methodLink RX11 289 yX10_init : Cond) ∈ wsX11_heapOfKind := by decide +kernel
theorem kc_hok4_5 : (.instanceMethod yX10_init : Cond) ∈ wsX11_heapOfKind := by decide +kernel
set_option maxHeartbeats 4000000 in
set_option maxRecDepth 100000 in
theorem c_hok4 (l : Launch) (dC : Nat → ClassId) (dI : Nat → Nat → Nat) (x y : Int32) (sz : Nat) : Met l yX11_heapOfKind wsX11_heapOfKind ({ frames := 4, cells := 1, slots := 4, locals := 84 } : Room) (va_Pc [.int 4, .int 0, .int x, .int y] (fun U => U.heap.size = sz ∧ va_P (dC, dI) vwCl [] U.heap ∧ va_K (dC, dI) vwCl [] U ∧ va_D (fun _ => True) [])) (va_Qq (fun (r : Option Nat) (u : Nat) => match u with | qn => r = some qn) (fun (u : Nat) (t : State) => match u with | qn => va_P (dC, dI) vwCl [(qn, .inr (12, [.int 4, .int 0, .int x, .int y]))] t.heap ∧ va_K (dC, dI) vwCl [] t ∧ va_D (va_A [] sz) [(qn, .inr (12, [.int 4, .int 0, .int x, .int y]))]) (va_A [] sz)) 1 4 (va_A [] sz) := by
  refine met_ofQ (cc := cX11_heapOfKind) (maxL := 4) (ret := (some (.object "MistHeaps$Heap"))) (by decide) rfl ?_
  intro p e s m args below meth c s₁ Q B hml hv hQ
  obtain ⟨rfl, hsz, hP, hK, hD0⟩ := hv
  have hx := B.exec
  have hb := B.bytes
  have hr := B.returns
  have hts := atoms_spec (ws := wsX11_heapOfKind) B.pre
  have hown : s.vm.findClass RX11 = some m.cls := findClass_of_methodNamed B.named
  have hlocks := B.notSynchronized
  subst hsz
  have hD := hD0.self (sz := s.heap.size)
  generalize hAe : va_A [] s.heap.size = A at hD hQ ⊢
  have hA : ∀ q : Nat, s.heap.size ≤ q → A q := fun q h => by rw [← hAe]; exact Or.inr h
  have hS : va_S A s.heap s.heap [] := va_S.rf
  have hl := lv_entry [.int 4, .int 0, .int x, .int y] (n := 4) (Nat.le_of_ble_eq_true rfl)
  rw [lg_entry_eq]
  generalize (lg_sl [.int 4, .int 0, .int x, .int y] ++ List.replicate (4 - (lg_sl [.int 4, .int 0, .int x, .int y]).length) Slot.unset).toArray = ls at hl ⊢
  generalize hag : ([.int 4, .int 0, .int x, .int y] : List Value).toArray = args at hts hQ ⊢
  have hl : lv_has ls 4 [(0, .int 4), (1, .int 0), (2, .int x), (3, .int y)] := hl
  obtain ⟨H, hH⟩ : ∃ H : Heap, H = s.heap := ⟨_, rfl⟩
  rw [← hH] at hP
  rw [← hH]
  have hS : va_S A s.heap H [] := by rw [hH]; exact hS
  obtain ⟨locs, hlo⟩ : ∃ L : List Loc, L = [] := ⟨_, rfl⟩
  rw [← hlo] at hS
  rw [← hlo]
  clear hH hlo
  refine lv_iload_n hx hb dX11_heapOfKind_0 rfl (lv_at hl 0 rfl) ?_
  refine lv_tableIn (tgt := 76) hx hb dX11_heapOfKind_1 (by decide) (by decide) rfl (by decide) ?_
  refine va_new (ci := 12) (fs := [.int 0, .int 0, .int 0, .int 0]) (C := RX10) (T := TX10) (N := 4) hx hb hts kc_hok4_0 tyX10 tyX10_ok hown (hts (.classLink RX11 287 RX10) kc_hok4_1) (hts (.instantiable RX10 4) kc_hok4_2) (hts (.initialized RX10) kc_hok4_3) hK hP hD hS hA rfl (fun j hj => by rcases (show j = 0 ∨ j = 1 ∨ j = 2 ∨ j = 3 by omega) with rfl | rfl | rfl | rfl <;> rfl) (Nat.le_of_ble_eq_true rfl) (Nat.le_of_ble_eq_true rfl) dX11_heapOfKind_76 (fun q_1 H hP hD hS => ?_)
  have hP : va_P (dC, dI) vwCl [(q_1, .inr (12, [.int 0, .int 0, .int 0, .int 0]))] H := hP
  have hD : va_D A [(q_1, .inr (12, [.int 0, .int 0, .int 0, .int 0]))] := hD
  refine W.widen (k := 1) (n := 4) (by omega) (by omega) ?_
  refine lv_dup hx hb dX11_heapOfKind_79 rfl ?_
  refine lv_iload_n hx hb dX11_heapOfKind_80 rfl (lv_at hl 0 rfl) ?_
  refine lv_iload_n hx hb dX11_heapOfKind_81 rfl (lv_at hl 1 rfl) ?_
  refine lv_iload_n hx hb dX11_heapOfKind_82 rfl (lv_at hl 2 rfl) ?_
  refine lv_iload_n hx hb dX11_heapOfKind_83 rfl (lv_at hl 3 rfl) ?_
  have hPc := hP.sub (ws' := [(q_1, .inr (12, [.int 0, .int 0, .int 0, .int 0]))]) [0] rfl
  have hDc := hD.sub (ws' := [(q_1, .inr (12, [.int 0, .int 0, .int 0, .int 0]))]) [0] (by decide) rfl
  have hKc := hK.sub (tys' := []) [] rfl
  have hFc := va_free (wc := [(q_1, .inr (12, [.int 0, .int 0, .int 0, .int 0]))]) hD hS hA [0] rfl
  refine va_callv (va_runI (As := [.int 4, .int 0, .int x, .int y]) (rest := [.ref q_1]) ⟨hx, hb, hml, hown, hts⟩ (c_h10_X10 l dC dI q_1 4 0 x y H.size) (cwI 4 hts ggX11_heapOfKind_X10_init rfl rfl rfl (hts (.initialized RX10) kc_hok4_3) (hts (.methodLink RX11 289 yX10_init) kc_hok4_4) (hts (.instanceMethod yX10_init) kc_hok4_5) rfl (by decide +kernel) ⟨Nat.le_of_ble_eq_true rfl, Nat.le_of_ble_eq_true rfl⟩) ⟨fun a U g mk q => by obtain ⟨q0, q1, qP, qK, qD⟩ := q; exact ⟨q0, q1, qP, va_K.moved (u := U) (U := U.calling g mk a) (Vm.Alike.refl U.vm) qK, qD⟩, fun U hU hW => ⟨rfl, by rw [hU], by rw [hU]; exact hPc, va_K.moved hW.alike hKc, hDc.weaken (fun _ _ _ _ => trivial)⟩⟩ rfl rfl hl.1 rfl (lv_room (Nat.le_of_ble_eq_true rfl)) dX11_heapOfKind_84 ⟨Nat.le_of_ble_eq_true rfl, Nat.le_of_ble_eq_true rfl⟩) hS (fun q _ h => hFc q h) hFc (fun u tC H1 locs htC hvm hw_3 hB hz1 hk1 hS => ?_)
  obtain ⟨⟩ := u
  try dsimp only at hw_3 hB
  obtain ⟨hP1, hK1, hD1⟩ := hB
  rw [htC] at hP1
  have hK1 := va_K.moved hvm.symm hK1
  obtain ⟨hP, hD⟩ := va_join (wr := []) (w1 := [(q_1, .inr (12, [.int 4, .int 0, .int x, .int y]))]) hP hD [0] [] rfl rfl (by decide) (by decide) hk1 hFc hP1 hD1
  have hK := (hK.sub (tys' := []) [] rfl).app hK1
  generalize H1 = H at hP hS ⊢
  have hP : va_P (dC, dI) vwCl [(q_1, .inr (12, [.int 4, .int 0, .int x, .int y]))] H := hP
  have hD : va_D A [(q_1, .inr (12, [.int 4, .int 0, .int x, .int y]))] := hD
  have hK : va_K (dC, dI) vwCl [] s := hK
  rw [hQ]
  have hP9 := hP.sub (ws' := [(q_1, .inr (12, [.int 4, .int 0, .int x, .int y]))]) [0] rfl
  have hD9 := hD.sub (ws' := [(q_1, .inr (12, [.int 4, .int 0, .int x, .int y]))]) [0] (by decide) rfl
  have hK9 := hK.sub (tys' := []) [] rfl
  exact W.aret (v := .ref q_1) hx hb hr (Or.inl ⟨_, rfl⟩) (Or.inr ⟨_, rfl⟩) (fun tQ htQ hWQ => ⟨⟨some q_1, q_1, rfl, rfl, by rw [htQ]; exact hP9, va_K.moved hWQ.alike hK9, hD9⟩, hS.F htQ⟩) hS.2.2 dX11_heapOfKind_87

theorem kc_hok5_0 : ∀ w ∈ wsX90, w ∈ wsX11_heapOfKind := by decide +kernel
theorem kc_hok5_1 : (.classLink RX11 290 RX9 : Cond) ∈ wsX11_heapOfKind := by decide +kernel
theorem kc_hok5_2 : (.instantiable RX9 4 : Cond) ∈ wsX11_heapOfKind := by decide +kernel
theorem kc_hok5_3 : (.initialized RX9 : Cond) ∈ wsX11_heapOfKind := by decide +kernel
theorem kc_hok5_4 : (.methodLink RX11 292 yX9_init : Cond) ∈ wsX11_heapOfKind := by decide +kernel
theorem kc_hok5_5 : (.instanceMethod yX9_init : Cond) ∈ wsX11_heapOfKind := by decide +kernel
set_option maxHeartbeats 4000000 in
set_option maxRecDepth 100000 in
theorem c_hok5 (l : Launch) (dC : Nat → ClassId) (dI : Nat → Nat → Nat) (x y : Int32) (sz : Nat) : Met l yX11_heapOfKind wsX11_heapOfKind ({ frames := 4, cells := 1, slots := 4, locals := 84 } : Room) (va_Pc [.int 5, .int 0, .int x, .int y] (fun U => U.heap.size = sz ∧ va_P (dC, dI) vwCl [] U.heap ∧ va_K (dC, dI) vwCl [] U ∧ va_D (fun _ => True) [])) (va_Qq (fun (r : Option Nat) (u : Nat) => match u with | qn => r = some qn) (fun (u : Nat) (t : State) => match u with | qn => va_P (dC, dI) vwCl [(qn, .inr (11, [.int 5, .int 0, .int x, .int y]))] t.heap ∧ va_K (dC, dI) vwCl [] t ∧ va_D (va_A [] sz) [(qn, .inr (11, [.int 5, .int 0, .int x, .int y]))]) (va_A [] sz)) 1 4 (va_A [] sz) := by
  refine met_ofQ (cc := cX11_heapOfKind) (maxL := 4) (ret := (some (.object "MistHeaps$Heap"))) (by decide) rfl ?_
  intro p e s m args below meth c s₁ Q B hml hv hQ
  obtain ⟨rfl, hsz, hP, hK, hD0⟩ := hv
  have hx := B.exec
  have hb := B.bytes
  have hr := B.returns
  have hts := atoms_spec (ws := wsX11_heapOfKind) B.pre
  have hown : s.vm.findClass RX11 = some m.cls := findClass_of_methodNamed B.named
  have hlocks := B.notSynchronized
  subst hsz
  have hD := hD0.self (sz := s.heap.size)
  generalize hAe : va_A [] s.heap.size = A at hD hQ ⊢
  have hA : ∀ q : Nat, s.heap.size ≤ q → A q := fun q h => by rw [← hAe]; exact Or.inr h
  have hS : va_S A s.heap s.heap [] := va_S.rf
  have hl := lv_entry [.int 5, .int 0, .int x, .int y] (n := 4) (Nat.le_of_ble_eq_true rfl)
  rw [lg_entry_eq]
  generalize (lg_sl [.int 5, .int 0, .int x, .int y] ++ List.replicate (4 - (lg_sl [.int 5, .int 0, .int x, .int y]).length) Slot.unset).toArray = ls at hl ⊢
  generalize hag : ([.int 5, .int 0, .int x, .int y] : List Value).toArray = args at hts hQ ⊢
  have hl : lv_has ls 4 [(0, .int 5), (1, .int 0), (2, .int x), (3, .int y)] := hl
  obtain ⟨H, hH⟩ : ∃ H : Heap, H = s.heap := ⟨_, rfl⟩
  rw [← hH] at hP
  rw [← hH]
  have hS : va_S A s.heap H [] := by rw [hH]; exact hS
  obtain ⟨locs, hlo⟩ : ∃ L : List Loc, L = [] := ⟨_, rfl⟩
  rw [← hlo] at hS
  rw [← hlo]
  clear hH hlo
  refine lv_iload_n hx hb dX11_heapOfKind_0 rfl (lv_at hl 0 rfl) ?_
  refine lv_tableIn (tgt := 88) hx hb dX11_heapOfKind_1 (by decide) (by decide) rfl (by decide) ?_
  refine va_new (ci := 11) (fs := [.int 0, .int 0, .int 0, .int 0]) (C := RX9) (T := TX9) (N := 4) hx hb hts kc_hok5_0 tyX9 tyX9_ok hown (hts (.classLink RX11 290 RX9) kc_hok5_1) (hts (.instantiable RX9 4) kc_hok5_2) (hts (.initialized RX9) kc_hok5_3) hK hP hD hS hA rfl (fun j hj => by rcases (show j = 0 ∨ j = 1 ∨ j = 2 ∨ j = 3 by omega) with rfl | rfl | rfl | rfl <;> rfl) (Nat.le_of_ble_eq_true rfl) (Nat.le_of_ble_eq_true rfl) dX11_heapOfKind_88 (fun q_1 H hP hD hS => ?_)
  have hP : va_P (dC, dI) vwCl [(q_1, .inr (11, [.int 0, .int 0, .int 0, .int 0]))] H := hP
  have hD : va_D A [(q_1, .inr (11, [.int 0, .int 0, .int 0, .int 0]))] := hD
  refine W.widen (k := 1) (n := 4) (by omega) (by omega) ?_
  refine lv_dup hx hb dX11_heapOfKind_91 rfl ?_
  refine lv_iload_n hx hb dX11_heapOfKind_92 rfl (lv_at hl 0 rfl) ?_
  refine lv_iload_n hx hb dX11_heapOfKind_93 rfl (lv_at hl 1 rfl) ?_
  refine lv_iload_n hx hb dX11_heapOfKind_94 rfl (lv_at hl 2 rfl) ?_
  refine lv_iload_n hx hb dX11_heapOfKind_95 rfl (lv_at hl 3 rfl) ?_
  have hPc := hP.sub (ws' := [(q_1, .inr (11, [.int 0, .int 0, .int 0, .int 0]))]) [0] rfl
  have hDc := hD.sub (ws' := [(q_1, .inr (11, [.int 0, .int 0, .int 0, .int 0]))]) [0] (by decide) rfl
  have hKc := hK.sub (tys' := []) [] rfl
  have hFc := va_free (wc := [(q_1, .inr (11, [.int 0, .int 0, .int 0, .int 0]))]) hD hS hA [0] rfl
  refine va_callv (va_runI (As := [.int 5, .int 0, .int x, .int y]) (rest := [.ref q_1]) ⟨hx, hb, hml, hown, hts⟩ (c_h9_X9 l dC dI q_1 5 0 x y H.size) (cwI 4 hts ggX11_heapOfKind_X9_init rfl rfl rfl (hts (.initialized RX9) kc_hok5_3) (hts (.methodLink RX11 292 yX9_init) kc_hok5_4) (hts (.instanceMethod yX9_init) kc_hok5_5) rfl (by decide +kernel) ⟨Nat.le_of_ble_eq_true rfl, Nat.le_of_ble_eq_true rfl⟩) ⟨fun a U g mk q => by obtain ⟨q0, q1, qP, qK, qD⟩ := q; exact ⟨q0, q1, qP, va_K.moved (u := U) (U := U.calling g mk a) (Vm.Alike.refl U.vm) qK, qD⟩, fun U hU hW => ⟨rfl, by rw [hU], by rw [hU]; exact hPc, va_K.moved hW.alike hKc, hDc.weaken (fun _ _ _ _ => trivial)⟩⟩ rfl rfl hl.1 rfl (lv_room (Nat.le_of_ble_eq_true rfl)) dX11_heapOfKind_96 ⟨Nat.le_of_ble_eq_true rfl, Nat.le_of_ble_eq_true rfl⟩) hS (fun q _ h => hFc q h) hFc (fun u tC H1 locs htC hvm hw_3 hB hz1 hk1 hS => ?_)
  obtain ⟨⟩ := u
  try dsimp only at hw_3 hB
  obtain ⟨hP1, hK1, hD1⟩ := hB
  rw [htC] at hP1
  have hK1 := va_K.moved hvm.symm hK1
  obtain ⟨hP, hD⟩ := va_join (wr := []) (w1 := [(q_1, .inr (11, [.int 5, .int 0, .int x, .int y]))]) hP hD [0] [] rfl rfl (by decide) (by decide) hk1 hFc hP1 hD1
  have hK := (hK.sub (tys' := []) [] rfl).app hK1
  generalize H1 = H at hP hS ⊢
  have hP : va_P (dC, dI) vwCl [(q_1, .inr (11, [.int 5, .int 0, .int x, .int y]))] H := hP
  have hD : va_D A [(q_1, .inr (11, [.int 5, .int 0, .int x, .int y]))] := hD
  have hK : va_K (dC, dI) vwCl [] s := hK
  rw [hQ]
  have hP9 := hP.sub (ws' := [(q_1, .inr (11, [.int 5, .int 0, .int x, .int y]))]) [0] rfl
  have hD9 := hD.sub (ws' := [(q_1, .inr (11, [.int 5, .int 0, .int x, .int y]))]) [0] (by decide) rfl
  have hK9 := hK.sub (tys' := []) [] rfl
  exact W.aret (v := .ref q_1) hx hb hr (Or.inl ⟨_, rfl⟩) (Or.inr ⟨_, rfl⟩) (fun tQ htQ hWQ => ⟨⟨some q_1, q_1, rfl, rfl, by rw [htQ]; exact hP9, va_K.moved hWQ.alike hK9, hD9⟩, hS.F htQ⟩) hS.2.2 dX11_heapOfKind_99

theorem kc_hok6_0 : ∀ w ∈ wsX70, w ∈ wsX11_heapOfKind := by decide +kernel
theorem kc_hok6_1 : (.classLink RX11 293 RX7 : Cond) ∈ wsX11_heapOfKind := by decide +kernel
theorem kc_hok6_2 : (.instantiable RX7 4 : Cond) ∈ wsX11_heapOfKind := by decide +kernel
theorem kc_hok6_3 : (.initialized RX7 : Cond) ∈ wsX11_heapOfKind := by decide +kernel
theorem kc_hok6_4 : (.methodLink RX11 295 yX7_init : Cond) ∈ wsX11_heapOfKind := by decide +kernel
theorem kc_hok6_5 : (.instanceMethod yX7_init : Cond) ∈ wsX11_heapOfKind := by decide +kernel
set_option maxHeartbeats 4000000 in
set_option maxRecDepth 100000 in
theorem c_hok6 (l : Launch) (dC : Nat → ClassId) (dI : Nat → Nat → Nat) (x y : Int32) (sz : Nat) : Met l yX11_heapOfKind wsX11_heapOfKind ({ frames := 4, cells := 1, slots := 4, locals := 84 } : Room) (va_Pc [.int 6, .int 0, .int x, .int y] (fun U => U.heap.size = sz ∧ va_P (dC, dI) vwCl [] U.heap ∧ va_K (dC, dI) vwCl [] U ∧ va_D (fun _ => True) [])) (va_Qq (fun (r : Option Nat) (u : Nat) => match u with | qn => r = some qn) (fun (u : Nat) (t : State) => match u with | qn => va_P (dC, dI) vwCl [(qn, .inr (9, [.int 6, .int 0, .int x, .int y]))] t.heap ∧ va_K (dC, dI) vwCl [] t ∧ va_D (va_A [] sz) [(qn, .inr (9, [.int 6, .int 0, .int x, .int y]))]) (va_A [] sz)) 1 4 (va_A [] sz) := by
  refine met_ofQ (cc := cX11_heapOfKind) (maxL := 4) (ret := (some (.object "MistHeaps$Heap"))) (by decide) rfl ?_
  intro p e s m args below meth c s₁ Q B hml hv hQ
  obtain ⟨rfl, hsz, hP, hK, hD0⟩ := hv
  have hx := B.exec
  have hb := B.bytes
  have hr := B.returns
  have hts := atoms_spec (ws := wsX11_heapOfKind) B.pre
  have hown : s.vm.findClass RX11 = some m.cls := findClass_of_methodNamed B.named
  have hlocks := B.notSynchronized
  subst hsz
  have hD := hD0.self (sz := s.heap.size)
  generalize hAe : va_A [] s.heap.size = A at hD hQ ⊢
  have hA : ∀ q : Nat, s.heap.size ≤ q → A q := fun q h => by rw [← hAe]; exact Or.inr h
  have hS : va_S A s.heap s.heap [] := va_S.rf
  have hl := lv_entry [.int 6, .int 0, .int x, .int y] (n := 4) (Nat.le_of_ble_eq_true rfl)
  rw [lg_entry_eq]
  generalize (lg_sl [.int 6, .int 0, .int x, .int y] ++ List.replicate (4 - (lg_sl [.int 6, .int 0, .int x, .int y]).length) Slot.unset).toArray = ls at hl ⊢
  generalize hag : ([.int 6, .int 0, .int x, .int y] : List Value).toArray = args at hts hQ ⊢
  have hl : lv_has ls 4 [(0, .int 6), (1, .int 0), (2, .int x), (3, .int y)] := hl
  obtain ⟨H, hH⟩ : ∃ H : Heap, H = s.heap := ⟨_, rfl⟩
  rw [← hH] at hP
  rw [← hH]
  have hS : va_S A s.heap H [] := by rw [hH]; exact hS
  obtain ⟨locs, hlo⟩ : ∃ L : List Loc, L = [] := ⟨_, rfl⟩
  rw [← hlo] at hS
  rw [← hlo]
  clear hH hlo
  refine lv_iload_n hx hb dX11_heapOfKind_0 rfl (lv_at hl 0 rfl) ?_
  refine lv_tableIn (tgt := 100) hx hb dX11_heapOfKind_1 (by decide) (by decide) rfl (by decide) ?_
  refine va_new (ci := 9) (fs := [.int 0, .int 0, .int 0, .int 0]) (C := RX7) (T := TX7) (N := 4) hx hb hts kc_hok6_0 tyX7 tyX7_ok hown (hts (.classLink RX11 293 RX7) kc_hok6_1) (hts (.instantiable RX7 4) kc_hok6_2) (hts (.initialized RX7) kc_hok6_3) hK hP hD hS hA rfl (fun j hj => by rcases (show j = 0 ∨ j = 1 ∨ j = 2 ∨ j = 3 by omega) with rfl | rfl | rfl | rfl <;> rfl) (Nat.le_of_ble_eq_true rfl) (Nat.le_of_ble_eq_true rfl) dX11_heapOfKind_100 (fun q_1 H hP hD hS => ?_)
  have hP : va_P (dC, dI) vwCl [(q_1, .inr (9, [.int 0, .int 0, .int 0, .int 0]))] H := hP
  have hD : va_D A [(q_1, .inr (9, [.int 0, .int 0, .int 0, .int 0]))] := hD
  refine W.widen (k := 1) (n := 4) (by omega) (by omega) ?_
  refine lv_dup hx hb dX11_heapOfKind_103 rfl ?_
  refine lv_iload_n hx hb dX11_heapOfKind_104 rfl (lv_at hl 0 rfl) ?_
  refine lv_iload_n hx hb dX11_heapOfKind_105 rfl (lv_at hl 1 rfl) ?_
  refine lv_iload_n hx hb dX11_heapOfKind_106 rfl (lv_at hl 2 rfl) ?_
  refine lv_iload_n hx hb dX11_heapOfKind_107 rfl (lv_at hl 3 rfl) ?_
  have hPc := hP.sub (ws' := [(q_1, .inr (9, [.int 0, .int 0, .int 0, .int 0]))]) [0] rfl
  have hDc := hD.sub (ws' := [(q_1, .inr (9, [.int 0, .int 0, .int 0, .int 0]))]) [0] (by decide) rfl
  have hKc := hK.sub (tys' := []) [] rfl
  have hFc := va_free (wc := [(q_1, .inr (9, [.int 0, .int 0, .int 0, .int 0]))]) hD hS hA [0] rfl
  refine va_callv (va_runI (As := [.int 6, .int 0, .int x, .int y]) (rest := [.ref q_1]) ⟨hx, hb, hml, hown, hts⟩ (c_h7_X7 l dC dI q_1 6 0 x y H.size) (cwI 4 hts ggX11_heapOfKind_X7_init rfl rfl rfl (hts (.initialized RX7) kc_hok6_3) (hts (.methodLink RX11 295 yX7_init) kc_hok6_4) (hts (.instanceMethod yX7_init) kc_hok6_5) rfl (by decide +kernel) ⟨Nat.le_of_ble_eq_true rfl, Nat.le_of_ble_eq_true rfl⟩) ⟨fun a U g mk q => by obtain ⟨q0, q1, qP, qK, qD⟩ := q; exact ⟨q0, q1, qP, va_K.moved (u := U) (U := U.calling g mk a) (Vm.Alike.refl U.vm) qK, qD⟩, fun U hU hW => ⟨rfl, by rw [hU], by rw [hU]; exact hPc, va_K.moved hW.alike hKc, hDc.weaken (fun _ _ _ _ => trivial)⟩⟩ rfl rfl hl.1 rfl (lv_room (Nat.le_of_ble_eq_true rfl)) dX11_heapOfKind_108 ⟨Nat.le_of_ble_eq_true rfl, Nat.le_of_ble_eq_true rfl⟩) hS (fun q _ h => hFc q h) hFc (fun u tC H1 locs htC hvm hw_3 hB hz1 hk1 hS => ?_)
  obtain ⟨⟩ := u
  try dsimp only at hw_3 hB
  obtain ⟨hP1, hK1, hD1⟩ := hB
  rw [htC] at hP1
  have hK1 := va_K.moved hvm.symm hK1
  obtain ⟨hP, hD⟩ := va_join (wr := []) (w1 := [(q_1, .inr (9, [.int 6, .int 0, .int x, .int y]))]) hP hD [0] [] rfl rfl (by decide) (by decide) hk1 hFc hP1 hD1
  have hK := (hK.sub (tys' := []) [] rfl).app hK1
  generalize H1 = H at hP hS ⊢
  have hP : va_P (dC, dI) vwCl [(q_1, .inr (9, [.int 6, .int 0, .int x, .int y]))] H := hP
  have hD : va_D A [(q_1, .inr (9, [.int 6, .int 0, .int x, .int y]))] := hD
  have hK : va_K (dC, dI) vwCl [] s := hK
  rw [hQ]
  have hP9 := hP.sub (ws' := [(q_1, .inr (9, [.int 6, .int 0, .int x, .int y]))]) [0] rfl
  have hD9 := hD.sub (ws' := [(q_1, .inr (9, [.int 6, .int 0, .int x, .int y]))]) [0] (by decide) rfl
  have hK9 := hK.sub (tys' := []) [] rfl
  exact W.aret (v := .ref q_1) hx hb hr (Or.inl ⟨_, rfl⟩) (Or.inr ⟨_, rfl⟩) (fun tQ htQ hWQ => ⟨⟨some q_1, q_1, rfl, rfl, by rw [htQ]; exact hP9, va_K.moved hWQ.alike hK9, hD9⟩, hS.F htQ⟩) hS.2.2 dX11_heapOfKind_111

theorem kc_xTaken_0 : ∀ w ∈ wsX80, w ∈ wsX8_isTaken := by decide +kernel
theorem kc_xTaken_1 : (.fieldLink RX8 60 "MistHeaps$Scene" "heapCount" "I" : Cond) ∈ wsX8_isTaken := by decide +kernel
set_option maxHeartbeats 4000000 in
set_option maxRecDepth 100000 in
theorem c_xTaken (l : Launch) (dC : Nat → ClassId) (dI : Nat → Nat → Nat) (sc aTp aHl aHs aWk aBk aFc : Nat) (x : Int32) : Met l yX8_isTaken wsX8_isTaken ({ frames := 0, cells := 0, slots := 0, locals := 0 } : Room) (va_Pc [.ref sc, .int x] (fun U => va_P (dC, dI) vwCl [(sc, .inr (10, [.ref aTp, .int 0, .ref aHl, .int 0, .long 0, .int 0, .int 0, .ref aHs, .int 0, .ref aWk, .int 0, .ref aBk, .int 0, .ref aFc]))] U.heap ∧ va_K (dC, dI) vwCl [] U)) (vp_Si (fun r => r = 0)) 0 0 (fun _ => False) := by
  refine met_ofQ (cc := cX8_isTaken) (maxL := 3) (ret := (some .boolean)) (by decide) rfl ?_
  intro p e s m args below meth c s₁ Q B hml hv hQ
  obtain ⟨rfl, hP, hK⟩ := hv
  have hx := B.exec
  have hb := B.bytes
  have hr := B.returns
  have hts := atoms_spec (ws := wsX8_isTaken) B.pre
  have hown : s.vm.findClass RX8 = some m.cls := findClass_of_methodNamed B.named
  have hlocks := B.notSynchronized
  obtain ⟨A, hAe⟩ : ∃ A : Nat → Prop, A = fun _ => False := ⟨_, rfl⟩
  rw [← hAe] at hQ
  have hS : va_S A s.heap s.heap [] := va_S.rf
  have hl := lv_entry [.ref sc, .int x] (n := 3) (Nat.le_of_ble_eq_true rfl)
  rw [lg_entry_eq]
  generalize (lg_sl [.ref sc, .int x] ++ List.replicate (3 - (lg_sl [.ref sc, .int x]).length) Slot.unset).toArray = ls at hl ⊢
  generalize hag : ([.ref sc, .int x] : List Value).toArray = args at hts hQ ⊢
  have hl : lv_has ls 3 [(0, .ref sc), (1, .int x)] := hl
  refine lv_iconst (v := 0) hx hb dX8_isTaken_0 (by decide) ?_
  refine lv_istore_n (lv' := [(2, .int 0), (0, .ref sc), (1, .int x)]) hx hb dX8_isTaken_1 rfl hl (by decide) rfl (fun ls hl => ?_)
  refine lv_iload_n hx hb dX8_isTaken_2 rfl (lv_at hl 0 rfl) ?_
  refine lv_aload_n hx hb dX8_isTaken_3 rfl (lv_at hl 1 rfl) ?_
  refine va_get (D := (dC, dI)) (ci := 10) (v := .int 0) (C := RX8) (T := TX8) (N := 14) hx hb hts kc_xTaken_0 hown hK hP 0 rfl rfl 8 (by decide) (hts (.fieldLink RX8 60 "MistHeaps$Scene" "heapCount" "I") kc_xTaken_1) (fun _ h9 => h9) rfl dX8_isTaken_4 ?_
  refine lv_icmp_ge (tgt := 31) hx hb dX8_isTaken_7 (by decide) (fun _ => ?_) (fun c_1 => absurd c_1 (by decide))
  refine lv_iconst (v := 0) hx hb dX8_isTaken_31 (by decide) ?_
  rw [hQ]
  exact W.zret (v := 0) hx hb hr rfl (fun tQ htQ hWQ => ⟨0, rfl, rfl, by rw [htQ]⟩) (fun q hq => absurd hq List.not_mem_nil) dX8_isTaken_32

theorem kc_xHeap_0 : ∀ w ∈ wsX110, w ∈ wsX11_heap := by decide +kernel
theorem kc_xHeap_1 : (.fieldLink RX11 14 "MistHeaps" "scene" "LMistHeaps$Scene;" : Cond) ∈ wsX11_heap := by decide +kernel
theorem kc_xHeap_2 : ∀ w ∈ wsX80, w ∈ wsX11_heap := by decide +kernel
theorem kc_xHeap_3 : (.fieldLink RX11 101 "MistHeaps$Scene" "heapCount" "I" : Cond) ∈ wsX11_heap := by decide +kernel
theorem kc_xHeap_4 : (.fieldLink RX11 104 "MistHeaps$Scene" "heaps" "[LMistHeaps$Heap;" : Cond) ∈ wsX11_heap := by decide +kernel
set_option maxHeartbeats 4000000 in
set_option maxRecDepth 100000 in
theorem c_xHeap (l : Launch) (dC : Nat → ClassId) (dI : Nat → Nat → Nat) (bS : Nat) (h0 sc kp bl go ch bo aTp aHl aHs aWk aBk aFc : Nat) (cHs : ClassId) (k v x : Int32) (sz : Nat) : Met l yX11_heap wsX11_heap ({ frames := 5, cells := 1, slots := 4, locals := 107 } : Room) (va_Pc [.ref h0, .int k, .int v, .int x] (fun U => U.heap.size = sz ∧ va_P (dC, dI) vwCl [(h0, .inr (13, [.ref sc, .ref kp, .int 0, .ref bl, .ref go, .ref ch, .ref bo])), (sc, .inr (10, [.ref aTp, .int 0, .ref aHl, .int 0, .long 0, .int 0, .int 0, .ref aHs, .int 0, .ref aWk, .int 0, .ref aBk, .int 0, .ref aFc])), (aHs, .inl (cHs, 8, .inr (.inr (.inr (.inr (fun _ => none))))))] U.heap ∧ va_K (dC, dI) vwCl [(cHs, .object "MistHeaps$Heap")] U ∧ va_D (fun _ => True) [(h0, .inr (13, [.ref sc, .ref kp, .int 0, .ref bl, .ref go, .ref ch, .ref bo])), (sc, .inr (10, [.ref aTp, .int 0, .ref aHl, .int 0, .long 0, .int 0, .int 0, .ref aHs, .int 0, .ref aWk, .int 0, .ref aBk, .int 0, .ref aFc])), (aHs, .inl (cHs, 8, .inr (.inr (.inr (.inr (fun _ => none))))))] ∧ Gc bS (va_A [(h0, .inr (13, [.ref sc, .ref kp, .int 0, .ref bl, .ref go, .ref ch, .ref bo])), (sc, .inr (10, [.ref aTp, .int 0, .ref aHl, .int 0, .long 0, .int 0, .int 0, .ref aHs, .int 0, .ref aWk, .int 0, .ref aBk, .int 0, .ref aFc])), (aHs, .inl (cHs, 8, .inr (.inr (.inr (.inr (fun _ => none))))))] sz) U)) (va_Qi (fun (r : Int32) (u : Unit) => match u with | () => r = f_heap k v x) (fun (u : Unit) (t : State) => match u with | () => True) (va_A [(h0, .inr (13, [.ref sc, .ref kp, .int 0, .ref bl, .ref go, .ref ch, .ref bo])), (sc, .inr (10, [.ref aTp, .int 0, .ref aHl, .int 0, .long 0, .int 0, .int 0, .ref aHs, .int 0, .ref aWk, .int 0, .ref aBk, .int 0, .ref aFc])), (aHs, .inl (cHs, 8, .inr (.inr (.inr (.inr (fun _ => none))))))] sz)) 1 4 (va_A [(h0, .inr (13, [.ref sc, .ref kp, .int 0, .ref bl, .ref go, .ref ch, .ref bo])), (sc, .inr (10, [.ref aTp, .int 0, .ref aHl, .int 0, .long 0, .int 0, .int 0, .ref aHs, .int 0, .ref aWk, .int 0, .ref aBk, .int 0, .ref aFc])), (aHs, .inl (cHs, 8, .inr (.inr (.inr (.inr (fun _ => none))))))] sz) := by
  refine met_ofQ (cc := cX11_heap) (maxL := 4) (ret := (some .int)) (by decide) rfl ?_
  intro p e s m args below meth c s₁ Q B hml hv hQ
  obtain ⟨rfl, hsz, hP, hK, hD0, hC⟩ := hv
  have hx := B.exec
  have hb := B.bytes
  have hr := B.returns
  have hts := atoms_spec (ws := wsX11_heap) B.pre
  have hown : s.vm.findClass RX11 = some m.cls := findClass_of_methodNamed B.named
  have hlocks := B.notSynchronized
  subst hsz
  have hD := hD0.self (sz := s.heap.size)
  generalize hAe : va_A [(h0, .inr (13, [.ref sc, .ref kp, .int 0, .ref bl, .ref go, .ref ch, .ref bo])), (sc, .inr (10, [.ref aTp, .int 0, .ref aHl, .int 0, .long 0, .int 0, .int 0, .ref aHs, .int 0, .ref aWk, .int 0, .ref aBk, .int 0, .ref aFc])), (aHs, .inl (cHs, 8, .inr (.inr (.inr (.inr (fun _ => none))))))] s.heap.size = A at hD hQ hC ⊢
  have hA : ∀ q : Nat, s.heap.size ≤ q → A q := fun q h => by rw [← hAe]; exact Or.inr h
  have hS : va_S A s.heap s.heap [] := va_S.rf
  have hl := lv_entry [.ref h0, .int k, .int v, .int x] (n := 4) (Nat.le_of_ble_eq_true rfl)
  rw [lg_entry_eq]
  generalize (lg_sl [.ref h0, .int k, .int v, .int x] ++ List.replicate (4 - (lg_sl [.ref h0, .int k, .int v, .int x]).length) Slot.unset).toArray = ls at hl ⊢
  generalize hag : ([.ref h0, .int k, .int v, .int x] : List Value).toArray = args at hts hQ ⊢
  have hl : lv_has ls 4 [(0, .ref h0), (1, .int k), (2, .int v), (3, .int x)] := hl
  obtain ⟨H, hH⟩ : ∃ H : Heap, H = s.heap := ⟨_, rfl⟩
  rw [← hH] at hP
  rw [← hH]
  have hS : va_S A s.heap H [] := by rw [hH]; exact hS
  obtain ⟨locs, hlo⟩ : ∃ L : List Loc, L = [] := ⟨_, rfl⟩
  rw [← hlo] at hS
  rw [← hlo]
  clear hH hlo
  refine lv_iload_n hx hb dX11_heap_0 rfl (lv_at hl 1 rfl) ?_
  refine lv_if_lt (tgt := 17) hx hb dX11_heap_1 (by decide) (fun c_1 => ?_) (fun c_1 => ?_)
  · skip
    refine lv_iconst (v := (-1)) hx hb dX11_heap_17 (by decide) ?_
    rw [hQ]
    refine W.widen (k := 1) (n := 4) (by omega) (by omega) ?_
    exact W.iret (v := (-1)) hx hb hr (fun tQ htQ hWQ => ⟨⟨(-1), (), rfl, by simp only [f_heap]; (repeat' split) <;> first | contradiction | rfl | (simp_all; done) | (simp only [← Int32.not_lt] at *; simp_all), trivial⟩, hS.F htQ⟩) hS.2.2 dX11_heap_18
  · skip
    refine lv_iload_n hx hb dX11_heap_4 rfl (lv_at hl 1 rfl) ?_
    refine lv_bipush (v := 7) hx hb dX11_heap_5 (by decide) ?_
    refine lv_icmp_ge (tgt := 17) hx hb dX11_heap_7 (by decide) (fun c_2 => ?_) (fun c_2 => ?_)
    · skip
      rw [le_lt (b := 6) rfl] at c_2
      refine lv_iconst (v := (-1)) hx hb dX11_heap_17 (by decide) ?_
      rw [hQ]
      refine W.widen (k := 1) (n := 4) (by omega) (by omega) ?_
      exact W.iret (v := (-1)) hx hb hr (fun tQ htQ hWQ => ⟨⟨(-1), (), rfl, by simp only [f_heap]; (repeat' split) <;> first | contradiction | rfl | (simp_all; done) | (simp only [← Int32.not_lt] at *; simp_all), trivial⟩, hS.F htQ⟩) hS.2.2 dX11_heap_18
    · skip
      rw [le_lt (b := 6) rfl] at c_2
      refine lv_iload_n hx hb dX11_heap_10 rfl (lv_at hl 3 rfl) ?_
      refine vp_callSi (va_runS (As := [.int x]) (rest := []) ⟨hx, hb, hml, hown, hts⟩ (c_xCell l dC dI x) (va_cwS 1 hts gX11_heap_X11_isCell rfl rfl rfl (by decide +kernel) ⟨Nat.le_of_ble_eq_true rfl, Nat.le_of_ble_eq_true rfl⟩) ⟨fun a U g mk q => ⟨q.1, trivial⟩, fun U hU hW => ⟨rfl, trivial⟩⟩ rfl rfl hl.1 rfl (lv_room (Nat.le_of_ble_eq_true rfl)) dX11_heap_11 ⟨Nat.le_of_ble_eq_true rfl, Nat.le_of_ble_eq_true rfl⟩).run (fun r_3 hw_4 => ?_)
      rcases hw_4 with ⟨rfl, h_5, h_6⟩ | ⟨rfl, h_7⟩
      · skip
        refine lv_if_ne (tgt := 19) hx hb dX11_heap_14 (by decide) (fun _ => ?_) (fun c_8 => absurd c_8 (by decide))
        refine lv_iload_n hx hb dX11_heap_19 rfl (lv_at hl 2 rfl) ?_
        refine lv_if_lt (tgt := 29) hx hb dX11_heap_20 (by decide) (fun c_9 => ?_) (fun c_9 => ?_)
        · skip
          refine lv_bipush (v := (-2)) hx hb dX11_heap_29 (by decide) ?_
          rw [hQ]
          refine W.widen (k := 1) (n := 4) (by omega) (by omega) ?_
          exact W.iret (v := (-2)) hx hb hr (fun tQ htQ hWQ => ⟨⟨(-2), (), rfl, by simp only [f_heap]; (repeat' split) <;> first | contradiction | rfl | (simp_all; done) | (simp only [← Int32.not_lt] at *; simp_all), trivial⟩, hS.F htQ⟩) hS.2.2 dX11_heap_31
        · skip
          refine lv_iload_n hx hb dX11_heap_23 rfl (lv_at hl 2 rfl) ?_
          refine lv_bipush (v := 9) hx hb dX11_heap_24 (by decide) ?_
          refine lv_icmp_le (tgt := 32) hx hb dX11_heap_26 (by decide) (fun c_10 => ?_) (fun c_10 => ?_)
          · skip
            refine lv_aload_n hx hb dX11_heap_32 rfl (lv_at hl 0 rfl) ?_
            refine va_get (D := (dC, dI)) (ci := 13) (v := .ref sc) (C := RX11) (T := TX11) (N := 7) hx hb hts kc_xHeap_0 hown hK hP 0 rfl rfl 0 (by decide) (hts (.fieldLink RX11 14 "MistHeaps" "scene" "LMistHeaps$Scene;") kc_xHeap_1) (fun _ h9 => h9) rfl dX11_heap_33 ?_
            refine lv_iload_n hx hb dX11_heap_36 rfl (lv_at hl 3 rfl) ?_
            have hPc := hP.sub (ws' := [(sc, .inr (10, [.ref aTp, .int 0, .ref aHl, .int 0, .long 0, .int 0, .int 0, .ref aHs, .int 0, .ref aWk, .int 0, .ref aBk, .int 0, .ref aFc]))]) [1] rfl
            have hKc := hK.sub (tys' := []) [] rfl
            refine vp_callSi (va_runV (As := [.int x]) (rest := []) ⟨hx, hb, hml, hown, hts⟩ (c_xTaken l dC dI sc aTp aHl aHs aWk aBk aFc x) (cwV 1 hts gX11_heap_X8_isTaken rfl rfl rfl (by decide +kernel) ⟨Nat.le_of_ble_eq_true rfl, Nat.le_of_ble_eq_true rfl⟩) ⟨fun a U g mk q => by obtain ⟨q0, qP, qK⟩ := q; exact ⟨q0, qP, va_K.moved (u := U) (U := U.calling g mk a) (Vm.Alike.refl U.vm) qK⟩, va_recv hK hP (ci := 10) (q0 := 1) rfl rfl, fun U hU hW => ⟨rfl, by rw [hU]; exact hPc, va_K.moved hW.alike hKc⟩⟩ rfl rfl hl.1 rfl (lv_room (Nat.le_of_ble_eq_true rfl)) dX11_heap_37 ⟨Nat.le_of_ble_eq_true rfl, Nat.le_of_ble_eq_true rfl⟩).run (fun r_11 hw_12 => ?_)
            refine qi_as (y := 0) (hw_12) ?_
            refine lv_if_eq (tgt := 46) hx hb dX11_heap_40 (by decide) (fun _ => ?_) (fun c_13 => absurd c_13 (by decide))
            refine lv_aload_n hx hb dX11_heap_46 rfl (lv_at hl 0 rfl) ?_
            refine va_get (D := (dC, dI)) (ci := 13) (v := .ref sc) (C := RX11) (T := TX11) (N := 7) hx hb hts kc_xHeap_0 hown hK hP 0 rfl rfl 0 (by decide) (hts (.fieldLink RX11 14 "MistHeaps" "scene" "LMistHeaps$Scene;") kc_xHeap_1) (fun _ h9 => h9) rfl dX11_heap_47 ?_
            refine va_get (D := (dC, dI)) (ci := 10) (v := .int 0) (C := RX8) (T := TX8) (N := 14) hx hb hts kc_xHeap_2 hown hK hP 1 rfl rfl 8 (by decide) (hts (.fieldLink RX11 101 "MistHeaps$Scene" "heapCount" "I") kc_xHeap_3) (fun _ h9 => h9) rfl dX11_heap_50 ?_
            refine lv_bipush (v := 8) hx hb dX11_heap_53 (by decide) ?_
            refine lv_icmp_lt (tgt := 61) hx hb dX11_heap_55 (by decide) (fun _ => ?_) (fun c_14 => absurd c_14 (by decide))
            rcases seven (k := k) (by assumption) (by assumption) with rfl | rfl | rfl | rfl | rfl | rfl | rfl
            · skip
              refine lv_aload_n hx hb dX11_heap_61 rfl (lv_at hl 0 rfl) ?_
              refine va_get (D := (dC, dI)) (ci := 13) (v := .ref sc) (C := RX11) (T := TX11) (N := 7) hx hb hts kc_xHeap_0 hown hK hP 0 rfl rfl 0 (by decide) (hts (.fieldLink RX11 14 "MistHeaps" "scene" "LMistHeaps$Scene;") kc_xHeap_1) (fun _ h9 => h9) rfl dX11_heap_62 ?_
              refine va_get (D := (dC, dI)) (ci := 10) (v := .ref aHs) (C := RX8) (T := TX8) (N := 14) hx hb hts kc_xHeap_2 hown hK hP 1 rfl rfl 7 (by decide) (hts (.fieldLink RX11 104 "MistHeaps$Scene" "heaps" "[LMistHeaps$Heap;") kc_xHeap_4) (fun _ h9 => h9) rfl dX11_heap_65 ?_
              refine lv_aload_n hx hb dX11_heap_68 rfl (lv_at hl 0 rfl) ?_
              refine va_get (D := (dC, dI)) (ci := 13) (v := .ref sc) (C := RX11) (T := TX11) (N := 7) hx hb hts kc_xHeap_0 hown hK hP 0 rfl rfl 0 (by decide) (hts (.fieldLink RX11 14 "MistHeaps" "scene" "LMistHeaps$Scene;") kc_xHeap_1) (fun _ h9 => h9) rfl dX11_heap_69 ?_
              refine va_get (D := (dC, dI)) (ci := 10) (v := .int 0) (C := RX8) (T := TX8) (N := 14) hx hb hts kc_xHeap_2 hown hK hP 1 rfl rfl 8 (by decide) (hts (.fieldLink RX11 101 "MistHeaps$Scene" "heapCount" "I") kc_xHeap_3) (fun _ h9 => h9) rfl dX11_heap_72 ?_
              refine lv_iload_n hx hb dX11_heap_75 rfl (lv_at hl 1 rfl) ?_
              refine lv_aload_n hx hb dX11_heap_76 rfl (lv_at hl 0 rfl) ?_
              refine va_get (D := (dC, dI)) (ci := 13) (v := .ref sc) (C := RX11) (T := TX11) (N := 7) hx hb hts kc_xHeap_0 hown hK hP 0 rfl rfl 0 (by decide) (hts (.fieldLink RX11 14 "MistHeaps" "scene" "LMistHeaps$Scene;") kc_xHeap_1) (fun _ h9 => h9) rfl dX11_heap_77 ?_
              refine va_get (D := (dC, dI)) (ci := 10) (v := .int 0) (C := RX8) (T := TX8) (N := 14) hx hb hts kc_xHeap_2 hown hK hP 1 rfl rfl 8 (by decide) (hts (.fieldLink RX11 101 "MistHeaps$Scene" "heapCount" "I") kc_xHeap_3) (fun _ h9 => h9) rfl dX11_heap_80 ?_
              refine lv_iload_n hx hb dX11_heap_83 rfl (lv_at hl 2 rfl) ?_
              refine lv_iload_n hx hb dX11_heap_84 rfl (lv_at hl 3 rfl) ?_
              have hPc := hP.sub (ws' := []) [] rfl
              have hDc := hD.sub (ws' := []) [] (by decide) rfl
              have hKc := hK.sub (tys' := []) [] rfl
              have hFc := va_free (wc := []) hD hS hA [] rfl
              refine va_callq (va_runS (As := [.int 0, .int 0, .int v, .int x]) (rest := [.int 0, .ref aHs]) ⟨hx, hb, hml, hown, hts⟩ (c_hok0 l dC dI v x H.size) (va_cwS 4 hts gX11_heap_X11_heapOfKind rfl rfl rfl (by decide +kernel) ⟨Nat.le_of_ble_eq_true rfl, Nat.le_of_ble_eq_true rfl⟩) ⟨fun a U g mk q => by obtain ⟨q0, q1, qP, qK, qD⟩ := q; exact ⟨q0, q1, qP, va_K.moved (u := U) (U := U.calling g mk a) (Vm.Alike.refl U.vm) qK, qD⟩, fun U hU hW => ⟨rfl, by rw [hU], by rw [hU]; exact hPc, va_K.moved hW.alike hKc, hDc.weaken (fun _ _ _ _ => trivial)⟩⟩ rfl rfl hl.1 rfl (lv_room (Nat.le_of_ble_eq_true rfl)) dX11_heap_85 ⟨Nat.le_of_ble_eq_true rfl, Nat.le_of_ble_eq_true rfl⟩) hS (fun q _ h => hFc q h) hFc (fun r_15 u tC H1 locs htC hvm hw_16 hB hz1 hk1 hS => ?_)
              obtain ⟨qn_17, rfl⟩ : ∃ z, z = u := ⟨_, rfl⟩
              try dsimp only at hw_16 hB
              obtain ⟨hP1, hK1, hD1⟩ := hB
              rw [htC] at hP1
              have hK1 := va_K.moved hvm.symm hK1
              obtain ⟨hP, hD⟩ := va_join (wr := [(h0, .inr (13, [.ref sc, .ref kp, .int 0, .ref bl, .ref go, .ref ch, .ref bo])), (sc, .inr (10, [.ref aTp, .int 0, .ref aHl, .int 0, .long 0, .int 0, .int 0, .ref aHs, .int 0, .ref aWk, .int 0, .ref aBk, .int 0, .ref aFc])), (aHs, .inl (cHs, 8, .inr (.inr (.inr (.inr (fun _ => none))))))]) (w1 := [(qn_17, .inr (5, [.int 0, .int 0, .int v, .int x]))]) hP hD [] [0, 1, 2] rfl rfl (by decide) (by decide) hk1 hFc hP1 hD1
              have hK := (hK.sub (tys' := [(cHs, .object "MistHeaps$Heap")]) [0] rfl).app hK1
              generalize H1 = H at hP hS ⊢
              have hP : va_P (dC, dI) vwCl [(h0, .inr (13, [.ref sc, .ref kp, .int 0, .ref bl, .ref go, .ref ch, .ref bo])), (sc, .inr (10, [.ref aTp, .int 0, .ref aHl, .int 0, .long 0, .int 0, .int 0, .ref aHs, .int 0, .ref aWk, .int 0, .ref aBk, .int 0, .ref aFc])), (aHs, .inl (cHs, 8, .inr (.inr (.inr (.inr (fun _ => none)))))), (qn_17, .inr (5, [.int 0, .int 0, .int v, .int x]))] H := hP
              have hD : va_D A [(h0, .inr (13, [.ref sc, .ref kp, .int 0, .ref bl, .ref go, .ref ch, .ref bo])), (sc, .inr (10, [.ref aTp, .int 0, .ref aHl, .int 0, .long 0, .int 0, .int 0, .ref aHs, .int 0, .ref aWk, .int 0, .ref aBk, .int 0, .ref aFc])), (aHs, .inl (cHs, 8, .inr (.inr (.inr (.inr (fun _ => none)))))), (qn_17, .inr (5, [.int 0, .int 0, .int v, .int x]))] := hD
              have hK : va_K (dC, dI) vwCl [(cHs, .object "MistHeaps$Heap")] s := hK
              refine W.widen (k := 1) (n := 4) (by omega) (by omega) ?_
              refine qq_as (v := .ref qn_17) (by rw [hw_16]; rfl) ?_
              refine va_astq hx hb hK hP hD hS 2 0 3 5 (r := (RX3, TX3, 4)) rfl rfl rfl rfl (vp_in_nI (n := 0) (N := 8) (by omega) (by omega)) dX11_heap_88 (fun H locs hP hD hS => ?_)
              have hP : va_P (dC, dI) vwCl [(h0, .inr (13, [.ref sc, .ref kp, .int 0, .ref bl, .ref go, .ref ch, .ref bo])), (sc, .inr (10, [.ref aTp, .int 0, .ref aHl, .int 0, .long 0, .int 0, .int 0, .ref aHs, .int 0, .ref aWk, .int 0, .ref aBk, .int 0, .ref aFc])), (aHs, .inl (cHs, 8, .inr (.inr (.inr (.inr (va_up (fun _ => none) 0 (some qn_17))))))), (qn_17, .inr (5, [.int 0, .int 0, .int v, .int x]))] H := hP
              have hD : va_D A [(h0, .inr (13, [.ref sc, .ref kp, .int 0, .ref bl, .ref go, .ref ch, .ref bo])), (sc, .inr (10, [.ref aTp, .int 0, .ref aHl, .int 0, .long 0, .int 0, .int 0, .ref aHs, .int 0, .ref aWk, .int 0, .ref aBk, .int 0, .ref aFc])), (aHs, .inl (cHs, 8, .inr (.inr (.inr (.inr (va_up (fun _ => none) 0 (some qn_17))))))), (qn_17, .inr (5, [.int 0, .int 0, .int v, .int x]))] := hD
              refine lv_aload_n hx hb dX11_heap_89 rfl (lv_at hl 0 rfl) ?_
              refine va_get (D := (dC, dI)) (ci := 13) (v := .ref sc) (C := RX11) (T := TX11) (N := 7) hx hb hts kc_xHeap_0 hown hK hP 0 rfl rfl 0 (by decide) (hts (.fieldLink RX11 14 "MistHeaps" "scene" "LMistHeaps$Scene;") kc_xHeap_1) (fun _ h9 => h9) rfl dX11_heap_90 ?_
              refine lv_dup hx hb dX11_heap_93 rfl ?_
              refine va_get (D := (dC, dI)) (ci := 10) (v := .int 0) (C := RX8) (T := TX8) (N := 14) hx hb hts kc_xHeap_2 hown hK hP 1 rfl rfl 8 (by decide) (hts (.fieldLink RX11 101 "MistHeaps$Scene" "heapCount" "I") kc_xHeap_3) (fun _ h9 => h9) rfl dX11_heap_94 ?_
              refine lv_iconst (v := 1) hx hb dX11_heap_97 (by decide) ?_
              refine lv_iadd hx hb dX11_heap_98 ?_
              refine qi_as (y := 1) (by decide) ?_
              refine va_put (D := (dC, dI)) (ci := 10) (v := .int 1) (ty := .int) (C := RX8) (T := TX8) (N := 14) hx hb hts kc_xHeap_2 tyX8 tyX8_ok nmX8 hown hK hP hD hS 1 rfl rfl 8 (by decide) (hts (.fieldLink RX11 101 "MistHeaps$Scene" "heapCount" "I") kc_xHeap_3) (fun _ h9 => h9) rfl (by decide +kernel) rfl rfl (Nat.le_of_ble_eq_true rfl) dX11_heap_99 (fun H locs hP hD hS => ?_)
              have hP : va_P (dC, dI) vwCl [(h0, .inr (13, [.ref sc, .ref kp, .int 0, .ref bl, .ref go, .ref ch, .ref bo])), (sc, .inr (10, [.ref aTp, .int 0, .ref aHl, .int 0, .long 0, .int 0, .int 0, .ref aHs, .int 1, .ref aWk, .int 0, .ref aBk, .int 0, .ref aFc])), (aHs, .inl (cHs, 8, .inr (.inr (.inr (.inr (va_up (fun _ => none) 0 (some qn_17))))))), (qn_17, .inr (5, [.int 0, .int 0, .int v, .int x]))] H := hP
              have hD : va_D A [(h0, .inr (13, [.ref sc, .ref kp, .int 0, .ref bl, .ref go, .ref ch, .ref bo])), (sc, .inr (10, [.ref aTp, .int 0, .ref aHl, .int 0, .long 0, .int 0, .int 0, .ref aHs, .int 1, .ref aWk, .int 0, .ref aBk, .int 0, .ref aFc])), (aHs, .inl (cHs, 8, .inr (.inr (.inr (.inr (va_up (fun _ => none) 0 (some qn_17))))))), (qn_17, .inr (5, [.int 0, .int 0, .int v, .int x]))] := hD
              refine lv_aload_n hx hb dX11_heap_102 rfl (lv_at hl 0 rfl) ?_
              refine va_get (D := (dC, dI)) (ci := 13) (v := .ref sc) (C := RX11) (T := TX11) (N := 7) hx hb hts kc_xHeap_0 hown hK hP 0 rfl rfl 0 (by decide) (hts (.fieldLink RX11 14 "MistHeaps" "scene" "LMistHeaps$Scene;") kc_xHeap_1) (fun _ h9 => h9) rfl dX11_heap_103 ?_
              refine va_get (D := (dC, dI)) (ci := 10) (v := .int 1) (C := RX8) (T := TX8) (N := 14) hx hb hts kc_xHeap_2 hown hK hP 1 rfl rfl 8 (by decide) (hts (.fieldLink RX11 101 "MistHeaps$Scene" "heapCount" "I") kc_xHeap_3) (fun _ h9 => h9) rfl dX11_heap_106 ?_
              refine lv_iconst (v := 1) hx hb dX11_heap_109 (by decide) ?_
              refine lv_isub hx hb dX11_heap_110 ?_
              refine qi_as (y := 0) (by decide) ?_
              rw [hQ]
              refine W.widen (k := 1) (n := 4) (by omega) (by omega) ?_
              exact W.iret (v := 0) hx hb hr (fun tQ htQ hWQ => ⟨⟨0, (), rfl, by simp only [f_heap]; (repeat' split) <;> first | contradiction | rfl | (simp_all; done) | (simp only [← Int32.not_lt] at *; simp_all), trivial⟩, hS.F htQ⟩) hS.2.2 dX11_heap_111
            · skip
              refine lv_aload_n hx hb dX11_heap_61 rfl (lv_at hl 0 rfl) ?_
              refine va_get (D := (dC, dI)) (ci := 13) (v := .ref sc) (C := RX11) (T := TX11) (N := 7) hx hb hts kc_xHeap_0 hown hK hP 0 rfl rfl 0 (by decide) (hts (.fieldLink RX11 14 "MistHeaps" "scene" "LMistHeaps$Scene;") kc_xHeap_1) (fun _ h9 => h9) rfl dX11_heap_62 ?_
              refine va_get (D := (dC, dI)) (ci := 10) (v := .ref aHs) (C := RX8) (T := TX8) (N := 14) hx hb hts kc_xHeap_2 hown hK hP 1 rfl rfl 7 (by decide) (hts (.fieldLink RX11 104 "MistHeaps$Scene" "heaps" "[LMistHeaps$Heap;") kc_xHeap_4) (fun _ h9 => h9) rfl dX11_heap_65 ?_
              refine lv_aload_n hx hb dX11_heap_68 rfl (lv_at hl 0 rfl) ?_
              refine va_get (D := (dC, dI)) (ci := 13) (v := .ref sc) (C := RX11) (T := TX11) (N := 7) hx hb hts kc_xHeap_0 hown hK hP 0 rfl rfl 0 (by decide) (hts (.fieldLink RX11 14 "MistHeaps" "scene" "LMistHeaps$Scene;") kc_xHeap_1) (fun _ h9 => h9) rfl dX11_heap_69 ?_
              refine va_get (D := (dC, dI)) (ci := 10) (v := .int 0) (C := RX8) (T := TX8) (N := 14) hx hb hts kc_xHeap_2 hown hK hP 1 rfl rfl 8 (by decide) (hts (.fieldLink RX11 101 "MistHeaps$Scene" "heapCount" "I") kc_xHeap_3) (fun _ h9 => h9) rfl dX11_heap_72 ?_
              refine lv_iload_n hx hb dX11_heap_75 rfl (lv_at hl 1 rfl) ?_
              refine lv_aload_n hx hb dX11_heap_76 rfl (lv_at hl 0 rfl) ?_
              refine va_get (D := (dC, dI)) (ci := 13) (v := .ref sc) (C := RX11) (T := TX11) (N := 7) hx hb hts kc_xHeap_0 hown hK hP 0 rfl rfl 0 (by decide) (hts (.fieldLink RX11 14 "MistHeaps" "scene" "LMistHeaps$Scene;") kc_xHeap_1) (fun _ h9 => h9) rfl dX11_heap_77 ?_
              refine va_get (D := (dC, dI)) (ci := 10) (v := .int 0) (C := RX8) (T := TX8) (N := 14) hx hb hts kc_xHeap_2 hown hK hP 1 rfl rfl 8 (by decide) (hts (.fieldLink RX11 101 "MistHeaps$Scene" "heapCount" "I") kc_xHeap_3) (fun _ h9 => h9) rfl dX11_heap_80 ?_
              refine lv_iload_n hx hb dX11_heap_83 rfl (lv_at hl 2 rfl) ?_
              refine lv_iload_n hx hb dX11_heap_84 rfl (lv_at hl 3 rfl) ?_
              have hPc := hP.sub (ws' := []) [] rfl
              have hDc := hD.sub (ws' := []) [] (by decide) rfl
              have hKc := hK.sub (tys' := []) [] rfl
              have hFc := va_free (wc := []) hD hS hA [] rfl
              refine va_callq (va_runS (As := [.int 1, .int 0, .int v, .int x]) (rest := [.int 0, .ref aHs]) ⟨hx, hb, hml, hown, hts⟩ (c_hok1 l dC dI v x H.size) (va_cwS 4 hts gX11_heap_X11_heapOfKind rfl rfl rfl (by decide +kernel) ⟨Nat.le_of_ble_eq_true rfl, Nat.le_of_ble_eq_true rfl⟩) ⟨fun a U g mk q => by obtain ⟨q0, q1, qP, qK, qD⟩ := q; exact ⟨q0, q1, qP, va_K.moved (u := U) (U := U.calling g mk a) (Vm.Alike.refl U.vm) qK, qD⟩, fun U hU hW => ⟨rfl, by rw [hU], by rw [hU]; exact hPc, va_K.moved hW.alike hKc, hDc.weaken (fun _ _ _ _ => trivial)⟩⟩ rfl rfl hl.1 rfl (lv_room (Nat.le_of_ble_eq_true rfl)) dX11_heap_85 ⟨Nat.le_of_ble_eq_true rfl, Nat.le_of_ble_eq_true rfl⟩) hS (fun q _ h => hFc q h) hFc (fun r_18 u tC H1 locs htC hvm hw_19 hB hz1 hk1 hS => ?_)
              obtain ⟨qn_20, rfl⟩ : ∃ z, z = u := ⟨_, rfl⟩
              try dsimp only at hw_19 hB
              obtain ⟨hP1, hK1, hD1⟩ := hB
              rw [htC] at hP1
              have hK1 := va_K.moved hvm.symm hK1
              obtain ⟨hP, hD⟩ := va_join (wr := [(h0, .inr (13, [.ref sc, .ref kp, .int 0, .ref bl, .ref go, .ref ch, .ref bo])), (sc, .inr (10, [.ref aTp, .int 0, .ref aHl, .int 0, .long 0, .int 0, .int 0, .ref aHs, .int 0, .ref aWk, .int 0, .ref aBk, .int 0, .ref aFc])), (aHs, .inl (cHs, 8, .inr (.inr (.inr (.inr (fun _ => none))))))]) (w1 := [(qn_20, .inr (6, [.int 1, .int 0, .int v, .int x]))]) hP hD [] [0, 1, 2] rfl rfl (by decide) (by decide) hk1 hFc hP1 hD1
              have hK := (hK.sub (tys' := [(cHs, .object "MistHeaps$Heap")]) [0] rfl).app hK1
              generalize H1 = H at hP hS ⊢
              have hP : va_P (dC, dI) vwCl [(h0, .inr (13, [.ref sc, .ref kp, .int 0, .ref bl, .ref go, .ref ch, .ref bo])), (sc, .inr (10, [.ref aTp, .int 0, .ref aHl, .int 0, .long 0, .int 0, .int 0, .ref aHs, .int 0, .ref aWk, .int 0, .ref aBk, .int 0, .ref aFc])), (aHs, .inl (cHs, 8, .inr (.inr (.inr (.inr (fun _ => none)))))), (qn_20, .inr (6, [.int 1, .int 0, .int v, .int x]))] H := hP
              have hD : va_D A [(h0, .inr (13, [.ref sc, .ref kp, .int 0, .ref bl, .ref go, .ref ch, .ref bo])), (sc, .inr (10, [.ref aTp, .int 0, .ref aHl, .int 0, .long 0, .int 0, .int 0, .ref aHs, .int 0, .ref aWk, .int 0, .ref aBk, .int 0, .ref aFc])), (aHs, .inl (cHs, 8, .inr (.inr (.inr (.inr (fun _ => none)))))), (qn_20, .inr (6, [.int 1, .int 0, .int v, .int x]))] := hD
              have hK : va_K (dC, dI) vwCl [(cHs, .object "MistHeaps$Heap")] s := hK
              refine W.widen (k := 1) (n := 4) (by omega) (by omega) ?_
              refine qq_as (v := .ref qn_20) (by rw [hw_19]; rfl) ?_
              refine va_astqO hx hb hK hP hD hS 2 0 3 6 (r := (RX4, TX4, 4)) rfl rfl (hC.castable (.castable RX4 "MistHeaps$Heap") (by decide +kernel)) rfl rfl (vp_in_nI (n := 0) (N := 8) (by omega) (by omega)) dX11_heap_88 (fun H locs hP hD hS => ?_)
              have hP : va_P (dC, dI) vwCl [(h0, .inr (13, [.ref sc, .ref kp, .int 0, .ref bl, .ref go, .ref ch, .ref bo])), (sc, .inr (10, [.ref aTp, .int 0, .ref aHl, .int 0, .long 0, .int 0, .int 0, .ref aHs, .int 0, .ref aWk, .int 0, .ref aBk, .int 0, .ref aFc])), (aHs, .inl (cHs, 8, .inr (.inr (.inr (.inr (va_up (fun _ => none) 0 (some qn_20))))))), (qn_20, .inr (6, [.int 1, .int 0, .int v, .int x]))] H := hP
              have hD : va_D A [(h0, .inr (13, [.ref sc, .ref kp, .int 0, .ref bl, .ref go, .ref ch, .ref bo])), (sc, .inr (10, [.ref aTp, .int 0, .ref aHl, .int 0, .long 0, .int 0, .int 0, .ref aHs, .int 0, .ref aWk, .int 0, .ref aBk, .int 0, .ref aFc])), (aHs, .inl (cHs, 8, .inr (.inr (.inr (.inr (va_up (fun _ => none) 0 (some qn_20))))))), (qn_20, .inr (6, [.int 1, .int 0, .int v, .int x]))] := hD
              refine lv_aload_n hx hb dX11_heap_89 rfl (lv_at hl 0 rfl) ?_
              refine va_get (D := (dC, dI)) (ci := 13) (v := .ref sc) (C := RX11) (T := TX11) (N := 7) hx hb hts kc_xHeap_0 hown hK hP 0 rfl rfl 0 (by decide) (hts (.fieldLink RX11 14 "MistHeaps" "scene" "LMistHeaps$Scene;") kc_xHeap_1) (fun _ h9 => h9) rfl dX11_heap_90 ?_
              refine lv_dup hx hb dX11_heap_93 rfl ?_
              refine va_get (D := (dC, dI)) (ci := 10) (v := .int 0) (C := RX8) (T := TX8) (N := 14) hx hb hts kc_xHeap_2 hown hK hP 1 rfl rfl 8 (by decide) (hts (.fieldLink RX11 101 "MistHeaps$Scene" "heapCount" "I") kc_xHeap_3) (fun _ h9 => h9) rfl dX11_heap_94 ?_
              refine lv_iconst (v := 1) hx hb dX11_heap_97 (by decide) ?_
              refine lv_iadd hx hb dX11_heap_98 ?_
              refine qi_as (y := 1) (by decide) ?_
              refine va_put (D := (dC, dI)) (ci := 10) (v := .int 1) (ty := .int) (C := RX8) (T := TX8) (N := 14) hx hb hts kc_xHeap_2 tyX8 tyX8_ok nmX8 hown hK hP hD hS 1 rfl rfl 8 (by decide) (hts (.fieldLink RX11 101 "MistHeaps$Scene" "heapCount" "I") kc_xHeap_3) (fun _ h9 => h9) rfl (by decide +kernel) rfl rfl (Nat.le_of_ble_eq_true rfl) dX11_heap_99 (fun H locs hP hD hS => ?_)
              have hP : va_P (dC, dI) vwCl [(h0, .inr (13, [.ref sc, .ref kp, .int 0, .ref bl, .ref go, .ref ch, .ref bo])), (sc, .inr (10, [.ref aTp, .int 0, .ref aHl, .int 0, .long 0, .int 0, .int 0, .ref aHs, .int 1, .ref aWk, .int 0, .ref aBk, .int 0, .ref aFc])), (aHs, .inl (cHs, 8, .inr (.inr (.inr (.inr (va_up (fun _ => none) 0 (some qn_20))))))), (qn_20, .inr (6, [.int 1, .int 0, .int v, .int x]))] H := hP
              have hD : va_D A [(h0, .inr (13, [.ref sc, .ref kp, .int 0, .ref bl, .ref go, .ref ch, .ref bo])), (sc, .inr (10, [.ref aTp, .int 0, .ref aHl, .int 0, .long 0, .int 0, .int 0, .ref aHs, .int 1, .ref aWk, .int 0, .ref aBk, .int 0, .ref aFc])), (aHs, .inl (cHs, 8, .inr (.inr (.inr (.inr (va_up (fun _ => none) 0 (some qn_20))))))), (qn_20, .inr (6, [.int 1, .int 0, .int v, .int x]))] := hD
              refine lv_aload_n hx hb dX11_heap_102 rfl (lv_at hl 0 rfl) ?_
              refine va_get (D := (dC, dI)) (ci := 13) (v := .ref sc) (C := RX11) (T := TX11) (N := 7) hx hb hts kc_xHeap_0 hown hK hP 0 rfl rfl 0 (by decide) (hts (.fieldLink RX11 14 "MistHeaps" "scene" "LMistHeaps$Scene;") kc_xHeap_1) (fun _ h9 => h9) rfl dX11_heap_103 ?_
              refine va_get (D := (dC, dI)) (ci := 10) (v := .int 1) (C := RX8) (T := TX8) (N := 14) hx hb hts kc_xHeap_2 hown hK hP 1 rfl rfl 8 (by decide) (hts (.fieldLink RX11 101 "MistHeaps$Scene" "heapCount" "I") kc_xHeap_3) (fun _ h9 => h9) rfl dX11_heap_106 ?_
              refine lv_iconst (v := 1) hx hb dX11_heap_109 (by decide) ?_
              refine lv_isub hx hb dX11_heap_110 ?_
              refine qi_as (y := 0) (by decide) ?_
              rw [hQ]
              refine W.widen (k := 1) (n := 4) (by omega) (by omega) ?_
              exact W.iret (v := 0) hx hb hr (fun tQ htQ hWQ => ⟨⟨0, (), rfl, by simp only [f_heap]; (repeat' split) <;> first | contradiction | rfl | (simp_all; done) | (simp only [← Int32.not_lt] at *; simp_all), trivial⟩, hS.F htQ⟩) hS.2.2 dX11_heap_111
            · skip
              refine lv_aload_n hx hb dX11_heap_61 rfl (lv_at hl 0 rfl) ?_
              refine va_get (D := (dC, dI)) (ci := 13) (v := .ref sc) (C := RX11) (T := TX11) (N := 7) hx hb hts kc_xHeap_0 hown hK hP 0 rfl rfl 0 (by decide) (hts (.fieldLink RX11 14 "MistHeaps" "scene" "LMistHeaps$Scene;") kc_xHeap_1) (fun _ h9 => h9) rfl dX11_heap_62 ?_
              refine va_get (D := (dC, dI)) (ci := 10) (v := .ref aHs) (C := RX8) (T := TX8) (N := 14) hx hb hts kc_xHeap_2 hown hK hP 1 rfl rfl 7 (by decide) (hts (.fieldLink RX11 104 "MistHeaps$Scene" "heaps" "[LMistHeaps$Heap;") kc_xHeap_4) (fun _ h9 => h9) rfl dX11_heap_65 ?_
              refine lv_aload_n hx hb dX11_heap_68 rfl (lv_at hl 0 rfl) ?_
              refine va_get (D := (dC, dI)) (ci := 13) (v := .ref sc) (C := RX11) (T := TX11) (N := 7) hx hb hts kc_xHeap_0 hown hK hP 0 rfl rfl 0 (by decide) (hts (.fieldLink RX11 14 "MistHeaps" "scene" "LMistHeaps$Scene;") kc_xHeap_1) (fun _ h9 => h9) rfl dX11_heap_69 ?_
              refine va_get (D := (dC, dI)) (ci := 10) (v := .int 0) (C := RX8) (T := TX8) (N := 14) hx hb hts kc_xHeap_2 hown hK hP 1 rfl rfl 8 (by decide) (hts (.fieldLink RX11 101 "MistHeaps$Scene" "heapCount" "I") kc_xHeap_3) (fun _ h9 => h9) rfl dX11_heap_72 ?_
              refine lv_iload_n hx hb dX11_heap_75 rfl (lv_at hl 1 rfl) ?_
              refine lv_aload_n hx hb dX11_heap_76 rfl (lv_at hl 0 rfl) ?_
              refine va_get (D := (dC, dI)) (ci := 13) (v := .ref sc) (C := RX11) (T := TX11) (N := 7) hx hb hts kc_xHeap_0 hown hK hP 0 rfl rfl 0 (by decide) (hts (.fieldLink RX11 14 "MistHeaps" "scene" "LMistHeaps$Scene;") kc_xHeap_1) (fun _ h9 => h9) rfl dX11_heap_77 ?_
              refine va_get (D := (dC, dI)) (ci := 10) (v := .int 0) (C := RX8) (T := TX8) (N := 14) hx hb hts kc_xHeap_2 hown hK hP 1 rfl rfl 8 (by decide) (hts (.fieldLink RX11 101 "MistHeaps$Scene" "heapCount" "I") kc_xHeap_3) (fun _ h9 => h9) rfl dX11_heap_80 ?_
              refine lv_iload_n hx hb dX11_heap_83 rfl (lv_at hl 2 rfl) ?_
              refine lv_iload_n hx hb dX11_heap_84 rfl (lv_at hl 3 rfl) ?_
              have hPc := hP.sub (ws' := []) [] rfl
              have hDc := hD.sub (ws' := []) [] (by decide) rfl
              have hKc := hK.sub (tys' := []) [] rfl
              have hFc := va_free (wc := []) hD hS hA [] rfl
              refine va_callq (va_runS (As := [.int 2, .int 0, .int v, .int x]) (rest := [.int 0, .ref aHs]) ⟨hx, hb, hml, hown, hts⟩ (c_hok2 l dC dI v x H.size) (va_cwS 4 hts gX11_heap_X11_heapOfKind rfl rfl rfl (by decide +kernel) ⟨Nat.le_of_ble_eq_true rfl, Nat.le_of_ble_eq_true rfl⟩) ⟨fun a U g mk q => by obtain ⟨q0, q1, qP, qK, qD⟩ := q; exact ⟨q0, q1, qP, va_K.moved (u := U) (U := U.calling g mk a) (Vm.Alike.refl U.vm) qK, qD⟩, fun U hU hW => ⟨rfl, by rw [hU], by rw [hU]; exact hPc, va_K.moved hW.alike hKc, hDc.weaken (fun _ _ _ _ => trivial)⟩⟩ rfl rfl hl.1 rfl (lv_room (Nat.le_of_ble_eq_true rfl)) dX11_heap_85 ⟨Nat.le_of_ble_eq_true rfl, Nat.le_of_ble_eq_true rfl⟩) hS (fun q _ h => hFc q h) hFc (fun r_21 u tC H1 locs htC hvm hw_22 hB hz1 hk1 hS => ?_)
              obtain ⟨qn_23, rfl⟩ : ∃ z, z = u := ⟨_, rfl⟩
              try dsimp only at hw_22 hB
              obtain ⟨hP1, hK1, hD1⟩ := hB
              rw [htC] at hP1
              have hK1 := va_K.moved hvm.symm hK1
              obtain ⟨hP, hD⟩ := va_join (wr := [(h0, .inr (13, [.ref sc, .ref kp, .int 0, .ref bl, .ref go, .ref ch, .ref bo])), (sc, .inr (10, [.ref aTp, .int 0, .ref aHl, .int 0, .long 0, .int 0, .int 0, .ref aHs, .int 0, .ref aWk, .int 0, .ref aBk, .int 0, .ref aFc])), (aHs, .inl (cHs, 8, .inr (.inr (.inr (.inr (fun _ => none))))))]) (w1 := [(qn_23, .inr (8, [.int 2, .int 0, .int v, .int x]))]) hP hD [] [0, 1, 2] rfl rfl (by decide) (by decide) hk1 hFc hP1 hD1
              have hK := (hK.sub (tys' := [(cHs, .object "MistHeaps$Heap")]) [0] rfl).app hK1
              generalize H1 = H at hP hS ⊢
              have hP : va_P (dC, dI) vwCl [(h0, .inr (13, [.ref sc, .ref kp, .int 0, .ref bl, .ref go, .ref ch, .ref bo])), (sc, .inr (10, [.ref aTp, .int 0, .ref aHl, .int 0, .long 0, .int 0, .int 0, .ref aHs, .int 0, .ref aWk, .int 0, .ref aBk, .int 0, .ref aFc])), (aHs, .inl (cHs, 8, .inr (.inr (.inr (.inr (fun _ => none)))))), (qn_23, .inr (8, [.int 2, .int 0, .int v, .int x]))] H := hP
              have hD : va_D A [(h0, .inr (13, [.ref sc, .ref kp, .int 0, .ref bl, .ref go, .ref ch, .ref bo])), (sc, .inr (10, [.ref aTp, .int 0, .ref aHl, .int 0, .long 0, .int 0, .int 0, .ref aHs, .int 0, .ref aWk, .int 0, .ref aBk, .int 0, .ref aFc])), (aHs, .inl (cHs, 8, .inr (.inr (.inr (.inr (fun _ => none)))))), (qn_23, .inr (8, [.int 2, .int 0, .int v, .int x]))] := hD
              have hK : va_K (dC, dI) vwCl [(cHs, .object "MistHeaps$Heap")] s := hK
              refine W.widen (k := 1) (n := 4) (by omega) (by omega) ?_
              refine qq_as (v := .ref qn_23) (by rw [hw_22]; rfl) ?_
              refine va_astqO hx hb hK hP hD hS 2 0 3 8 (r := (RX6, TX6, 4)) rfl rfl (hC.castable (.castable RX6 "MistHeaps$Heap") (by decide +kernel)) rfl rfl (vp_in_nI (n := 0) (N := 8) (by omega) (by omega)) dX11_heap_88 (fun H locs hP hD hS => ?_)
              have hP : va_P (dC, dI) vwCl [(h0, .inr (13, [.ref sc, .ref kp, .int 0, .ref bl, .ref go, .ref ch, .ref bo])), (sc, .inr (10, [.ref aTp, .int 0, .ref aHl, .int 0, .long 0, .int 0, .int 0, .ref aHs, .int 0, .ref aWk, .int 0, .ref aBk, .int 0, .ref aFc])), (aHs, .inl (cHs, 8, .inr (.inr (.inr (.inr (va_up (fun _ => none) 0 (some qn_23))))))), (qn_23, .inr (8, [.int 2, .int 0, .int v, .int x]))] H := hP
              have hD : va_D A [(h0, .inr (13, [.ref sc, .ref kp, .int 0, .ref bl, .ref go, .ref ch, .ref bo])), (sc, .inr (10, [.ref aTp, .int 0, .ref aHl, .int 0, .long 0, .int 0, .int 0, .ref aHs, .int 0, .ref aWk, .int 0, .ref aBk, .int 0, .ref aFc])), (aHs, .inl (cHs, 8, .inr (.inr (.inr (.inr (va_up (fun _ => none) 0 (some qn_23))))))), (qn_23, .inr (8, [.int 2, .int 0, .int v, .int x]))] := hD
              refine lv_aload_n hx hb dX11_heap_89 rfl (lv_at hl 0 rfl) ?_
              refine va_get (D := (dC, dI)) (ci := 13) (v := .ref sc) (C := RX11) (T := TX11) (N := 7) hx hb hts kc_xHeap_0 hown hK hP 0 rfl rfl 0 (by decide) (hts (.fieldLink RX11 14 "MistHeaps" "scene" "LMistHeaps$Scene;") kc_xHeap_1) (fun _ h9 => h9) rfl dX11_heap_90 ?_
              refine lv_dup hx hb dX11_heap_93 rfl ?_
              refine va_get (D := (dC, dI)) (ci := 10) (v := .int 0) (C := RX8) (T := TX8) (N := 14) hx hb hts kc_xHeap_2 hown hK hP 1 rfl rfl 8 (by decide) (hts (.fieldLink RX11 101 "MistHeaps$Scene" "heapCount" "I") kc_xHeap_3) (fun _ h9 => h9) rfl dX11_heap_94 ?_
              refine lv_iconst (v := 1) hx hb dX11_heap_97 (by decide) ?_
              refine lv_iadd hx hb dX11_heap_98 ?_
              refine qi_as (y := 1) (by decide) ?_
              refine va_put (D := (dC, dI)) (ci := 10) (v := .int 1) (ty := .int) (C := RX8) (T := TX8) (N := 14) hx hb hts kc_xHeap_2 tyX8 tyX8_ok nmX8 hown hK hP hD hS 1 rfl rfl 8 (by decide) (hts (.fieldLink RX11 101 "MistHeaps$Scene" "heapCount" "I") kc_xHeap_3) (fun _ h9 => h9) rfl (by decide +kernel) rfl rfl (Nat.le_of_ble_eq_true rfl) dX11_heap_99 (fun H locs hP hD hS => ?_)
              have hP : va_P (dC, dI) vwCl [(h0, .inr (13, [.ref sc, .ref kp, .int 0, .ref bl, .ref go, .ref ch, .ref bo])), (sc, .inr (10, [.ref aTp, .int 0, .ref aHl, .int 0, .long 0, .int 0, .int 0, .ref aHs, .int 1, .ref aWk, .int 0, .ref aBk, .int 0, .ref aFc])), (aHs, .inl (cHs, 8, .inr (.inr (.inr (.inr (va_up (fun _ => none) 0 (some qn_23))))))), (qn_23, .inr (8, [.int 2, .int 0, .int v, .int x]))] H := hP
              have hD : va_D A [(h0, .inr (13, [.ref sc, .ref kp, .int 0, .ref bl, .ref go, .ref ch, .ref bo])), (sc, .inr (10, [.ref aTp, .int 0, .ref aHl, .int 0, .long 0, .int 0, .int 0, .ref aHs, .int 1, .ref aWk, .int 0, .ref aBk, .int 0, .ref aFc])), (aHs, .inl (cHs, 8, .inr (.inr (.inr (.inr (va_up (fun _ => none) 0 (some qn_23))))))), (qn_23, .inr (8, [.int 2, .int 0, .int v, .int x]))] := hD
              refine lv_aload_n hx hb dX11_heap_102 rfl (lv_at hl 0 rfl) ?_
              refine va_get (D := (dC, dI)) (ci := 13) (v := .ref sc) (C := RX11) (T := TX11) (N := 7) hx hb hts kc_xHeap_0 hown hK hP 0 rfl rfl 0 (by decide) (hts (.fieldLink RX11 14 "MistHeaps" "scene" "LMistHeaps$Scene;") kc_xHeap_1) (fun _ h9 => h9) rfl dX11_heap_103 ?_
              refine va_get (D := (dC, dI)) (ci := 10) (v := .int 1) (C := RX8) (T := TX8) (N := 14) hx hb hts kc_xHeap_2 hown hK hP 1 rfl rfl 8 (by decide) (hts (.fieldLink RX11 101 "MistHeaps$Scene" "heapCount" "I") kc_xHeap_3) (fun _ h9 => h9) rfl dX11_heap_106 ?_
              refine lv_iconst (v := 1) hx hb dX11_heap_109 (by decide) ?_
              refine lv_isub hx hb dX11_heap_110 ?_
              refine qi_as (y := 0) (by decide) ?_
              rw [hQ]
              refine W.widen (k := 1) (n := 4) (by omega) (by omega) ?_
              exact W.iret (v := 0) hx hb hr (fun tQ htQ hWQ => ⟨⟨0, (), rfl, by simp only [f_heap]; (repeat' split) <;> first | contradiction | rfl | (simp_all; done) | (simp only [← Int32.not_lt] at *; simp_all), trivial⟩, hS.F htQ⟩) hS.2.2 dX11_heap_111
            · skip
              refine lv_aload_n hx hb dX11_heap_61 rfl (lv_at hl 0 rfl) ?_
              refine va_get (D := (dC, dI)) (ci := 13) (v := .ref sc) (C := RX11) (T := TX11) (N := 7) hx hb hts kc_xHeap_0 hown hK hP 0 rfl rfl 0 (by decide) (hts (.fieldLink RX11 14 "MistHeaps" "scene" "LMistHeaps$Scene;") kc_xHeap_1) (fun _ h9 => h9) rfl dX11_heap_62 ?_
              refine va_get (D := (dC, dI)) (ci := 10) (v := .ref aHs) (C := RX8) (T := TX8) (N := 14) hx hb hts kc_xHeap_2 hown hK hP 1 rfl rfl 7 (by decide) (hts (.fieldLink RX11 104 "MistHeaps$Scene" "heaps" "[LMistHeaps$Heap;") kc_xHeap_4) (fun _ h9 => h9) rfl dX11_heap_65 ?_
              refine lv_aload_n hx hb dX11_heap_68 rfl (lv_at hl 0 rfl) ?_
              refine va_get (D := (dC, dI)) (ci := 13) (v := .ref sc) (C := RX11) (T := TX11) (N := 7) hx hb hts kc_xHeap_0 hown hK hP 0 rfl rfl 0 (by decide) (hts (.fieldLink RX11 14 "MistHeaps" "scene" "LMistHeaps$Scene;") kc_xHeap_1) (fun _ h9 => h9) rfl dX11_heap_69 ?_
              refine va_get (D := (dC, dI)) (ci := 10) (v := .int 0) (C := RX8) (T := TX8) (N := 14) hx hb hts kc_xHeap_2 hown hK hP 1 rfl rfl 8 (by decide) (hts (.fieldLink RX11 101 "MistHeaps$Scene" "heapCount" "I") kc_xHeap_3) (fun _ h9 => h9) rfl dX11_heap_72 ?_
              refine lv_iload_n hx hb dX11_heap_75 rfl (lv_at hl 1 rfl) ?_
              refine lv_aload_n hx hb dX11_heap_76 rfl (lv_at hl 0 rfl) ?_
              refine va_get (D := (dC, dI)) (ci := 13) (v := .ref sc) (C := RX11) (T := TX11) (N := 7) hx hb hts kc_xHeap_0 hown hK hP 0 rfl rfl 0 (by decide) (hts (.fieldLink RX11 14 "MistHeaps" "scene" "LMistHeaps$Scene;") kc_xHeap_1) (fun _ h9 => h9) rfl dX11_heap_77 ?_
              refine va_get (D := (dC, dI)) (ci := 10) (v := .int 0) (C := RX8) (T := TX8) (N := 14) hx hb hts kc_xHeap_2 hown hK hP 1 rfl rfl 8 (by decide) (hts (.fieldLink RX11 101 "MistHeaps$Scene" "heapCount" "I") kc_xHeap_3) (fun _ h9 => h9) rfl dX11_heap_80 ?_
              refine lv_iload_n hx hb dX11_heap_83 rfl (lv_at hl 2 rfl) ?_
              refine lv_iload_n hx hb dX11_heap_84 rfl (lv_at hl 3 rfl) ?_
              have hPc := hP.sub (ws' := []) [] rfl
              have hDc := hD.sub (ws' := []) [] (by decide) rfl
              have hKc := hK.sub (tys' := []) [] rfl
              have hFc := va_free (wc := []) hD hS hA [] rfl
              refine va_callq (va_runS (As := [.int 3, .int 0, .int v, .int x]) (rest := [.int 0, .ref aHs]) ⟨hx, hb, hml, hown, hts⟩ (c_hok3 l dC dI v x H.size) (va_cwS 4 hts gX11_heap_X11_heapOfKind rfl rfl rfl (by decide +kernel) ⟨Nat.le_of_ble_eq_true rfl, Nat.le_of_ble_eq_true rfl⟩) ⟨fun a U g mk q => by obtain ⟨q0, q1, qP, qK, qD⟩ := q; exact ⟨q0, q1, qP, va_K.moved (u := U) (U := U.calling g mk a) (Vm.Alike.refl U.vm) qK, qD⟩, fun U hU hW => ⟨rfl, by rw [hU], by rw [hU]; exact hPc, va_K.moved hW.alike hKc, hDc.weaken (fun _ _ _ _ => trivial)⟩⟩ rfl rfl hl.1 rfl (lv_room (Nat.le_of_ble_eq_true rfl)) dX11_heap_85 ⟨Nat.le_of_ble_eq_true rfl, Nat.le_of_ble_eq_true rfl⟩) hS (fun q _ h => hFc q h) hFc (fun r_24 u tC H1 locs htC hvm hw_25 hB hz1 hk1 hS => ?_)
              obtain ⟨qn_26, rfl⟩ : ∃ z, z = u := ⟨_, rfl⟩
              try dsimp only at hw_25 hB
              obtain ⟨hP1, hK1, hD1⟩ := hB
              rw [htC] at hP1
              have hK1 := va_K.moved hvm.symm hK1
              obtain ⟨hP, hD⟩ := va_join (wr := [(h0, .inr (13, [.ref sc, .ref kp, .int 0, .ref bl, .ref go, .ref ch, .ref bo])), (sc, .inr (10, [.ref aTp, .int 0, .ref aHl, .int 0, .long 0, .int 0, .int 0, .ref aHs, .int 0, .ref aWk, .int 0, .ref aBk, .int 0, .ref aFc])), (aHs, .inl (cHs, 8, .inr (.inr (.inr (.inr (fun _ => none))))))]) (w1 := [(qn_26, .inr (3, [.int 3, .int 0, .int v, .int x]))]) hP hD [] [0, 1, 2] rfl rfl (by decide) (by decide) hk1 hFc hP1 hD1
              have hK := (hK.sub (tys' := [(cHs, .object "MistHeaps$Heap")]) [0] rfl).app hK1
              generalize H1 = H at hP hS ⊢
              have hP : va_P (dC, dI) vwCl [(h0, .inr (13, [.ref sc, .ref kp, .int 0, .ref bl, .ref go, .ref ch, .ref bo])), (sc, .inr (10, [.ref aTp, .int 0, .ref aHl, .int 0, .long 0, .int 0, .int 0, .ref aHs, .int 0, .ref aWk, .int 0, .ref aBk, .int 0, .ref aFc])), (aHs, .inl (cHs, 8, .inr (.inr (.inr (.inr (fun _ => none)))))), (qn_26, .inr (3, [.int 3, .int 0, .int v, .int x]))] H := hP
              have hD : va_D A [(h0, .inr (13, [.ref sc, .ref kp, .int 0, .ref bl, .ref go, .ref ch, .ref bo])), (sc, .inr (10, [.ref aTp, .int 0, .ref aHl, .int 0, .long 0, .int 0, .int 0, .ref aHs, .int 0, .ref aWk, .int 0, .ref aBk, .int 0, .ref aFc])), (aHs, .inl (cHs, 8, .inr (.inr (.inr (.inr (fun _ => none)))))), (qn_26, .inr (3, [.int 3, .int 0, .int v, .int x]))] := hD
              have hK : va_K (dC, dI) vwCl [(cHs, .object "MistHeaps$Heap")] s := hK
              refine W.widen (k := 1) (n := 4) (by omega) (by omega) ?_
              refine qq_as (v := .ref qn_26) (by rw [hw_25]; rfl) ?_
              refine va_astqO hx hb hK hP hD hS 2 0 3 3 (r := (RX1, TX1, 4)) rfl rfl (hC.castable (.castable RX1 "MistHeaps$Heap") (by decide +kernel)) rfl rfl (vp_in_nI (n := 0) (N := 8) (by omega) (by omega)) dX11_heap_88 (fun H locs hP hD hS => ?_)
              have hP : va_P (dC, dI) vwCl [(h0, .inr (13, [.ref sc, .ref kp, .int 0, .ref bl, .ref go, .ref ch, .ref bo])), (sc, .inr (10, [.ref aTp, .int 0, .ref aHl, .int 0, .long 0, .int 0, .int 0, .ref aHs, .int 0, .ref aWk, .int 0, .ref aBk, .int 0, .ref aFc])), (aHs, .inl (cHs, 8, .inr (.inr (.inr (.inr (va_up (fun _ => none) 0 (some qn_26))))))), (qn_26, .inr (3, [.int 3, .int 0, .int v, .int x]))] H := hP
              have hD : va_D A [(h0, .inr (13, [.ref sc, .ref kp, .int 0, .ref bl, .ref go, .ref ch, .ref bo])), (sc, .inr (10, [.ref aTp, .int 0, .ref aHl, .int 0, .long 0, .int 0, .int 0, .ref aHs, .int 0, .ref aWk, .int 0, .ref aBk, .int 0, .ref aFc])), (aHs, .inl (cHs, 8, .inr (.inr (.inr (.inr (va_up (fun _ => none) 0 (some qn_26))))))), (qn_26, .inr (3, [.int 3, .int 0, .int v, .int x]))] := hD
              refine lv_aload_n hx hb dX11_heap_89 rfl (lv_at hl 0 rfl) ?_
              refine va_get (D := (dC, dI)) (ci := 13) (v := .ref sc) (C := RX11) (T := TX11) (N := 7) hx hb hts kc_xHeap_0 hown hK hP 0 rfl rfl 0 (by decide) (hts (.fieldLink RX11 14 "MistHeaps" "scene" "LMistHeaps$Scene;") kc_xHeap_1) (fun _ h9 => h9) rfl dX11_heap_90 ?_
              refine lv_dup hx hb dX11_heap_93 rfl ?_
              refine va_get (D := (dC, dI)) (ci := 10) (v := .int 0) (C := RX8) (T := TX8) (N := 14) hx hb hts kc_xHeap_2 hown hK hP 1 rfl rfl 8 (by decide) (hts (.fieldLink RX11 101 "MistHeaps$Scene" "heapCount" "I") kc_xHeap_3) (fun _ h9 => h9) rfl dX11_heap_94 ?_
              refine lv_iconst (v := 1) hx hb dX11_heap_97 (by decide) ?_
              refine lv_iadd hx hb dX11_heap_98 ?_
              refine qi_as (y := 1) (by decide) ?_
              refine va_put (D := (dC, dI)) (ci := 10) (v := .int 1) (ty := .int) (C := RX8) (T := TX8) (N := 14) hx hb hts kc_xHeap_2 tyX8 tyX8_ok nmX8 hown hK hP hD hS 1 rfl rfl 8 (by decide) (hts (.fieldLink RX11 101 "MistHeaps$Scene" "heapCount" "I") kc_xHeap_3) (fun _ h9 => h9) rfl (by decide +kernel) rfl rfl (Nat.le_of_ble_eq_true rfl) dX11_heap_99 (fun H locs hP hD hS => ?_)
              have hP : va_P (dC, dI) vwCl [(h0, .inr (13, [.ref sc, .ref kp, .int 0, .ref bl, .ref go, .ref ch, .ref bo])), (sc, .inr (10, [.ref aTp, .int 0, .ref aHl, .int 0, .long 0, .int 0, .int 0, .ref aHs, .int 1, .ref aWk, .int 0, .ref aBk, .int 0, .ref aFc])), (aHs, .inl (cHs, 8, .inr (.inr (.inr (.inr (va_up (fun _ => none) 0 (some qn_26))))))), (qn_26, .inr (3, [.int 3, .int 0, .int v, .int x]))] H := hP
              have hD : va_D A [(h0, .inr (13, [.ref sc, .ref kp, .int 0, .ref bl, .ref go, .ref ch, .ref bo])), (sc, .inr (10, [.ref aTp, .int 0, .ref aHl, .int 0, .long 0, .int 0, .int 0, .ref aHs, .int 1, .ref aWk, .int 0, .ref aBk, .int 0, .ref aFc])), (aHs, .inl (cHs, 8, .inr (.inr (.inr (.inr (va_up (fun _ => none) 0 (some qn_26))))))), (qn_26, .inr (3, [.int 3, .int 0, .int v, .int x]))] := hD
              refine lv_aload_n hx hb dX11_heap_102 rfl (lv_at hl 0 rfl) ?_
              refine va_get (D := (dC, dI)) (ci := 13) (v := .ref sc) (C := RX11) (T := TX11) (N := 7) hx hb hts kc_xHeap_0 hown hK hP 0 rfl rfl 0 (by decide) (hts (.fieldLink RX11 14 "MistHeaps" "scene" "LMistHeaps$Scene;") kc_xHeap_1) (fun _ h9 => h9) rfl dX11_heap_103 ?_
              refine va_get (D := (dC, dI)) (ci := 10) (v := .int 1) (C := RX8) (T := TX8) (N := 14) hx hb hts kc_xHeap_2 hown hK hP 1 rfl rfl 8 (by decide) (hts (.fieldLink RX11 101 "MistHeaps$Scene" "heapCount" "I") kc_xHeap_3) (fun _ h9 => h9) rfl dX11_heap_106 ?_
              refine lv_iconst (v := 1) hx hb dX11_heap_109 (by decide) ?_
              refine lv_isub hx hb dX11_heap_110 ?_
              refine qi_as (y := 0) (by decide) ?_
              rw [hQ]
              refine W.widen (k := 1) (n := 4) (by omega) (by omega) ?_
              exact W.iret (v := 0) hx hb hr (fun tQ htQ hWQ => ⟨⟨0, (), rfl, by simp only [f_heap]; (repeat' split) <;> first | contradiction | rfl | (simp_all; done) | (simp only [← Int32.not_lt] at *; simp_all), trivial⟩, hS.F htQ⟩) hS.2.2 dX11_heap_111
            · skip
              refine lv_aload_n hx hb dX11_heap_61 rfl (lv_at hl 0 rfl) ?_
              refine va_get (D := (dC, dI)) (ci := 13) (v := .ref sc) (C := RX11) (T := TX11) (N := 7) hx hb hts kc_xHeap_0 hown hK hP 0 rfl rfl 0 (by decide) (hts (.fieldLink RX11 14 "MistHeaps" "scene" "LMistHeaps$Scene;") kc_xHeap_1) (fun _ h9 => h9) rfl dX11_heap_62 ?_
              refine va_get (D := (dC, dI)) (ci := 10) (v := .ref aHs) (C := RX8) (T := TX8) (N := 14) hx hb hts kc_xHeap_2 hown hK hP 1 rfl rfl 7 (by decide) (hts (.fieldLink RX11 104 "MistHeaps$Scene" "heaps" "[LMistHeaps$Heap;") kc_xHeap_4) (fun _ h9 => h9) rfl dX11_heap_65 ?_
              refine lv_aload_n hx hb dX11_heap_68 rfl (lv_at hl 0 rfl) ?_
              refine va_get (D := (dC, dI)) (ci := 13) (v := .ref sc) (C := RX11) (T := TX11) (N := 7) hx hb hts kc_xHeap_0 hown hK hP 0 rfl rfl 0 (by decide) (hts (.fieldLink RX11 14 "MistHeaps" "scene" "LMistHeaps$Scene;") kc_xHeap_1) (fun _ h9 => h9) rfl dX11_heap_69 ?_
              refine va_get (D := (dC, dI)) (ci := 10) (v := .int 0) (C := RX8) (T := TX8) (N := 14) hx hb hts kc_xHeap_2 hown hK hP 1 rfl rfl 8 (by decide) (hts (.fieldLink RX11 101 "MistHeaps$Scene" "heapCount" "I") kc_xHeap_3) (fun _ h9 => h9) rfl dX11_heap_72 ?_
              refine lv_iload_n hx hb dX11_heap_75 rfl (lv_at hl 1 rfl) ?_
              refine lv_aload_n hx hb dX11_heap_76 rfl (lv_at hl 0 rfl) ?_
              refine va_get (D := (dC, dI)) (ci := 13) (v := .ref sc) (C := RX11) (T := TX11) (N := 7) hx hb hts kc_xHeap_0 hown hK hP 0 rfl rfl 0 (by decide) (hts (.fieldLink RX11 14 "MistHeaps" "scene" "LMistHeaps$Scene;") kc_xHeap_1) (fun _ h9 => h9) rfl dX11_heap_77 ?_
              refine va_get (D := (dC, dI)) (ci := 10) (v := .int 0) (C := RX8) (T := TX8) (N := 14) hx hb hts kc_xHeap_2 hown hK hP 1 rfl rfl 8 (by decide) (hts (.fieldLink RX11 101 "MistHeaps$Scene" "heapCount" "I") kc_xHeap_3) (fun _ h9 => h9) rfl dX11_heap_80 ?_
              refine lv_iload_n hx hb dX11_heap_83 rfl (lv_at hl 2 rfl) ?_
              refine lv_iload_n hx hb dX11_heap_84 rfl (lv_at hl 3 rfl) ?_
              have hPc := hP.sub (ws' := []) [] rfl
              have hDc := hD.sub (ws' := []) [] (by decide) rfl
              have hKc := hK.sub (tys' := []) [] rfl
              have hFc := va_free (wc := []) hD hS hA [] rfl
              refine va_callq (va_runS (As := [.int 4, .int 0, .int v, .int x]) (rest := [.int 0, .ref aHs]) ⟨hx, hb, hml, hown, hts⟩ (c_hok4 l dC dI v x H.size) (va_cwS 4 hts gX11_heap_X11_heapOfKind rfl rfl rfl (by decide +kernel) ⟨Nat.le_of_ble_eq_true rfl, Nat.le_of_ble_eq_true rfl⟩) ⟨fun a U g mk q => by obtain ⟨q0, q1, qP, qK, qD⟩ := q; exact ⟨q0, q1, qP, va_K.moved (u := U) (U := U.calling g mk a) (Vm.Alike.refl U.vm) qK, qD⟩, fun U hU hW => ⟨rfl, by rw [hU], by rw [hU]; exact hPc, va_K.moved hW.alike hKc, hDc.weaken (fun _ _ _ _ => trivial)⟩⟩ rfl rfl hl.1 rfl (lv_room (Nat.le_of_ble_eq_true rfl)) dX11_heap_85 ⟨Nat.le_of_ble_eq_true rfl, Nat.le_of_ble_eq_true rfl⟩) hS (fun q _ h => hFc q h) hFc (fun r_27 u tC H1 locs htC hvm hw_28 hB hz1 hk1 hS => ?_)
              obtain ⟨qn_29, rfl⟩ : ∃ z, z = u := ⟨_, rfl⟩
              try dsimp only at hw_28 hB
              obtain ⟨hP1, hK1, hD1⟩ := hB
              rw [htC] at hP1
              have hK1 := va_K.moved hvm.symm hK1
              obtain ⟨hP, hD⟩ := va_join (wr := [(h0, .inr (13, [.ref sc, .ref kp, .int 0, .ref bl, .ref go, .ref ch, .ref bo])), (sc, .inr (10, [.ref aTp, .int 0, .ref aHl, .int 0, .long 0, .int 0, .int 0, .ref aHs, .int 0, .ref aWk, .int 0, .ref aBk, .int 0, .ref aFc])), (aHs, .inl (cHs, 8, .inr (.inr (.inr (.inr (fun _ => none))))))]) (w1 := [(qn_29, .inr (12, [.int 4, .int 0, .int v, .int x]))]) hP hD [] [0, 1, 2] rfl rfl (by decide) (by decide) hk1 hFc hP1 hD1
              have hK := (hK.sub (tys' := [(cHs, .object "MistHeaps$Heap")]) [0] rfl).app hK1
              generalize H1 = H at hP hS ⊢
              have hP : va_P (dC, dI) vwCl [(h0, .inr (13, [.ref sc, .ref kp, .int 0, .ref bl, .ref go, .ref ch, .ref bo])), (sc, .inr (10, [.ref aTp, .int 0, .ref aHl, .int 0, .long 0, .int 0, .int 0, .ref aHs, .int 0, .ref aWk, .int 0, .ref aBk, .int 0, .ref aFc])), (aHs, .inl (cHs, 8, .inr (.inr (.inr (.inr (fun _ => none)))))), (qn_29, .inr (12, [.int 4, .int 0, .int v, .int x]))] H := hP
              have hD : va_D A [(h0, .inr (13, [.ref sc, .ref kp, .int 0, .ref bl, .ref go, .ref ch, .ref bo])), (sc, .inr (10, [.ref aTp, .int 0, .ref aHl, .int 0, .long 0, .int 0, .int 0, .ref aHs, .int 0, .ref aWk, .int 0, .ref aBk, .int 0, .ref aFc])), (aHs, .inl (cHs, 8, .inr (.inr (.inr (.inr (fun _ => none)))))), (qn_29, .inr (12, [.int 4, .int 0, .int v, .int x]))] := hD
              have hK : va_K (dC, dI) vwCl [(cHs, .object "MistHeaps$Heap")] s := hK
              refine W.widen (k := 1) (n := 4) (by omega) (by omega) ?_
              refine qq_as (v := .ref qn_29) (by rw [hw_28]; rfl) ?_
              refine va_astqO hx hb hK hP hD hS 2 0 3 12 (r := (RX10, TX10, 4)) rfl rfl (hC.castable (.castable RX10 "MistHeaps$Heap") (by decide +kernel)) rfl rfl (vp_in_nI (n := 0) (N := 8) (by omega) (by omega)) dX11_heap_88 (fun H locs hP hD hS => ?_)
              have hP : va_P (dC, dI) vwCl [(h0, .inr (13, [.ref sc, .ref kp, .int 0, .ref bl, .ref go, .ref ch, .ref bo])), (sc, .inr (10, [.ref aTp, .int 0, .ref aHl, .int 0, .long 0, .int 0, .int 0, .ref aHs, .int 0, .ref aWk, .int 0, .ref aBk, .int 0, .ref aFc])), (aHs, .inl (cHs, 8, .inr (.inr (.inr (.inr (va_up (fun _ => none) 0 (some qn_29))))))), (qn_29, .inr (12, [.int 4, .int 0, .int v, .int x]))] H := hP
              have hD : va_D A [(h0, .inr (13, [.ref sc, .ref kp, .int 0, .ref bl, .ref go, .ref ch, .ref bo])), (sc, .inr (10, [.ref aTp, .int 0, .ref aHl, .int 0, .long 0, .int 0, .int 0, .ref aHs, .int 0, .ref aWk, .int 0, .ref aBk, .int 0, .ref aFc])), (aHs, .inl (cHs, 8, .inr (.inr (.inr (.inr (va_up (fun _ => none) 0 (some qn_29))))))), (qn_29, .inr (12, [.int 4, .int 0, .int v, .int x]))] := hD
              refine lv_aload_n hx hb dX11_heap_89 rfl (lv_at hl 0 rfl) ?_
              refine va_get (D := (dC, dI)) (ci := 13) (v := .ref sc) (C := RX11) (T := TX11) (N := 7) hx hb hts kc_xHeap_0 hown hK hP 0 rfl rfl 0 (by decide) (hts (.fieldLink RX11 14 "MistHeaps" "scene" "LMistHeaps$Scene;") kc_xHeap_1) (fun _ h9 => h9) rfl dX11_heap_90 ?_
              refine lv_dup hx hb dX11_heap_93 rfl ?_
              refine va_get (D := (dC, dI)) (ci := 10) (v := .int 0) (C := RX8) (T := TX8) (N := 14) hx hb hts kc_xHeap_2 hown hK hP 1 rfl rfl 8 (by decide) (hts (.fieldLink RX11 101 "MistHeaps$Scene" "heapCount" "I") kc_xHeap_3) (fun _ h9 => h9) rfl dX11_heap_94 ?_
              refine lv_iconst (v := 1) hx hb dX11_heap_97 (by decide) ?_
              refine lv_iadd hx hb dX11_heap_98 ?_
              refine qi_as (y := 1) (by decide) ?_
              refine va_put (D := (dC, dI)) (ci := 10) (v := .int 1) (ty := .int) (C := RX8) (T := TX8) (N := 14) hx hb hts kc_xHeap_2 tyX8 tyX8_ok nmX8 hown hK hP hD hS 1 rfl rfl 8 (by decide) (hts (.fieldLink RX11 101 "MistHeaps$Scene" "heapCount" "I") kc_xHeap_3) (fun _ h9 => h9) rfl (by decide +kernel) rfl rfl (Nat.le_of_ble_eq_true rfl) dX11_heap_99 (fun H locs hP hD hS => ?_)
              have hP : va_P (dC, dI) vwCl [(h0, .inr (13, [.ref sc, .ref kp, .int 0, .ref bl, .ref go, .ref ch, .ref bo])), (sc, .inr (10, [.ref aTp, .int 0, .ref aHl, .int 0, .long 0, .int 0, .int 0, .ref aHs, .int 1, .ref aWk, .int 0, .ref aBk, .int 0, .ref aFc])), (aHs, .inl (cHs, 8, .inr (.inr (.inr (.inr (va_up (fun _ => none) 0 (some qn_29))))))), (qn_29, .inr (12, [.int 4, .int 0, .int v, .int x]))] H := hP
              have hD : va_D A [(h0, .inr (13, [.ref sc, .ref kp, .int 0, .ref bl, .ref go, .ref ch, .ref bo])), (sc, .inr (10, [.ref aTp, .int 0, .ref aHl, .int 0, .long 0, .int 0, .int 0, .ref aHs, .int 1, .ref aWk, .int 0, .ref aBk, .int 0, .ref aFc])), (aHs, .inl (cHs, 8, .inr (.inr (.inr (.inr (va_up (fun _ => none) 0 (some qn_29))))))), (qn_29, .inr (12, [.int 4, .int 0, .int v, .int x]))] := hD
              refine lv_aload_n hx hb dX11_heap_102 rfl (lv_at hl 0 rfl) ?_
              refine va_get (D := (dC, dI)) (ci := 13) (v := .ref sc) (C := RX11) (T := TX11) (N := 7) hx hb hts kc_xHeap_0 hown hK hP 0 rfl rfl 0 (by decide) (hts (.fieldLink RX11 14 "MistHeaps" "scene" "LMistHeaps$Scene;") kc_xHeap_1) (fun _ h9 => h9) rfl dX11_heap_103 ?_
              refine va_get (D := (dC, dI)) (ci := 10) (v := .int 1) (C := RX8) (T := TX8) (N := 14) hx hb hts kc_xHeap_2 hown hK hP 1 rfl rfl 8 (by decide) (hts (.fieldLink RX11 101 "MistHeaps$Scene" "heapCount" "I") kc_xHeap_3) (fun _ h9 => h9) rfl dX11_heap_106 ?_
              refine lv_iconst (v := 1) hx hb dX11_heap_109 (by decide) ?_
              refine lv_isub hx hb dX11_heap_110 ?_
              refine qi_as (y := 0) (by decide) ?_
              rw [hQ]
              refine W.widen (k := 1) (n := 4) (by omega) (by omega) ?_
              exact W.iret (v := 0) hx hb hr (fun tQ htQ hWQ => ⟨⟨0, (), rfl, by simp only [f_heap]; (repeat' split) <;> first | contradiction | rfl | (simp_all; done) | (simp only [← Int32.not_lt] at *; simp_all), trivial⟩, hS.F htQ⟩) hS.2.2 dX11_heap_111
            · skip
              refine lv_aload_n hx hb dX11_heap_61 rfl (lv_at hl 0 rfl) ?_
              refine va_get (D := (dC, dI)) (ci := 13) (v := .ref sc) (C := RX11) (T := TX11) (N := 7) hx hb hts kc_xHeap_0 hown hK hP 0 rfl rfl 0 (by decide) (hts (.fieldLink RX11 14 "MistHeaps" "scene" "LMistHeaps$Scene;") kc_xHeap_1) (fun _ h9 => h9) rfl dX11_heap_62 ?_
              refine va_get (D := (dC, dI)) (ci := 10) (v := .ref aHs) (C := RX8) (T := TX8) (N := 14) hx hb hts kc_xHeap_2 hown hK hP 1 rfl rfl 7 (by decide) (hts (.fieldLink RX11 104 "MistHeaps$Scene" "heaps" "[LMistHeaps$Heap;") kc_xHeap_4) (fun _ h9 => h9) rfl dX11_heap_65 ?_
              refine lv_aload_n hx hb dX11_heap_68 rfl (lv_at hl 0 rfl) ?_
              refine va_get (D := (dC, dI)) (ci := 13) (v := .ref sc) (C := RX11) (T := TX11) (N := 7) hx hb hts kc_xHeap_0 hown hK hP 0 rfl rfl 0 (by decide) (hts (.fieldLink RX11 14 "MistHeaps" "scene" "LMistHeaps$Scene;") kc_xHeap_1) (fun _ h9 => h9) rfl dX11_heap_69 ?_
              refine va_get (D := (dC, dI)) (ci := 10) (v := .int 0) (C := RX8) (T := TX8) (N := 14) hx hb hts kc_xHeap_2 hown hK hP 1 rfl rfl 8 (by decide) (hts (.fieldLink RX11 101 "MistHeaps$Scene" "heapCount" "I") kc_xHeap_3) (fun _ h9 => h9) rfl dX11_heap_72 ?_
              refine lv_iload_n hx hb dX11_heap_75 rfl (lv_at hl 1 rfl) ?_
              refine lv_aload_n hx hb dX11_heap_76 rfl (lv_at hl 0 rfl) ?_
              refine va_get (D := (dC, dI)) (ci := 13) (v := .ref sc) (C := RX11) (T := TX11) (N := 7) hx hb hts kc_xHeap_0 hown hK hP 0 rfl rfl 0 (by decide) (hts (.fieldLink RX11 14 "MistHeaps" "scene" "LMistHeaps$Scene;") kc_xHeap_1) (fun _ h9 => h9) rfl dX11_heap_77 ?_
              refine va_get (D := (dC, dI)) (ci := 10) (v := .int 0) (C := RX8) (T := TX8) (N := 14) hx hb hts kc_xHeap_2 hown hK hP 1 rfl rfl 8 (by decide) (hts (.fieldLink RX11 101 "MistHeaps$Scene" "heapCount" "I") kc_xHeap_3) (fun _ h9 => h9) rfl dX11_heap_80 ?_
              refine lv_iload_n hx hb dX11_heap_83 rfl (lv_at hl 2 rfl) ?_
              refine lv_iload_n hx hb dX11_heap_84 rfl (lv_at hl 3 rfl) ?_
              have hPc := hP.sub (ws' := []) [] rfl
              have hDc := hD.sub (ws' := []) [] (by decide) rfl
              have hKc := hK.sub (tys' := []) [] rfl
              have hFc := va_free (wc := []) hD hS hA [] rfl
              refine va_callq (va_runS (As := [.int 5, .int 0, .int v, .int x]) (rest := [.int 0, .ref aHs]) ⟨hx, hb, hml, hown, hts⟩ (c_hok5 l dC dI v x H.size) (va_cwS 4 hts gX11_heap_X11_heapOfKind rfl rfl rfl (by decide +kernel) ⟨Nat.le_of_ble_eq_true rfl, Nat.le_of_ble_eq_true rfl⟩) ⟨fun a U g mk q => by obtain ⟨q0, q1, qP, qK, qD⟩ := q; exact ⟨q0, q1, qP, va_K.moved (u := U) (U := U.calling g mk a) (Vm.Alike.refl U.vm) qK, qD⟩, fun U hU hW => ⟨rfl, by rw [hU], by rw [hU]; exact hPc, va_K.moved hW.alike hKc, hDc.weaken (fun _ _ _ _ => trivial)⟩⟩ rfl rfl hl.1 rfl (lv_room (Nat.le_of_ble_eq_true rfl)) dX11_heap_85 ⟨Nat.le_of_ble_eq_true rfl, Nat.le_of_ble_eq_true rfl⟩) hS (fun q _ h => hFc q h) hFc (fun r_30 u tC H1 locs htC hvm hw_31 hB hz1 hk1 hS => ?_)
              obtain ⟨qn_32, rfl⟩ : ∃ z, z = u := ⟨_, rfl⟩
              try dsimp only at hw_31 hB
              obtain ⟨hP1, hK1, hD1⟩ := hB
              rw [htC] at hP1
              have hK1 := va_K.moved hvm.symm hK1
              obtain ⟨hP, hD⟩ := va_join (wr := [(h0, .inr (13, [.ref sc, .ref kp, .int 0, .ref bl, .ref go, .ref ch, .ref bo])), (sc, .inr (10, [.ref aTp, .int 0, .ref aHl, .int 0, .long 0, .int 0, .int 0, .ref aHs, .int 0, .ref aWk, .int 0, .ref aBk, .int 0, .ref aFc])), (aHs, .inl (cHs, 8, .inr (.inr (.inr (.inr (fun _ => none))))))]) (w1 := [(qn_32, .inr (11, [.int 5, .int 0, .int v, .int x]))]) hP hD [] [0, 1, 2] rfl rfl (by decide) (by decide) hk1 hFc hP1 hD1
              have hK := (hK.sub (tys' := [(cHs, .object "MistHeaps$Heap")]) [0] rfl).app hK1
              generalize H1 = H at hP hS ⊢
              have hP : va_P (dC, dI) vwCl [(h0, .inr (13, [.ref sc, .ref kp, .int 0, .ref bl, .ref go, .ref ch, .ref bo])), (sc, .inr (10, [.ref aTp, .int 0, .ref aHl, .int 0, .long 0, .int 0, .int 0, .ref aHs, .int 0, .ref aWk, .int 0, .ref aBk, .int 0, .ref aFc])), (aHs, .inl (cHs, 8, .inr (.inr (.inr (.inr (fun _ => none)))))), (qn_32, .inr (11, [.int 5, .int 0, .int v, .int x]))] H := hP
              have hD : va_D A [(h0, .inr (13, [.ref sc, .ref kp, .int 0, .ref bl, .ref go, .ref ch, .ref bo])), (sc, .inr (10, [.ref aTp, .int 0, .ref aHl, .int 0, .long 0, .int 0, .int 0, .ref aHs, .int 0, .ref aWk, .int 0, .ref aBk, .int 0, .ref aFc])), (aHs, .inl (cHs, 8, .inr (.inr (.inr (.inr (fun _ => none)))))), (qn_32, .inr (11, [.int 5, .int 0, .int v, .int x]))] := hD
              have hK : va_K (dC, dI) vwCl [(cHs, .object "MistHeaps$Heap")] s := hK
              refine W.widen (k := 1) (n := 4) (by omega) (by omega) ?_
              refine qq_as (v := .ref qn_32) (by rw [hw_31]; rfl) ?_
              refine va_astqO hx hb hK hP hD hS 2 0 3 11 (r := (RX9, TX9, 4)) rfl rfl (hC.castable (.castable RX9 "MistHeaps$Heap") (by decide +kernel)) rfl rfl (vp_in_nI (n := 0) (N := 8) (by omega) (by omega)) dX11_heap_88 (fun H locs hP hD hS => ?_)
              have hP : va_P (dC, dI) vwCl [(h0, .inr (13, [.ref sc, .ref kp, .int 0, .ref bl, .ref go, .ref ch, .ref bo])), (sc, .inr (10, [.ref aTp, .int 0, .ref aHl, .int 0, .long 0, .int 0, .int 0, .ref aHs, .int 0, .ref aWk, .int 0, .ref aBk, .int 0, .ref aFc])), (aHs, .inl (cHs, 8, .inr (.inr (.inr (.inr (va_up (fun _ => none) 0 (some qn_32))))))), (qn_32, .inr (11, [.int 5, .int 0, .int v, .int x]))] H := hP
              have hD : va_D A [(h0, .inr (13, [.ref sc, .ref kp, .int 0, .ref bl, .ref go, .ref ch, .ref bo])), (sc, .inr (10, [.ref aTp, .int 0, .ref aHl, .int 0, .long 0, .int 0, .int 0, .ref aHs, .int 0, .ref aWk, .int 0, .ref aBk, .int 0, .ref aFc])), (aHs, .inl (cHs, 8, .inr (.inr (.inr (.inr (va_up (fun _ => none) 0 (some qn_32))))))), (qn_32, .inr (11, [.int 5, .int 0, .int v, .int x]))] := hD
              refine lv_aload_n hx hb dX11_heap_89 rfl (lv_at hl 0 rfl) ?_
              refine va_get (D := (dC, dI)) (ci := 13) (v := .ref sc) (C := RX11) (T := TX11) (N := 7) hx hb hts kc_xHeap_0 hown hK hP 0 rfl rfl 0 (by decide) (hts (.fieldLink RX11 14 "MistHeaps" "scene" "LMistHeaps$Scene;") kc_xHeap_1) (fun _ h9 => h9) rfl dX11_heap_90 ?_
              refine lv_dup hx hb dX11_heap_93 rfl ?_
              refine va_get (D := (dC, dI)) (ci := 10) (v := .int 0) (C := RX8) (T := TX8) (N := 14) hx hb hts kc_xHeap_2 hown hK hP 1 rfl rfl 8 (by decide) (hts (.fieldLink RX11 101 "MistHeaps$Scene" "heapCount" "I") kc_xHeap_3) (fun _ h9 => h9) rfl dX11_heap_94 ?_
              refine lv_iconst (v := 1) hx hb dX11_heap_97 (by decide) ?_
              refine lv_iadd hx hb dX11_heap_98 ?_
              refine qi_as (y := 1) (by decide) ?_
              refine va_put (D := (dC, dI)) (ci := 10) (v := .int 1) (ty := .int) (C := RX8) (T := TX8) (N := 14) hx hb hts kc_xHeap_2 tyX8 tyX8_ok nmX8 hown hK hP hD hS 1 rfl rfl 8 (by decide) (hts (.fieldLink RX11 101 "MistHeaps$Scene" "heapCount" "I") kc_xHeap_3) (fun _ h9 => h9) rfl (by decide +kernel) rfl rfl (Nat.le_of_ble_eq_true rfl) dX11_heap_99 (fun H locs hP hD hS => ?_)
              have hP : va_P (dC, dI) vwCl [(h0, .inr (13, [.ref sc, .ref kp, .int 0, .ref bl, .ref go, .ref ch, .ref bo])), (sc, .inr (10, [.ref aTp, .int 0, .ref aHl, .int 0, .long 0, .int 0, .int 0, .ref aHs, .int 1, .ref aWk, .int 0, .ref aBk, .int 0, .ref aFc])), (aHs, .inl (cHs, 8, .inr (.inr (.inr (.inr (va_up (fun _ => none) 0 (some qn_32))))))), (qn_32, .inr (11, [.int 5, .int 0, .int v, .int x]))] H := hP
              have hD : va_D A [(h0, .inr (13, [.ref sc, .ref kp, .int 0, .ref bl, .ref go, .ref ch, .ref bo])), (sc, .inr (10, [.ref aTp, .int 0, .ref aHl, .int 0, .long 0, .int 0, .int 0, .ref aHs, .int 1, .ref aWk, .int 0, .ref aBk, .int 0, .ref aFc])), (aHs, .inl (cHs, 8, .inr (.inr (.inr (.inr (va_up (fun _ => none) 0 (some qn_32))))))), (qn_32, .inr (11, [.int 5, .int 0, .int v, .int x]))] := hD
              refine lv_aload_n hx hb dX11_heap_102 rfl (lv_at hl 0 rfl) ?_
              refine va_get (D := (dC, dI)) (ci := 13) (v := .ref sc) (C := RX11) (T := TX11) (N := 7) hx hb hts kc_xHeap_0 hown hK hP 0 rfl rfl 0 (by decide) (hts (.fieldLink RX11 14 "MistHeaps" "scene" "LMistHeaps$Scene;") kc_xHeap_1) (fun _ h9 => h9) rfl dX11_heap_103 ?_
              refine va_get (D := (dC, dI)) (ci := 10) (v := .int 1) (C := RX8) (T := TX8) (N := 14) hx hb hts kc_xHeap_2 hown hK hP 1 rfl rfl 8 (by decide) (hts (.fieldLink RX11 101 "MistHeaps$Scene" "heapCount" "I") kc_xHeap_3) (fun _ h9 => h9) rfl dX11_heap_106 ?_
              refine lv_iconst (v := 1) hx hb dX11_heap_109 (by decide) ?_
              refine lv_isub hx hb dX11_heap_110 ?_
              refine qi_as (y := 0) (by decide) ?_
              rw [hQ]
              refine W.widen (k := 1) (n := 4) (by omega) (by omega) ?_
              exact W.iret (v := 0) hx hb hr (fun tQ htQ hWQ => ⟨⟨0, (), rfl, by simp only [f_heap]; (repeat' split) <;> first | contradiction | rfl | (simp_all; done) | (simp only [← Int32.not_lt] at *; simp_all), trivial⟩, hS.F htQ⟩) hS.2.2 dX11_heap_111
            · skip
              refine lv_aload_n hx hb dX11_heap_61 rfl (lv_at hl 0 rfl) ?_
              refine va_get (D := (dC, dI)) (ci := 13) (v := .ref sc) (C := RX11) (T := TX11) (N := 7) hx hb hts kc_xHeap_0 hown hK hP 0 rfl rfl 0 (by decide) (hts (.fieldLink RX11 14 "MistHeaps" "scene" "LMistHeaps$Scene;") kc_xHeap_1) (fun _ h9 => h9) rfl dX11_heap_62 ?_
              refine va_get (D := (dC, dI)) (ci := 10) (v := .ref aHs) (C := RX8) (T := TX8) (N := 14) hx hb hts kc_xHeap_2 hown hK hP 1 rfl rfl 7 (by decide) (hts (.fieldLink RX11 104 "MistHeaps$Scene" "heaps" "[LMistHeaps$Heap;") kc_xHeap_4) (fun _ h9 => h9) rfl dX11_heap_65 ?_
              refine lv_aload_n hx hb dX11_heap_68 rfl (lv_at hl 0 rfl) ?_
              refine va_get (D := (dC, dI)) (ci := 13) (v := .ref sc) (C := RX11) (T := TX11) (N := 7) hx hb hts kc_xHeap_0 hown hK hP 0 rfl rfl 0 (by decide) (hts (.fieldLink RX11 14 "MistHeaps" "scene" "LMistHeaps$Scene;") kc_xHeap_1) (fun _ h9 => h9) rfl dX11_heap_69 ?_
              refine va_get (D := (dC, dI)) (ci := 10) (v := .int 0) (C := RX8) (T := TX8) (N := 14) hx hb hts kc_xHeap_2 hown hK hP 1 rfl rfl 8 (by decide) (hts (.fieldLink RX11 101 "MistHeaps$Scene" "heapCount" "I") kc_xHeap_3) (fun _ h9 => h9) rfl dX11_heap_72 ?_
              refine lv_iload_n hx hb dX11_heap_75 rfl (lv_at hl 1 rfl) ?_
              refine lv_aload_n hx hb dX11_heap_76 rfl (lv_at hl 0 rfl) ?_
              refine va_get (D := (dC, dI)) (ci := 13) (v := .ref sc) (C := RX11) (T := TX11) (N := 7) hx hb hts kc_xHeap_0 hown hK hP 0 rfl rfl 0 (by decide) (hts (.fieldLink RX11 14 "MistHeaps" "scene" "LMistHeaps$Scene;") kc_xHeap_1) (fun _ h9 => h9) rfl dX11_heap_77 ?_
              refine va_get (D := (dC, dI)) (ci := 10) (v := .int 0) (C := RX8) (T := TX8) (N := 14) hx hb hts kc_xHeap_2 hown hK hP 1 rfl rfl 8 (by decide) (hts (.fieldLink RX11 101 "MistHeaps$Scene" "heapCount" "I") kc_xHeap_3) (fun _ h9 => h9) rfl dX11_heap_80 ?_
              refine lv_iload_n hx hb dX11_heap_83 rfl (lv_at hl 2 rfl) ?_
              refine lv_iload_n hx hb dX11_heap_84 rfl (lv_at hl 3 rfl) ?_
              have hPc := hP.sub (ws' := []) [] rfl
              have hDc := hD.sub (ws' := []) [] (by decide) rfl
              have hKc := hK.sub (tys' := []) [] rfl
              have hFc := va_free (wc := []) hD hS hA [] rfl
              refine va_callq (va_runS (As := [.int 6, .int 0, .int v, .int x]) (rest := [.int 0, .ref aHs]) ⟨hx, hb, hml, hown, hts⟩ (c_hok6 l dC dI v x H.size) (va_cwS 4 hts gX11_heap_X11_heapOfKind rfl rfl rfl (by decide +kernel) ⟨Nat.le_of_ble_eq_true rfl, Nat.le_of_ble_eq_true rfl⟩) ⟨fun a U g mk q => by obtain ⟨q0, q1, qP, qK, qD⟩ := q; exact ⟨q0, q1, qP, va_K.moved (u := U) (U := U.calling g mk a) (Vm.Alike.refl U.vm) qK, qD⟩, fun U hU hW => ⟨rfl, by rw [hU], by rw [hU]; exact hPc, va_K.moved hW.alike hKc, hDc.weaken (fun _ _ _ _ => trivial)⟩⟩ rfl rfl hl.1 rfl (lv_room (Nat.le_of_ble_eq_true rfl)) dX11_heap_85 ⟨Nat.le_of_ble_eq_true rfl, Nat.le_of_ble_eq_true rfl⟩) hS (fun q _ h => hFc q h) hFc (fun r_33 u tC H1 locs htC hvm hw_34 hB hz1 hk1 hS => ?_)
              obtain ⟨qn_35, rfl⟩ : ∃ z, z = u := ⟨_, rfl⟩
              try dsimp only at hw_34 hB
              obtain ⟨hP1, hK1, hD1⟩ := hB
              rw [htC] at hP1
              have hK1 := va_K.moved hvm.symm hK1
              obtain ⟨hP, hD⟩ := va_join (wr := [(h0, .inr (13, [.ref sc, .ref kp, .int 0, .ref bl, .ref go, .ref ch, .ref bo])), (sc, .inr (10, [.ref aTp, .int 0, .ref aHl, .int 0, .long 0, .int 0, .int 0, .ref aHs, .int 0, .ref aWk, .int 0, .ref aBk, .int 0, .ref aFc])), (aHs, .inl (cHs, 8, .inr (.inr (.inr (.inr (fun _ => none))))))]) (w1 := [(qn_35, .inr (9, [.int 6, .int 0, .int v, .int x]))]) hP hD [] [0, 1, 2] rfl rfl (by decide) (by decide) hk1 hFc hP1 hD1
              have hK := (hK.sub (tys' := [(cHs, .object "MistHeaps$Heap")]) [0] rfl).app hK1
              generalize H1 = H at hP hS ⊢
              have hP : va_P (dC, dI) vwCl [(h0, .inr (13, [.ref sc, .ref kp, .int 0, .ref bl, .ref go, .ref ch, .ref bo])), (sc, .inr (10, [.ref aTp, .int 0, .ref aHl, .int 0, .long 0, .int 0, .int 0, .ref aHs, .int 0, .ref aWk, .int 0, .ref aBk, .int 0, .ref aFc])), (aHs, .inl (cHs, 8, .inr (.inr (.inr (.inr (fun _ => none)))))), (qn_35, .inr (9, [.int 6, .int 0, .int v, .int x]))] H := hP
              have hD : va_D A [(h0, .inr (13, [.ref sc, .ref kp, .int 0, .ref bl, .ref go, .ref ch, .ref bo])), (sc, .inr (10, [.ref aTp, .int 0, .ref aHl, .int 0, .long 0, .int 0, .int 0, .ref aHs, .int 0, .ref aWk, .int 0, .ref aBk, .int 0, .ref aFc])), (aHs, .inl (cHs, 8, .inr (.inr (.inr (.inr (fun _ => none)))))), (qn_35, .inr (9, [.int 6, .int 0, .int v, .int x]))] := hD
              have hK : va_K (dC, dI) vwCl [(cHs, .object "MistHeaps$Heap")] s := hK
              refine W.widen (k := 1) (n := 4) (by omega) (by omega) ?_
              refine qq_as (v := .ref qn_35) (by rw [hw_34]; rfl) ?_
              refine va_astqO hx hb hK hP hD hS 2 0 3 9 (r := (RX7, TX7, 4)) rfl rfl (hC.castable (.castable RX7 "MistHeaps$Heap") (by decide +kernel)) rfl rfl (vp_in_nI (n := 0) (N := 8) (by omega) (by omega)) dX11_heap_88 (fun H locs hP hD hS => ?_)
              have hP : va_P (dC, dI) vwCl [(h0, .inr (13, [.ref sc, .ref kp, .int 0, .ref bl, .ref go, .ref ch, .ref bo])), (sc, .inr (10, [.ref aTp, .int 0, .ref aHl, .int 0, .long 0, .int 0, .int 0, .ref aHs, .int 0, .ref aWk, .int 0, .ref aBk, .int 0, .ref aFc])), (aHs, .inl (cHs, 8, .inr (.inr (.inr (.inr (va_up (fun _ => none) 0 (some qn_35))))))), (qn_35, .inr (9, [.int 6, .int 0, .int v, .int x]))] H := hP
              have hD : va_D A [(h0, .inr (13, [.ref sc, .ref kp, .int 0, .ref bl, .ref go, .ref ch, .ref bo])), (sc, .inr (10, [.ref aTp, .int 0, .ref aHl, .int 0, .long 0, .int 0, .int 0, .ref aHs, .int 0, .ref aWk, .int 0, .ref aBk, .int 0, .ref aFc])), (aHs, .inl (cHs, 8, .inr (.inr (.inr (.inr (va_up (fun _ => none) 0 (some qn_35))))))), (qn_35, .inr (9, [.int 6, .int 0, .int v, .int x]))] := hD
              refine lv_aload_n hx hb dX11_heap_89 rfl (lv_at hl 0 rfl) ?_
              refine va_get (D := (dC, dI)) (ci := 13) (v := .ref sc) (C := RX11) (T := TX11) (N := 7) hx hb hts kc_xHeap_0 hown hK hP 0 rfl rfl 0 (by decide) (hts (.fieldLink RX11 14 "MistHeaps" "scene" "LMistHeaps$Scene;") kc_xHeap_1) (fun _ h9 => h9) rfl dX11_heap_90 ?_
              refine lv_dup hx hb dX11_heap_93 rfl ?_
              refine va_get (D := (dC, dI)) (ci := 10) (v := .int 0) (C := RX8) (T := TX8) (N := 14) hx hb hts kc_xHeap_2 hown hK hP 1 rfl rfl 8 (by decide) (hts (.fieldLink RX11 101 "MistHeaps$Scene" "heapCount" "I") kc_xHeap_3) (fun _ h9 => h9) rfl dX11_heap_94 ?_
              refine lv_iconst (v := 1) hx hb dX11_heap_97 (by decide) ?_
              refine lv_iadd hx hb dX11_heap_98 ?_
              refine qi_as (y := 1) (by decide) ?_
              refine va_put (D := (dC, dI)) (ci := 10) (v := .int 1) (ty := .int) (C := RX8) (T := TX8) (N := 14) hx hb hts kc_xHeap_2 tyX8 tyX8_ok nmX8 hown hK hP hD hS 1 rfl rfl 8 (by decide) (hts (.fieldLink RX11 101 "MistHeaps$Scene" "heapCount" "I") kc_xHeap_3) (fun _ h9 => h9) rfl (by decide +kernel) rfl rfl (Nat.le_of_ble_eq_true rfl) dX11_heap_99 (fun H locs hP hD hS => ?_)
              have hP : va_P (dC, dI) vwCl [(h0, .inr (13, [.ref sc, .ref kp, .int 0, .ref bl, .ref go, .ref ch, .ref bo])), (sc, .inr (10, [.ref aTp, .int 0, .ref aHl, .int 0, .long 0, .int 0, .int 0, .ref aHs, .int 1, .ref aWk, .int 0, .ref aBk, .int 0, .ref aFc])), (aHs, .inl (cHs, 8, .inr (.inr (.inr (.inr (va_up (fun _ => none) 0 (some qn_35))))))), (qn_35, .inr (9, [.int 6, .int 0, .int v, .int x]))] H := hP
              have hD : va_D A [(h0, .inr (13, [.ref sc, .ref kp, .int 0, .ref bl, .ref go, .ref ch, .ref bo])), (sc, .inr (10, [.ref aTp, .int 0, .ref aHl, .int 0, .long 0, .int 0, .int 0, .ref aHs, .int 1, .ref aWk, .int 0, .ref aBk, .int 0, .ref aFc])), (aHs, .inl (cHs, 8, .inr (.inr (.inr (.inr (va_up (fun _ => none) 0 (some qn_35))))))), (qn_35, .inr (9, [.int 6, .int 0, .int v, .int x]))] := hD
              refine lv_aload_n hx hb dX11_heap_102 rfl (lv_at hl 0 rfl) ?_
              refine va_get (D := (dC, dI)) (ci := 13) (v := .ref sc) (C := RX11) (T := TX11) (N := 7) hx hb hts kc_xHeap_0 hown hK hP 0 rfl rfl 0 (by decide) (hts (.fieldLink RX11 14 "MistHeaps" "scene" "LMistHeaps$Scene;") kc_xHeap_1) (fun _ h9 => h9) rfl dX11_heap_103 ?_
              refine va_get (D := (dC, dI)) (ci := 10) (v := .int 1) (C := RX8) (T := TX8) (N := 14) hx hb hts kc_xHeap_2 hown hK hP 1 rfl rfl 8 (by decide) (hts (.fieldLink RX11 101 "MistHeaps$Scene" "heapCount" "I") kc_xHeap_3) (fun _ h9 => h9) rfl dX11_heap_106 ?_
              refine lv_iconst (v := 1) hx hb dX11_heap_109 (by decide) ?_
              refine lv_isub hx hb dX11_heap_110 ?_
              refine qi_as (y := 0) (by decide) ?_
              rw [hQ]
              refine W.widen (k := 1) (n := 4) (by omega) (by omega) ?_
              exact W.iret (v := 0) hx hb hr (fun tQ htQ hWQ => ⟨⟨0, (), rfl, by simp only [f_heap]; (repeat' split) <;> first | contradiction | rfl | (simp_all; done) | (simp only [← Int32.not_lt] at *; simp_all), trivial⟩, hS.F htQ⟩) hS.2.2 dX11_heap_111
          · skip
            refine lv_bipush (v := (-2)) hx hb dX11_heap_29 (by decide) ?_
            rw [hQ]
            refine W.widen (k := 1) (n := 4) (by omega) (by omega) ?_
            exact W.iret (v := (-2)) hx hb hr (fun tQ htQ hWQ => ⟨⟨(-2), (), rfl, by simp only [f_heap]; (repeat' split) <;> first | contradiction | rfl | (simp_all; done) | (simp only [← Int32.not_lt] at *; simp_all), trivial⟩, hS.F htQ⟩) hS.2.2 dX11_heap_31
      · skip
        refine lv_if_ne (tgt := 19) hx hb dX11_heap_14 (by decide) (fun c_36 => absurd c_36 (by decide)) (fun _ => ?_)
        refine lv_iconst (v := (-1)) hx hb dX11_heap_17 (by decide) ?_
        rw [hQ]
        refine W.widen (k := 1) (n := 4) (by omega) (by omega) ?_
        exact W.iret (v := (-1)) hx hb hr (fun tQ htQ hWQ => ⟨⟨(-1), (), rfl, by simp only [f_heap]; (repeat' split) <;> first | contradiction | rfl | (simp_all; done) | (simp only [← Int32.not_lt] at *; simp_all), trivial⟩, hS.F htQ⟩) hS.2.2 dX11_heap_18

theorem kc_copy0_0 : ∀ w ∈ wsX80, w ∈ wsX8_copyFrom := by decide +kernel
theorem kc_copy0_1 : (.fieldLink RX8 9 "MistHeaps$Scene" "tape" "[I" : Cond) ∈ wsX8_copyFrom := by decide +kernel
theorem kc_copy0_2 : (.methodLink RX8 37 arraycopyName : Cond) ∈ wsX8_copyFrom := by decide +kernel
theorem kc_copy0_3 : (.native arraycopyName : Cond) ∈ wsX8_copyFrom := by decide +kernel
theorem kc_copy0_4 : (.static arraycopyName : Cond) ∈ wsX8_copyFrom := by decide +kernel
theorem kc_copy0_5 : (.initialized "java/lang/System" : Cond) ∈ wsX8_copyFrom := by decide +kernel
theorem kc_copy0_6 : (.fieldLink RX8 43 "MistHeaps$Scene" "tapeSize" "I" : Cond) ∈ wsX8_copyFrom := by decide +kernel
theorem kc_copy0_7 : (.fieldLink RX8 18 "MistHeaps$Scene" "hill" "LMistHeaps$Hill;" : Cond) ∈ wsX8_copyFrom := by decide +kernel
theorem kc_copy0_8 : (.fieldLink RX8 47 "MistHeaps$Scene" "hills" "I" : Cond) ∈ wsX8_copyFrom := by decide +kernel
theorem kc_copy0_9 : (.fieldLink RX8 50 "MistHeaps$Scene" "edges" "J" : Cond) ∈ wsX8_copyFrom := by decide +kernel
theorem kc_copy0_10 : (.fieldLink RX8 54 "MistHeaps$Scene" "mist" "I" : Cond) ∈ wsX8_copyFrom := by decide +kernel
theorem kc_copy0_11 : (.fieldLink RX8 57 "MistHeaps$Scene" "snow" "I" : Cond) ∈ wsX8_copyFrom := by decide +kernel
theorem kc_copy0_12 : (.fieldLink RX8 60 "MistHeaps$Scene" "heapCount" "I" : Cond) ∈ wsX8_copyFrom := by decide +kernel
theorem kc_copy0_13 : (.fieldLink RX8 28 "MistHeaps$Scene" "walk" "[I" : Cond) ∈ wsX8_copyFrom := by decide +kernel
theorem kc_copy0_14 : (.fieldLink RX8 63 "MistHeaps$Scene" "walkSize" "I" : Cond) ∈ wsX8_copyFrom := by decide +kernel
theorem kc_copy0_15 : (.fieldLink RX8 31 "MistHeaps$Scene" "book" "[I" : Cond) ∈ wsX8_copyFrom := by decide +kernel
theorem kc_copy0_16 : (.fieldLink RX8 66 "MistHeaps$Scene" "bookSize" "I" : Cond) ∈ wsX8_copyFrom := by decide +kernel
theorem kc_copy0_17 : (.fieldLink RX8 24 "MistHeaps$Scene" "heaps" "[LMistHeaps$Heap;" : Cond) ∈ wsX8_copyFrom := by decide +kernel
set_option maxHeartbeats 4000000 in
set_option maxRecDepth 100000 in
theorem c_copy0 (l : Launch) (dC : Nat → ClassId) (dI : Nat → Nat → Nat) (kp kTp kHl kHs kWk kBk kFc : Nat) (sc aTp aHl aHs aWk aBk aFc : Nat) (kcTp kcHs kcWk kcBk cTp cHs cWk cBk : ClassId) (sz : Nat) : Met l yX8_copyFrom wsX8_copyFrom ({ frames := 1, cells := 0, slots := 0, locals := 60 } : Room) (va_Pc [.ref kp, .ref sc] (fun U => U.heap.size = sz ∧ va_P (dC, dI) vwCl [(kp, .inr (10, [.ref kTp, .int 0, .ref kHl, .int 0, .long 0, .int 0, .int 0, .ref kHs, .int 0, .ref kWk, .int 0, .ref kBk, .int 0, .ref kFc])), (sc, .inr (10, [.ref aTp, .int 0, .ref aHl, .int 0, .long 0, .int 0, .int 0, .ref aHs, .int 0, .ref aWk, .int 0, .ref aBk, .int 0, .ref aFc])), (kTp, .inl (kcTp, 100, .inl (fun _ => 0))), (kHs, .inl (kcHs, 8, .inr (.inr (.inr (.inr (fun _ => none)))))), (kWk, .inl (kcWk, 6, .inl (fun _ => 0))), (kBk, .inl (kcBk, 12, .inl (fun _ => 0))), (aTp, .inl (cTp, 100, .inl (fun _ => 0))), (aHs, .inl (cHs, 8, .inr (.inr (.inr (.inr (fun _ => none)))))), (aWk, .inl (cWk, 6, .inl (fun _ => 0))), (aBk, .inl (cBk, 12, .inl (fun _ => 0)))] U.heap ∧ va_K (dC, dI) vwCl [(kcTp, .int), (kcHs, .object "MistHeaps$Heap"), (kcWk, .int), (kcBk, .int), (cTp, .int), (cHs, .object "MistHeaps$Heap"), (cWk, .int), (cBk, .int)] U ∧ va_D (fun _ => True) [(kp, .inr (10, [.ref kTp, .int 0, .ref kHl, .int 0, .long 0, .int 0, .int 0, .ref kHs, .int 0, .ref kWk, .int 0, .ref kBk, .int 0, .ref kFc])), (sc, .inr (10, [.ref aTp, .int 0, .ref aHl, .int 0, .long 0, .int 0, .int 0, .ref aHs, .int 0, .ref aWk, .int 0, .ref aBk, .int 0, .ref aFc])), (kTp, .inl (kcTp, 100, .inl (fun _ => 0))), (kHs, .inl (kcHs, 8, .inr (.inr (.inr (.inr (fun _ => none)))))), (kWk, .inl (kcWk, 6, .inl (fun _ => 0))), (kBk, .inl (kcBk, 12, .inl (fun _ => 0))), (aTp, .inl (cTp, 100, .inl (fun _ => 0))), (aHs, .inl (cHs, 8, .inr (.inr (.inr (.inr (fun _ => none)))))), (aWk, .inl (cWk, 6, .inl (fun _ => 0))), (aBk, .inl (cBk, 12, .inl (fun _ => 0)))])) (va_Qv (fun (u : Unit) => match u with | () => True) (fun (u : Unit) (t : State) => match u with | () => va_P (dC, dI) vwCl [(sc, .inr (10, [.ref aTp, .int 0, .ref aHl, .int 0, .long 0, .int 0, .int 0, .ref aHs, .int 0, .ref aWk, .int 0, .ref aBk, .int 0, .ref aFc]))] t.heap ∧ va_K (dC, dI) vwCl [] t ∧ va_D (va_A [(kp, .inr (10, [.ref kTp, .int 0, .ref kHl, .int 0, .long 0, .int 0, .int 0, .ref kHs, .int 0, .ref kWk, .int 0, .ref kBk, .int 0, .ref kFc])), (sc, .inr (10, [.ref aTp, .int 0, .ref aHl, .int 0, .long 0, .int 0, .int 0, .ref aHs, .int 0, .ref aWk, .int 0, .ref aBk, .int 0, .ref aFc])), (kTp, .inl (kcTp, 100, .inl (fun _ => 0))), (kHs, .inl (kcHs, 8, .inr (.inr (.inr (.inr (fun _ => none)))))), (kWk, .inl (kcWk, 6, .inl (fun _ => 0))), (kBk, .inl (kcBk, 12, .inl (fun _ => 0))), (aTp, .inl (cTp, 100, .inl (fun _ => 0))), (aHs, .inl (cHs, 8, .inr (.inr (.inr (.inr (fun _ => none)))))), (aWk, .inl (cWk, 6, .inl (fun _ => 0))), (aBk, .inl (cBk, 12, .inl (fun _ => 0)))] sz) [(sc, .inr (10, [.ref aTp, .int 0, .ref aHl, .int 0, .long 0, .int 0, .int 0, .ref aHs, .int 0, .ref aWk, .int 0, .ref aBk, .int 0, .ref aFc]))]) (va_A [(kp, .inr (10, [.ref kTp, .int 0, .ref kHl, .int 0, .long 0, .int 0, .int 0, .ref kHs, .int 0, .ref kWk, .int 0, .ref kBk, .int 0, .ref kFc])), (sc, .inr (10, [.ref aTp, .int 0, .ref aHl, .int 0, .long 0, .int 0, .int 0, .ref aHs, .int 0, .ref aWk, .int 0, .ref aBk, .int 0, .ref aFc])), (kTp, .inl (kcTp, 100, .inl (fun _ => 0))), (kHs, .inl (kcHs, 8, .inr (.inr (.inr (.inr (fun _ => none)))))), (kWk, .inl (kcWk, 6, .inl (fun _ => 0))), (kBk, .inl (kcBk, 12, .inl (fun _ => 0))), (aTp, .inl (cTp, 100, .inl (fun _ => 0))), (aHs, .inl (cHs, 8, .inr (.inr (.inr (.inr (fun _ => none)))))), (aWk, .inl (cWk, 6, .inl (fun _ => 0))), (aBk, .inl (cBk, 12, .inl (fun _ => 0)))] sz)) 0 0 (va_A [(kp, .inr (10, [.ref kTp, .int 0, .ref kHl, .int 0, .long 0, .int 0, .int 0, .ref kHs, .int 0, .ref kWk, .int 0, .ref kBk, .int 0, .ref kFc])), (sc, .inr (10, [.ref aTp, .int 0, .ref aHl, .int 0, .long 0, .int 0, .int 0, .ref aHs, .int 0, .ref aWk, .int 0, .ref aBk, .int 0, .ref aFc])), (kTp, .inl (kcTp, 100, .inl (fun _ => 0))), (kHs, .inl (kcHs, 8, .inr (.inr (.inr (.inr (fun _ => none)))))), (kWk, .inl (kcWk, 6, .inl (fun _ => 0))), (kBk, .inl (kcBk, 12, .inl (fun _ => 0))), (aTp, .inl (cTp, 100, .inl (fun _ => 0))), (aHs, .inl (cHs, 8, .inr (.inr (.inr (.inr (fun _ => none)))))), (aWk, .inl (cWk, 6, .inl (fun _ => 0))), (aBk, .inl (cBk, 12, .inl (fun _ => 0)))] sz) := by
  refine met_ofQ (cc := cX8_copyFrom) (maxL := 3) (ret := none) (by decide) rfl ?_
  intro p e s m args below meth c s₁ Q B hml hv hQ
  obtain ⟨rfl, hsz, hP, hK, hD0⟩ := hv
  have hx := B.exec
  have hb := B.bytes
  have hr := B.returns
  have hts := atoms_spec (ws := wsX8_copyFrom) B.pre
  have hown : s.vm.findClass RX8 = some m.cls := findClass_of_methodNamed B.named
  have hlocks := B.notSynchronized
  subst hsz
  have hD := hD0.self (sz := s.heap.size)
  generalize hAe : va_A [(kp, .inr (10, [.ref kTp, .int 0, .ref kHl, .int 0, .long 0, .int 0, .int 0, .ref kHs, .int 0, .ref kWk, .int 0, .ref kBk, .int 0, .ref kFc])), (sc, .inr (10, [.ref aTp, .int 0, .ref aHl, .int 0, .long 0, .int 0, .int 0, .ref aHs, .int 0, .ref aWk, .int 0, .ref aBk, .int 0, .ref aFc])), (kTp, .inl (kcTp, 100, .inl (fun _ => 0))), (kHs, .inl (kcHs, 8, .inr (.inr (.inr (.inr (fun _ => none)))))), (kWk, .inl (kcWk, 6, .inl (fun _ => 0))), (kBk, .inl (kcBk, 12, .inl (fun _ => 0))), (aTp, .inl (cTp, 100, .inl (fun _ => 0))), (aHs, .inl (cHs, 8, .inr (.inr (.inr (.inr (fun _ => none)))))), (aWk, .inl (cWk, 6, .inl (fun _ => 0))), (aBk, .inl (cBk, 12, .inl (fun _ => 0)))] s.heap.size = A at hD hQ ⊢
  have hA : ∀ q : Nat, s.heap.size ≤ q → A q := fun q h => by rw [← hAe]; exact Or.inr h
  have hS : va_S A s.heap s.heap [] := va_S.rf
  have hl := lv_entry [.ref kp, .ref sc] (n := 3) (Nat.le_of_ble_eq_true rfl)
  rw [lg_entry_eq]
  generalize (lg_sl [.ref kp, .ref sc] ++ List.replicate (3 - (lg_sl [.ref kp, .ref sc]).length) Slot.unset).toArray = ls at hl ⊢
  generalize hag : ([.ref kp, .ref sc] : List Value).toArray = args at hts hQ ⊢
  have hl : lv_has ls 3 [(0, .ref kp), (1, .ref sc)] := hl
  obtain ⟨H, hH⟩ : ∃ H : Heap, H = s.heap := ⟨_, rfl⟩
  rw [← hH] at hP
  rw [← hH]
  have hS : va_S A s.heap H [] := by rw [hH]; exact hS
  obtain ⟨locs, hlo⟩ : ∃ L : List Loc, L = [] := ⟨_, rfl⟩
  rw [← hlo] at hS
  rw [← hlo]
  clear hH hlo
  refine lv_aload_n hx hb dX8_copyFrom_0 rfl (lv_at hl 1 rfl) ?_
  refine va_get (D := (dC, dI)) (ci := 10) (v := .ref aTp) (C := RX8) (T := TX8) (N := 14) hx hb hts kc_copy0_0 hown hK hP 1 rfl rfl 0 (by decide) (hts (.fieldLink RX8 9 "MistHeaps$Scene" "tape" "[I") kc_copy0_1) (fun _ h9 => h9) rfl dX8_copyFrom_1 ?_
  refine lv_iconst (v := 0) hx hb dX8_copyFrom_4 (by decide) ?_
  refine lv_aload_n hx hb dX8_copyFrom_5 rfl (lv_at hl 0 rfl) ?_
  refine va_get (D := (dC, dI)) (ci := 10) (v := .ref kTp) (C := RX8) (T := TX8) (N := 14) hx hb hts kc_copy0_0 hown hK hP 0 rfl rfl 0 (by decide) (hts (.fieldLink RX8 9 "MistHeaps$Scene" "tape" "[I") kc_copy0_1) (fun _ h9 => h9) rfl dX8_copyFrom_6 ?_
  refine lv_iconst (v := 0) hx hb dX8_copyFrom_9 (by decide) ?_
  refine lv_bipush (v := 100) hx hb dX8_copyFrom_10 (by decide) ?_
  refine va_copyi hx hb (by rw [hml]; exact hl.1.symm) hown (hts (.methodLink RX8 37 arraycopyName) kc_copy0_2) (hts (.native arraycopyName) kc_copy0_3) (hts (.static arraycopyName) kc_copy0_4) (hts (.initialized "java/lang/System") kc_copy0_5) hK hP hD hS 6 2 4 0 rfl rfl rfl rfl rfl (by decide) (by decide) (by decide) (by decide) (by decide) (fun _ _ => rfl) (Nat.le_of_ble_eq_true rfl) (Nat.le_of_ble_eq_true rfl) dX8_copyFrom_12 (fun H locs hP hD hS => ?_)
  have hP : va_P (dC, dI) vwCl [(kp, .inr (10, [.ref kTp, .int 0, .ref kHl, .int 0, .long 0, .int 0, .int 0, .ref kHs, .int 0, .ref kWk, .int 0, .ref kBk, .int 0, .ref kFc])), (sc, .inr (10, [.ref aTp, .int 0, .ref aHl, .int 0, .long 0, .int 0, .int 0, .ref aHs, .int 0, .ref aWk, .int 0, .ref aBk, .int 0, .ref aFc])), (kTp, .inl (kcTp, 100, .inl (va_cpy (fun _ => 0) (fun _ => 0) 0 0 100))), (kHs, .inl (kcHs, 8, .inr (.inr (.inr (.inr (fun _ => none)))))), (kWk, .inl (kcWk, 6, .inl (fun _ => 0))), (kBk, .inl (kcBk, 12, .inl (fun _ => 0))), (aTp, .inl (cTp, 100, .inl (fun _ => 0))), (aHs, .inl (cHs, 8, .inr (.inr (.inr (.inr (fun _ => none)))))), (aWk, .inl (cWk, 6, .inl (fun _ => 0))), (aBk, .inl (cBk, 12, .inl (fun _ => 0)))] H := hP
  have hD : va_D A [(kp, .inr (10, [.ref kTp, .int 0, .ref kHl, .int 0, .long 0, .int 0, .int 0, .ref kHs, .int 0, .ref kWk, .int 0, .ref kBk, .int 0, .ref kFc])), (sc, .inr (10, [.ref aTp, .int 0, .ref aHl, .int 0, .long 0, .int 0, .int 0, .ref aHs, .int 0, .ref aWk, .int 0, .ref aBk, .int 0, .ref aFc])), (kTp, .inl (kcTp, 100, .inl (va_cpy (fun _ => 0) (fun _ => 0) 0 0 100))), (kHs, .inl (kcHs, 8, .inr (.inr (.inr (.inr (fun _ => none)))))), (kWk, .inl (kcWk, 6, .inl (fun _ => 0))), (kBk, .inl (kcBk, 12, .inl (fun _ => 0))), (aTp, .inl (cTp, 100, .inl (fun _ => 0))), (aHs, .inl (cHs, 8, .inr (.inr (.inr (.inr (fun _ => none)))))), (aWk, .inl (cWk, 6, .inl (fun _ => 0))), (aBk, .inl (cBk, 12, .inl (fun _ => 0)))] := hD
  refine lv_aload_n hx hb dX8_copyFrom_15 rfl (lv_at hl 0 rfl) ?_
  refine lv_aload_n hx hb dX8_copyFrom_16 rfl (lv_at hl 1 rfl) ?_
  refine va_get (D := (dC, dI)) (ci := 10) (v := .int 0) (C := RX8) (T := TX8) (N := 14) hx hb hts kc_copy0_0 hown hK hP 1 rfl rfl 1 (by decide) (hts (.fieldLink RX8 43 "MistHeaps$Scene" "tapeSize" "I") kc_copy0_6) (fun _ h9 => h9) rfl dX8_copyFrom_17 ?_
  refine va_put (D := (dC, dI)) (ci := 10) (v := .int 0) (ty := .int) (C := RX8) (T := TX8) (N := 14) hx hb hts kc_copy0_0 tyX8 tyX8_ok nmX8 hown hK hP hD hS 0 rfl rfl 1 (by decide) (hts (.fieldLink RX8 43 "MistHeaps$Scene" "tapeSize" "I") kc_copy0_6) (fun _ h9 => h9) rfl (by decide +kernel) rfl rfl (Nat.le_of_ble_eq_true rfl) dX8_copyFrom_20 (fun H locs hP hD hS => ?_)
  have hP : va_P (dC, dI) vwCl [(kp, .inr (10, [.ref kTp, .int 0, .ref kHl, .int 0, .long 0, .int 0, .int 0, .ref kHs, .int 0, .ref kWk, .int 0, .ref kBk, .int 0, .ref kFc])), (sc, .inr (10, [.ref aTp, .int 0, .ref aHl, .int 0, .long 0, .int 0, .int 0, .ref aHs, .int 0, .ref aWk, .int 0, .ref aBk, .int 0, .ref aFc])), (kTp, .inl (kcTp, 100, .inl (va_cpy (fun _ => 0) (fun _ => 0) 0 0 100))), (kHs, .inl (kcHs, 8, .inr (.inr (.inr (.inr (fun _ => none)))))), (kWk, .inl (kcWk, 6, .inl (fun _ => 0))), (kBk, .inl (kcBk, 12, .inl (fun _ => 0))), (aTp, .inl (cTp, 100, .inl (fun _ => 0))), (aHs, .inl (cHs, 8, .inr (.inr (.inr (.inr (fun _ => none)))))), (aWk, .inl (cWk, 6, .inl (fun _ => 0))), (aBk, .inl (cBk, 12, .inl (fun _ => 0)))] H := hP
  have hD : va_D A [(kp, .inr (10, [.ref kTp, .int 0, .ref kHl, .int 0, .long 0, .int 0, .int 0, .ref kHs, .int 0, .ref kWk, .int 0, .ref kBk, .int 0, .ref kFc])), (sc, .inr (10, [.ref aTp, .int 0, .ref aHl, .int 0, .long 0, .int 0, .int 0, .ref aHs, .int 0, .ref aWk, .int 0, .ref aBk, .int 0, .ref aFc])), (kTp, .inl (kcTp, 100, .inl (va_cpy (fun _ => 0) (fun _ => 0) 0 0 100))), (kHs, .inl (kcHs, 8, .inr (.inr (.inr (.inr (fun _ => none)))))), (kWk, .inl (kcWk, 6, .inl (fun _ => 0))), (kBk, .inl (kcBk, 12, .inl (fun _ => 0))), (aTp, .inl (cTp, 100, .inl (fun _ => 0))), (aHs, .inl (cHs, 8, .inr (.inr (.inr (.inr (fun _ => none)))))), (aWk, .inl (cWk, 6, .inl (fun _ => 0))), (aBk, .inl (cBk, 12, .inl (fun _ => 0)))] := hD
  refine lv_aload_n hx hb dX8_copyFrom_23 rfl (lv_at hl 0 rfl) ?_
  refine lv_aload_n hx hb dX8_copyFrom_24 rfl (lv_at hl 1 rfl) ?_
  refine va_get (D := (dC, dI)) (ci := 10) (v := .ref aHl) (C := RX8) (T := TX8) (N := 14) hx hb hts kc_copy0_0 hown hK hP 1 rfl rfl 2 (by decide) (hts (.fieldLink RX8 18 "MistHeaps$Scene" "hill" "LMistHeaps$Hill;") kc_copy0_7) (fun _ h9 => h9) rfl dX8_copyFrom_25 ?_
  refine va_put (D := (dC, dI)) (ci := 10) (v := .ref aHl) (ty := .object "MistHeaps$Hill") (C := RX8) (T := TX8) (N := 14) hx hb hts kc_copy0_0 tyX8 tyX8_ok nmX8 hown hK hP hD hS 0 rfl rfl 2 (by decide) (hts (.fieldLink RX8 18 "MistHeaps$Scene" "hill" "LMistHeaps$Hill;") kc_copy0_7) (fun _ h9 => h9) rfl (by decide +kernel) rfl rfl (Nat.le_of_ble_eq_true rfl) dX8_copyFrom_28 (fun H locs hP hD hS => ?_)
  have hP : va_P (dC, dI) vwCl [(kp, .inr (10, [.ref kTp, .int 0, .ref aHl, .int 0, .long 0, .int 0, .int 0, .ref kHs, .int 0, .ref kWk, .int 0, .ref kBk, .int 0, .ref kFc])), (sc, .inr (10, [.ref aTp, .int 0, .ref aHl, .int 0, .long 0, .int 0, .int 0, .ref aHs, .int 0, .ref aWk, .int 0, .ref aBk, .int 0, .ref aFc])), (kTp, .inl (kcTp, 100, .inl (va_cpy (fun _ => 0) (fun _ => 0) 0 0 100))), (kHs, .inl (kcHs, 8, .inr (.inr (.inr (.inr (fun _ => none)))))), (kWk, .inl (kcWk, 6, .inl (fun _ => 0))), (kBk, .inl (kcBk, 12, .inl (fun _ => 0))), (aTp, .inl (cTp, 100, .inl (fun _ => 0))), (aHs, .inl (cHs, 8, .inr (.inr (.inr (.inr (fun _ => none)))))), (aWk, .inl (cWk, 6, .inl (fun _ => 0))), (aBk, .inl (cBk, 12, .inl (fun _ => 0)))] H := hP
  have hD : va_D A [(kp, .inr (10, [.ref kTp, .int 0, .ref aHl, .int 0, .long 0, .int 0, .int 0, .ref kHs, .int 0, .ref kWk, .int 0, .ref kBk, .int 0, .ref kFc])), (sc, .inr (10, [.ref aTp, .int 0, .ref aHl, .int 0, .long 0, .int 0, .int 0, .ref aHs, .int 0, .ref aWk, .int 0, .ref aBk, .int 0, .ref aFc])), (kTp, .inl (kcTp, 100, .inl (va_cpy (fun _ => 0) (fun _ => 0) 0 0 100))), (kHs, .inl (kcHs, 8, .inr (.inr (.inr (.inr (fun _ => none)))))), (kWk, .inl (kcWk, 6, .inl (fun _ => 0))), (kBk, .inl (kcBk, 12, .inl (fun _ => 0))), (aTp, .inl (cTp, 100, .inl (fun _ => 0))), (aHs, .inl (cHs, 8, .inr (.inr (.inr (.inr (fun _ => none)))))), (aWk, .inl (cWk, 6, .inl (fun _ => 0))), (aBk, .inl (cBk, 12, .inl (fun _ => 0)))] := hD
  refine lv_aload_n hx hb dX8_copyFrom_31 rfl (lv_at hl 0 rfl) ?_
  refine lv_aload_n hx hb dX8_copyFrom_32 rfl (lv_at hl 1 rfl) ?_
  refine va_get (D := (dC, dI)) (ci := 10) (v := .int 0) (C := RX8) (T := TX8) (N := 14) hx hb hts kc_copy0_0 hown hK hP 1 rfl rfl 3 (by decide) (hts (.fieldLink RX8 47 "MistHeaps$Scene" "hills" "I") kc_copy0_8) (fun _ h9 => h9) rfl dX8_copyFrom_33 ?_
  refine va_put (D := (dC, dI)) (ci := 10) (v := .int 0) (ty := .int) (C := RX8) (T := TX8) (N := 14) hx hb hts kc_copy0_0 tyX8 tyX8_ok nmX8 hown hK hP hD hS 0 rfl rfl 3 (by decide) (hts (.fieldLink RX8 47 "MistHeaps$Scene" "hills" "I") kc_copy0_8) (fun _ h9 => h9) rfl (by decide +kernel) rfl rfl (Nat.le_of_ble_eq_true rfl) dX8_copyFrom_36 (fun H locs hP hD hS => ?_)
  have hP : va_P (dC, dI) vwCl [(kp, .inr (10, [.ref kTp, .int 0, .ref aHl, .int 0, .long 0, .int 0, .int 0, .ref kHs, .int 0, .ref kWk, .int 0, .ref kBk, .int 0, .ref kFc])), (sc, .inr (10, [.ref aTp, .int 0, .ref aHl, .int 0, .long 0, .int 0, .int 0, .ref aHs, .int 0, .ref aWk, .int 0, .ref aBk, .int 0, .ref aFc])), (kTp, .inl (kcTp, 100, .inl (va_cpy (fun _ => 0) (fun _ => 0) 0 0 100))), (kHs, .inl (kcHs, 8, .inr (.inr (.inr (.inr (fun _ => none)))))), (kWk, .inl (kcWk, 6, .inl (fun _ => 0))), (kBk, .inl (kcBk, 12, .inl (fun _ => 0))), (aTp, .inl (cTp, 100, .inl (fun _ => 0))), (aHs, .inl (cHs, 8, .inr (.inr (.inr (.inr (fun _ => none)))))), (aWk, .inl (cWk, 6, .inl (fun _ => 0))), (aBk, .inl (cBk, 12, .inl (fun _ => 0)))] H := hP
  have hD : va_D A [(kp, .inr (10, [.ref kTp, .int 0, .ref aHl, .int 0, .long 0, .int 0, .int 0, .ref kHs, .int 0, .ref kWk, .int 0, .ref kBk, .int 0, .ref kFc])), (sc, .inr (10, [.ref aTp, .int 0, .ref aHl, .int 0, .long 0, .int 0, .int 0, .ref aHs, .int 0, .ref aWk, .int 0, .ref aBk, .int 0, .ref aFc])), (kTp, .inl (kcTp, 100, .inl (va_cpy (fun _ => 0) (fun _ => 0) 0 0 100))), (kHs, .inl (kcHs, 8, .inr (.inr (.inr (.inr (fun _ => none)))))), (kWk, .inl (kcWk, 6, .inl (fun _ => 0))), (kBk, .inl (kcBk, 12, .inl (fun _ => 0))), (aTp, .inl (cTp, 100, .inl (fun _ => 0))), (aHs, .inl (cHs, 8, .inr (.inr (.inr (.inr (fun _ => none)))))), (aWk, .inl (cWk, 6, .inl (fun _ => 0))), (aBk, .inl (cBk, 12, .inl (fun _ => 0)))] := hD
  refine lv_aload_n hx hb dX8_copyFrom_39 rfl (lv_at hl 0 rfl) ?_
  refine lv_aload_n hx hb dX8_copyFrom_40 rfl (lv_at hl 1 rfl) ?_
  refine va_get (D := (dC, dI)) (ci := 10) (v := .long 0) (C := RX8) (T := TX8) (N := 14) hx hb hts kc_copy0_0 hown hK hP 1 rfl rfl 4 (by decide) (hts (.fieldLink RX8 50 "MistHeaps$Scene" "edges" "J") kc_copy0_9) (fun _ h9 => h9) rfl dX8_copyFrom_41 ?_
  refine va_put (D := (dC, dI)) (ci := 10) (v := .long 0) (ty := .long) (C := RX8) (T := TX8) (N := 14) hx hb hts kc_copy0_0 tyX8 tyX8_ok nmX8 hown hK hP hD hS 0 rfl rfl 4 (by decide) (hts (.fieldLink RX8 50 "MistHeaps$Scene" "edges" "J") kc_copy0_9) (fun _ h9 => h9) rfl (by decide +kernel) rfl rfl (Nat.le_of_ble_eq_true rfl) dX8_copyFrom_44 (fun H locs hP hD hS => ?_)
  have hP : va_P (dC, dI) vwCl [(kp, .inr (10, [.ref kTp, .int 0, .ref aHl, .int 0, .long 0, .int 0, .int 0, .ref kHs, .int 0, .ref kWk, .int 0, .ref kBk, .int 0, .ref kFc])), (sc, .inr (10, [.ref aTp, .int 0, .ref aHl, .int 0, .long 0, .int 0, .int 0, .ref aHs, .int 0, .ref aWk, .int 0, .ref aBk, .int 0, .ref aFc])), (kTp, .inl (kcTp, 100, .inl (va_cpy (fun _ => 0) (fun _ => 0) 0 0 100))), (kHs, .inl (kcHs, 8, .inr (.inr (.inr (.inr (fun _ => none)))))), (kWk, .inl (kcWk, 6, .inl (fun _ => 0))), (kBk, .inl (kcBk, 12, .inl (fun _ => 0))), (aTp, .inl (cTp, 100, .inl (fun _ => 0))), (aHs, .inl (cHs, 8, .inr (.inr (.inr (.inr (fun _ => none)))))), (aWk, .inl (cWk, 6, .inl (fun _ => 0))), (aBk, .inl (cBk, 12, .inl (fun _ => 0)))] H := hP
  have hD : va_D A [(kp, .inr (10, [.ref kTp, .int 0, .ref aHl, .int 0, .long 0, .int 0, .int 0, .ref kHs, .int 0, .ref kWk, .int 0, .ref kBk, .int 0, .ref kFc])), (sc, .inr (10, [.ref aTp, .int 0, .ref aHl, .int 0, .long 0, .int 0, .int 0, .ref aHs, .int 0, .ref aWk, .int 0, .ref aBk, .int 0, .ref aFc])), (kTp, .inl (kcTp, 100, .inl (va_cpy (fun _ => 0) (fun _ => 0) 0 0 100))), (kHs, .inl (kcHs, 8, .inr (.inr (.inr (.inr (fun _ => none)))))), (kWk, .inl (kcWk, 6, .inl (fun _ => 0))), (kBk, .inl (kcBk, 12, .inl (fun _ => 0))), (aTp, .inl (cTp, 100, .inl (fun _ => 0))), (aHs, .inl (cHs, 8, .inr (.inr (.inr (.inr (fun _ => none)))))), (aWk, .inl (cWk, 6, .inl (fun _ => 0))), (aBk, .inl (cBk, 12, .inl (fun _ => 0)))] := hD
  refine lv_aload_n hx hb dX8_copyFrom_47 rfl (lv_at hl 0 rfl) ?_
  refine lv_aload_n hx hb dX8_copyFrom_48 rfl (lv_at hl 1 rfl) ?_
  refine va_get (D := (dC, dI)) (ci := 10) (v := .int 0) (C := RX8) (T := TX8) (N := 14) hx hb hts kc_copy0_0 hown hK hP 1 rfl rfl 5 (by decide) (hts (.fieldLink RX8 54 "MistHeaps$Scene" "mist" "I") kc_copy0_10) (fun _ h9 => h9) rfl dX8_copyFrom_49 ?_
  refine va_put (D := (dC, dI)) (ci := 10) (v := .int 0) (ty := .int) (C := RX8) (T := TX8) (N := 14) hx hb hts kc_copy0_0 tyX8 tyX8_ok nmX8 hown hK hP hD hS 0 rfl rfl 5 (by decide) (hts (.fieldLink RX8 54 "MistHeaps$Scene" "mist" "I") kc_copy0_10) (fun _ h9 => h9) rfl (by decide +kernel) rfl rfl (Nat.le_of_ble_eq_true rfl) dX8_copyFrom_52 (fun H locs hP hD hS => ?_)
  have hP : va_P (dC, dI) vwCl [(kp, .inr (10, [.ref kTp, .int 0, .ref aHl, .int 0, .long 0, .int 0, .int 0, .ref kHs, .int 0, .ref kWk, .int 0, .ref kBk, .int 0, .ref kFc])), (sc, .inr (10, [.ref aTp, .int 0, .ref aHl, .int 0, .long 0, .int 0, .int 0, .ref aHs, .int 0, .ref aWk, .int 0, .ref aBk, .int 0, .ref aFc])), (kTp, .inl (kcTp, 100, .inl (va_cpy (fun _ => 0) (fun _ => 0) 0 0 100))), (kHs, .inl (kcHs, 8, .inr (.inr (.inr (.inr (fun _ => none)))))), (kWk, .inl (kcWk, 6, .inl (fun _ => 0))), (kBk, .inl (kcBk, 12, .inl (fun _ => 0))), (aTp, .inl (cTp, 100, .inl (fun _ => 0))), (aHs, .inl (cHs, 8, .inr (.inr (.inr (.inr (fun _ => none)))))), (aWk, .inl (cWk, 6, .inl (fun _ => 0))), (aBk, .inl (cBk, 12, .inl (fun _ => 0)))] H := hP
  have hD : va_D A [(kp, .inr (10, [.ref kTp, .int 0, .ref aHl, .int 0, .long 0, .int 0, .int 0, .ref kHs, .int 0, .ref kWk, .int 0, .ref kBk, .int 0, .ref kFc])), (sc, .inr (10, [.ref aTp, .int 0, .ref aHl, .int 0, .long 0, .int 0, .int 0, .ref aHs, .int 0, .ref aWk, .int 0, .ref aBk, .int 0, .ref aFc])), (kTp, .inl (kcTp, 100, .inl (va_cpy (fun _ => 0) (fun _ => 0) 0 0 100))), (kHs, .inl (kcHs, 8, .inr (.inr (.inr (.inr (fun _ => none)))))), (kWk, .inl (kcWk, 6, .inl (fun _ => 0))), (kBk, .inl (kcBk, 12, .inl (fun _ => 0))), (aTp, .inl (cTp, 100, .inl (fun _ => 0))), (aHs, .inl (cHs, 8, .inr (.inr (.inr (.inr (fun _ => none)))))), (aWk, .inl (cWk, 6, .inl (fun _ => 0))), (aBk, .inl (cBk, 12, .inl (fun _ => 0)))] := hD
  refine lv_aload_n hx hb dX8_copyFrom_55 rfl (lv_at hl 0 rfl) ?_
  refine lv_aload_n hx hb dX8_copyFrom_56 rfl (lv_at hl 1 rfl) ?_
  refine va_get (D := (dC, dI)) (ci := 10) (v := .int 0) (C := RX8) (T := TX8) (N := 14) hx hb hts kc_copy0_0 hown hK hP 1 rfl rfl 6 (by decide) (hts (.fieldLink RX8 57 "MistHeaps$Scene" "snow" "I") kc_copy0_11) (fun _ h9 => h9) rfl dX8_copyFrom_57 ?_
  refine va_put (D := (dC, dI)) (ci := 10) (v := .int 0) (ty := .int) (C := RX8) (T := TX8) (N := 14) hx hb hts kc_copy0_0 tyX8 tyX8_ok nmX8 hown hK hP hD hS 0 rfl rfl 6 (by decide) (hts (.fieldLink RX8 57 "MistHeaps$Scene" "snow" "I") kc_copy0_11) (fun _ h9 => h9) rfl (by decide +kernel) rfl rfl (Nat.le_of_ble_eq_true rfl) dX8_copyFrom_60 (fun H locs hP hD hS => ?_)
  have hP : va_P (dC, dI) vwCl [(kp, .inr (10, [.ref kTp, .int 0, .ref aHl, .int 0, .long 0, .int 0, .int 0, .ref kHs, .int 0, .ref kWk, .int 0, .ref kBk, .int 0, .ref kFc])), (sc, .inr (10, [.ref aTp, .int 0, .ref aHl, .int 0, .long 0, .int 0, .int 0, .ref aHs, .int 0, .ref aWk, .int 0, .ref aBk, .int 0, .ref aFc])), (kTp, .inl (kcTp, 100, .inl (va_cpy (fun _ => 0) (fun _ => 0) 0 0 100))), (kHs, .inl (kcHs, 8, .inr (.inr (.inr (.inr (fun _ => none)))))), (kWk, .inl (kcWk, 6, .inl (fun _ => 0))), (kBk, .inl (kcBk, 12, .inl (fun _ => 0))), (aTp, .inl (cTp, 100, .inl (fun _ => 0))), (aHs, .inl (cHs, 8, .inr (.inr (.inr (.inr (fun _ => none)))))), (aWk, .inl (cWk, 6, .inl (fun _ => 0))), (aBk, .inl (cBk, 12, .inl (fun _ => 0)))] H := hP
  have hD : va_D A [(kp, .inr (10, [.ref kTp, .int 0, .ref aHl, .int 0, .long 0, .int 0, .int 0, .ref kHs, .int 0, .ref kWk, .int 0, .ref kBk, .int 0, .ref kFc])), (sc, .inr (10, [.ref aTp, .int 0, .ref aHl, .int 0, .long 0, .int 0, .int 0, .ref aHs, .int 0, .ref aWk, .int 0, .ref aBk, .int 0, .ref aFc])), (kTp, .inl (kcTp, 100, .inl (va_cpy (fun _ => 0) (fun _ => 0) 0 0 100))), (kHs, .inl (kcHs, 8, .inr (.inr (.inr (.inr (fun _ => none)))))), (kWk, .inl (kcWk, 6, .inl (fun _ => 0))), (kBk, .inl (kcBk, 12, .inl (fun _ => 0))), (aTp, .inl (cTp, 100, .inl (fun _ => 0))), (aHs, .inl (cHs, 8, .inr (.inr (.inr (.inr (fun _ => none)))))), (aWk, .inl (cWk, 6, .inl (fun _ => 0))), (aBk, .inl (cBk, 12, .inl (fun _ => 0)))] := hD
  refine lv_iconst (v := 0) hx hb dX8_copyFrom_63 (by decide) ?_
  refine lv_istore_n (lv' := [(2, .int 0), (0, .ref kp), (1, .ref sc)]) hx hb dX8_copyFrom_64 rfl hl (by decide) rfl (fun ls hl => ?_)
  have L65 : ∀ (nF : Nat) (i : Nat) (f : Nat → Option Nat), 8 - i < nF → (i ≤ 8) → ∀ (H : Heap) (locs : List Loc), va_K (dC, dI) vwCl [(kcTp, .int), (kcHs, .object "MistHeaps$Heap"), (kcWk, .int), (kcBk, .int), (cTp, .int), (cHs, .object "MistHeaps$Heap"), (cWk, .int), (cBk, .int)] s → va_P (dC, dI) vwCl [(kp, .inr (10, [.ref kTp, .int 0, .ref aHl, .int 0, .long 0, .int 0, .int 0, .ref kHs, .int 0, .ref kWk, .int 0, .ref kBk, .int 0, .ref kFc])), (sc, .inr (10, [.ref aTp, .int 0, .ref aHl, .int 0, .long 0, .int 0, .int 0, .ref aHs, .int 0, .ref aWk, .int 0, .ref aBk, .int 0, .ref aFc])), (kTp, .inl (kcTp, 100, .inl (va_cpy (fun _ => 0) (fun _ => 0) 0 0 100))), (kHs, .inl (kcHs, 8, .inr (.inr (.inr (.inr f))))), (kWk, .inl (kcWk, 6, .inl (fun _ => 0))), (kBk, .inl (kcBk, 12, .inl (fun _ => 0))), (aTp, .inl (cTp, 100, .inl (fun _ => 0))), (aHs, .inl (cHs, 8, .inr (.inr (.inr (.inr (fun _ => none)))))), (aWk, .inl (cWk, 6, .inl (fun _ => 0))), (aBk, .inl (cBk, 12, .inl (fun _ => 0)))] H → va_D A [(kp, .inr (10, [.ref kTp, .int 0, .ref aHl, .int 0, .long 0, .int 0, .int 0, .ref kHs, .int 0, .ref kWk, .int 0, .ref kBk, .int 0, .ref kFc])), (sc, .inr (10, [.ref aTp, .int 0, .ref aHl, .int 0, .long 0, .int 0, .int 0, .ref aHs, .int 0, .ref aWk, .int 0, .ref aBk, .int 0, .ref aFc])), (kTp, .inl (kcTp, 100, .inl (va_cpy (fun _ => 0) (fun _ => 0) 0 0 100))), (kHs, .inl (kcHs, 8, .inr (.inr (.inr (.inr f))))), (kWk, .inl (kcWk, 6, .inl (fun _ => 0))), (kBk, .inl (kcBk, 12, .inl (fun _ => 0))), (aTp, .inl (cTp, 100, .inl (fun _ => 0))), (aHs, .inl (cHs, 8, .inr (.inr (.inr (.inr (fun _ => none)))))), (aWk, .inl (cWk, 6, .inl (fun _ => 0))), (aBk, .inl (cBk, 12, .inl (fun _ => 0)))] → va_S A s.heap H locs → ∀ (ls : Array Slot), lv_has ls 3 [(0, .ref kp), (1, .ref sc), (2, .int (nI i))] → W p l e ({ frames := 1, cells := 0, slots := 0, locals := 60 } : Room) s m args below meth c H locs 0 0 Q (F0 m 65 ls []) := by
    intro nF
    induction nF with
    | zero => intro i f hm; exact absurd hm (Nat.not_lt_zero _)
    | succ nF ih65 =>
      intro i f hm hi H locs hK hP hD hS ls hl
      refine lv_iload_n hx hb dX8_copyFrom_65 rfl (lv_at hl 2 rfl) ?_
      refine lv_bipush (v := 8) hx hb dX8_copyFrom_66 (by decide) ?_
      refine lv_icmp_ge (tgt := 89) hx hb dX8_copyFrom_68 (by decide) (fun c_1 => ?_) (fun c_1 => ?_)
      · skip
        have c_1 : 8 ≤ i := (nI_leI (a := 8) (b := i) (by omega) (by omega)).mp c_1
        refine lv_aload_n hx hb dX8_copyFrom_89 rfl (lv_at hl 0 rfl) ?_
        refine lv_aload_n hx hb dX8_copyFrom_90 rfl (lv_at hl 1 rfl) ?_
        refine va_get (D := (dC, dI)) (ci := 10) (v := .int 0) (C := RX8) (T := TX8) (N := 14) hx hb hts kc_copy0_0 hown hK hP 1 rfl rfl 8 (by decide) (hts (.fieldLink RX8 60 "MistHeaps$Scene" "heapCount" "I") kc_copy0_12) (fun _ h9 => h9) rfl dX8_copyFrom_91 ?_
        refine va_put (D := (dC, dI)) (ci := 10) (v := .int 0) (ty := .int) (C := RX8) (T := TX8) (N := 14) hx hb hts kc_copy0_0 tyX8 tyX8_ok nmX8 hown hK hP hD hS 0 rfl rfl 8 (by decide) (hts (.fieldLink RX8 60 "MistHeaps$Scene" "heapCount" "I") kc_copy0_12) (fun _ h9 => h9) rfl (by decide +kernel) rfl rfl (Nat.le_of_ble_eq_true rfl) dX8_copyFrom_94 (fun H locs hP hD hS => ?_)
        have hP : va_P (dC, dI) vwCl [(kp, .inr (10, [.ref kTp, .int 0, .ref aHl, .int 0, .long 0, .int 0, .int 0, .ref kHs, .int 0, .ref kWk, .int 0, .ref kBk, .int 0, .ref kFc])), (sc, .inr (10, [.ref aTp, .int 0, .ref aHl, .int 0, .long 0, .int 0, .int 0, .ref aHs, .int 0, .ref aWk, .int 0, .ref aBk, .int 0, .ref aFc])), (kTp, .inl (kcTp, 100, .inl (va_cpy (fun _ => 0) (fun _ => 0) 0 0 100))), (kHs, .inl (kcHs, 8, .inr (.inr (.inr (.inr f))))), (kWk, .inl (kcWk, 6, .inl (fun _ => 0))), (kBk, .inl (kcBk, 12, .inl (fun _ => 0))), (aTp, .inl (cTp, 100, .inl (fun _ => 0))), (aHs, .inl (cHs, 8, .inr (.inr (.inr (.inr (fun _ => none)))))), (aWk, .inl (cWk, 6, .inl (fun _ => 0))), (aBk, .inl (cBk, 12, .inl (fun _ => 0)))] H := hP
        have hD : va_D A [(kp, .inr (10, [.ref kTp, .int 0, .ref aHl, .int 0, .long 0, .int 0, .int 0, .ref kHs, .int 0, .ref kWk, .int 0, .ref kBk, .int 0, .ref kFc])), (sc, .inr (10, [.ref aTp, .int 0, .ref aHl, .int 0, .long 0, .int 0, .int 0, .ref aHs, .int 0, .ref aWk, .int 0, .ref aBk, .int 0, .ref aFc])), (kTp, .inl (kcTp, 100, .inl (va_cpy (fun _ => 0) (fun _ => 0) 0 0 100))), (kHs, .inl (kcHs, 8, .inr (.inr (.inr (.inr f))))), (kWk, .inl (kcWk, 6, .inl (fun _ => 0))), (kBk, .inl (kcBk, 12, .inl (fun _ => 0))), (aTp, .inl (cTp, 100, .inl (fun _ => 0))), (aHs, .inl (cHs, 8, .inr (.inr (.inr (.inr (fun _ => none)))))), (aWk, .inl (cWk, 6, .inl (fun _ => 0))), (aBk, .inl (cBk, 12, .inl (fun _ => 0)))] := hD
        refine lv_aload_n hx hb dX8_copyFrom_97 rfl (lv_at hl 1 rfl) ?_
        refine va_get (D := (dC, dI)) (ci := 10) (v := .ref aWk) (C := RX8) (T := TX8) (N := 14) hx hb hts kc_copy0_0 hown hK hP 1 rfl rfl 9 (by decide) (hts (.fieldLink RX8 28 "MistHeaps$Scene" "walk" "[I") kc_copy0_13) (fun _ h9 => h9) rfl dX8_copyFrom_98 ?_
        refine lv_iconst (v := 0) hx hb dX8_copyFrom_101 (by decide) ?_
        refine lv_aload_n hx hb dX8_copyFrom_102 rfl (lv_at hl 0 rfl) ?_
        refine va_get (D := (dC, dI)) (ci := 10) (v := .ref kWk) (C := RX8) (T := TX8) (N := 14) hx hb hts kc_copy0_0 hown hK hP 0 rfl rfl 9 (by decide) (hts (.fieldLink RX8 28 "MistHeaps$Scene" "walk" "[I") kc_copy0_13) (fun _ h9 => h9) rfl dX8_copyFrom_103 ?_
        refine lv_iconst (v := 0) hx hb dX8_copyFrom_106 (by decide) ?_
        refine lv_bipush (v := 6) hx hb dX8_copyFrom_107 (by decide) ?_
        refine va_copyi hx hb (by rw [hml]; exact hl.1.symm) hown (hts (.methodLink RX8 37 arraycopyName) kc_copy0_2) (hts (.native arraycopyName) kc_copy0_3) (hts (.static arraycopyName) kc_copy0_4) (hts (.initialized "java/lang/System") kc_copy0_5) hK hP hD hS 8 4 6 2 rfl rfl rfl rfl rfl (by decide) (by decide) (by decide) (by decide) (by decide) (fun _ _ => rfl) (Nat.le_of_ble_eq_true rfl) (Nat.le_of_ble_eq_true rfl) dX8_copyFrom_109 (fun H locs hP hD hS => ?_)
        have hP : va_P (dC, dI) vwCl [(kp, .inr (10, [.ref kTp, .int 0, .ref aHl, .int 0, .long 0, .int 0, .int 0, .ref kHs, .int 0, .ref kWk, .int 0, .ref kBk, .int 0, .ref kFc])), (sc, .inr (10, [.ref aTp, .int 0, .ref aHl, .int 0, .long 0, .int 0, .int 0, .ref aHs, .int 0, .ref aWk, .int 0, .ref aBk, .int 0, .ref aFc])), (kTp, .inl (kcTp, 100, .inl (va_cpy (fun _ => 0) (fun _ => 0) 0 0 100))), (kHs, .inl (kcHs, 8, .inr (.inr (.inr (.inr f))))), (kWk, .inl (kcWk, 6, .inl (va_cpy (fun _ => 0) (fun _ => 0) 0 0 6))), (kBk, .inl (kcBk, 12, .inl (fun _ => 0))), (aTp, .inl (cTp, 100, .inl (fun _ => 0))), (aHs, .inl (cHs, 8, .inr (.inr (.inr (.inr (fun _ => none)))))), (aWk, .inl (cWk, 6, .inl (fun _ => 0))), (aBk, .inl (cBk, 12, .inl (fun _ => 0)))] H := hP
        have hD : va_D A [(kp, .inr (10, [.ref kTp, .int 0, .ref aHl, .int 0, .long 0, .int 0, .int 0, .ref kHs, .int 0, .ref kWk, .int 0, .ref kBk, .int 0, .ref kFc])), (sc, .inr (10, [.ref aTp, .int 0, .ref aHl, .int 0, .long 0, .int 0, .int 0, .ref aHs, .int 0, .ref aWk, .int 0, .ref aBk, .int 0, .ref aFc])), (kTp, .inl (kcTp, 100, .inl (va_cpy (fun _ => 0) (fun _ => 0) 0 0 100))), (kHs, .inl (kcHs, 8, .inr (.inr (.inr (.inr f))))), (kWk, .inl (kcWk, 6, .inl (va_cpy (fun _ => 0) (fun _ => 0) 0 0 6))), (kBk, .inl (kcBk, 12, .inl (fun _ => 0))), (aTp, .inl (cTp, 100, .inl (fun _ => 0))), (aHs, .inl (cHs, 8, .inr (.inr (.inr (.inr (fun _ => none)))))), (aWk, .inl (cWk, 6, .inl (fun _ => 0))), (aBk, .inl (cBk, 12, .inl (fun _ => 0)))] := hD
        refine lv_aload_n hx hb dX8_copyFrom_112 rfl (lv_at hl 0 rfl) ?_
        refine lv_aload_n hx hb dX8_copyFrom_113 rfl (lv_at hl 1 rfl) ?_
        refine va_get (D := (dC, dI)) (ci := 10) (v := .int 0) (C := RX8) (T := TX8) (N := 14) hx hb hts kc_copy0_0 hown hK hP 1 rfl rfl 10 (by decide) (hts (.fieldLink RX8 63 "MistHeaps$Scene" "walkSize" "I") kc_copy0_14) (fun _ h9 => h9) rfl dX8_copyFrom_114 ?_
        refine va_put (D := (dC, dI)) (ci := 10) (v := .int 0) (ty := .int) (C := RX8) (T := TX8) (N := 14) hx hb hts kc_copy0_0 tyX8 tyX8_ok nmX8 hown hK hP hD hS 0 rfl rfl 10 (by decide) (hts (.fieldLink RX8 63 "MistHeaps$Scene" "walkSize" "I") kc_copy0_14) (fun _ h9 => h9) rfl (by decide +kernel) rfl rfl (Nat.le_of_ble_eq_true rfl) dX8_copyFrom_117 (fun H locs hP hD hS => ?_)
        have hP : va_P (dC, dI) vwCl [(kp, .inr (10, [.ref kTp, .int 0, .ref aHl, .int 0, .long 0, .int 0, .int 0, .ref kHs, .int 0, .ref kWk, .int 0, .ref kBk, .int 0, .ref kFc])), (sc, .inr (10, [.ref aTp, .int 0, .ref aHl, .int 0, .long 0, .int 0, .int 0, .ref aHs, .int 0, .ref aWk, .int 0, .ref aBk, .int 0, .ref aFc])), (kTp, .inl (kcTp, 100, .inl (va_cpy (fun _ => 0) (fun _ => 0) 0 0 100))), (kHs, .inl (kcHs, 8, .inr (.inr (.inr (.inr f))))), (kWk, .inl (kcWk, 6, .inl (va_cpy (fun _ => 0) (fun _ => 0) 0 0 6))), (kBk, .inl (kcBk, 12, .inl (fun _ => 0))), (aTp, .inl (cTp, 100, .inl (fun _ => 0))), (aHs, .inl (cHs, 8, .inr (.inr (.inr (.inr (fun _ => none)))))), (aWk, .inl (cWk, 6, .inl (fun _ => 0))), (aBk, .inl (cBk, 12, .inl (fun _ => 0)))] H := hP
        have hD : va_D A [(kp, .inr (10, [.ref kTp, .int 0, .ref aHl, .int 0, .long 0, .int 0, .int 0, .ref kHs, .int 0, .ref kWk, .int 0, .ref kBk, .int 0, .ref kFc])), (sc, .inr (10, [.ref aTp, .int 0, .ref aHl, .int 0, .long 0, .int 0, .int 0, .ref aHs, .int 0, .ref aWk, .int 0, .ref aBk, .int 0, .ref aFc])), (kTp, .inl (kcTp, 100, .inl (va_cpy (fun _ => 0) (fun _ => 0) 0 0 100))), (kHs, .inl (kcHs, 8, .inr (.inr (.inr (.inr f))))), (kWk, .inl (kcWk, 6, .inl (va_cpy (fun _ => 0) (fun _ => 0) 0 0 6))), (kBk, .inl (kcBk, 12, .inl (fun _ => 0))), (aTp, .inl (cTp, 100, .inl (fun _ => 0))), (aHs, .inl (cHs, 8, .inr (.inr (.inr (.inr (fun _ => none)))))), (aWk, .inl (cWk, 6, .inl (fun _ => 0))), (aBk, .inl (cBk, 12, .inl (fun _ => 0)))] := hD
        refine lv_aload_n hx hb dX8_copyFrom_120 rfl (lv_at hl 1 rfl) ?_
        refine va_get (D := (dC, dI)) (ci := 10) (v := .ref aBk) (C := RX8) (T := TX8) (N := 14) hx hb hts kc_copy0_0 hown hK hP 1 rfl rfl 11 (by decide) (hts (.fieldLink RX8 31 "MistHeaps$Scene" "book" "[I") kc_copy0_15) (fun _ h9 => h9) rfl dX8_copyFrom_121 ?_
        refine lv_iconst (v := 0) hx hb dX8_copyFrom_124 (by decide) ?_
        refine lv_aload_n hx hb dX8_copyFrom_125 rfl (lv_at hl 0 rfl) ?_
        refine va_get (D := (dC, dI)) (ci := 10) (v := .ref kBk) (C := RX8) (T := TX8) (N := 14) hx hb hts kc_copy0_0 hown hK hP 0 rfl rfl 11 (by decide) (hts (.fieldLink RX8 31 "MistHeaps$Scene" "book" "[I") kc_copy0_15) (fun _ h9 => h9) rfl dX8_copyFrom_126 ?_
        refine lv_iconst (v := 0) hx hb dX8_copyFrom_129 (by decide) ?_
        refine lv_bipush (v := 12) hx hb dX8_copyFrom_130 (by decide) ?_
        refine va_copyi hx hb (by rw [hml]; exact hl.1.symm) hown (hts (.methodLink RX8 37 arraycopyName) kc_copy0_2) (hts (.native arraycopyName) kc_copy0_3) (hts (.static arraycopyName) kc_copy0_4) (hts (.initialized "java/lang/System") kc_copy0_5) hK hP hD hS 9 5 7 3 rfl rfl rfl rfl rfl (by decide) (by decide) (by decide) (by decide) (by decide) (fun _ _ => rfl) (Nat.le_of_ble_eq_true rfl) (Nat.le_of_ble_eq_true rfl) dX8_copyFrom_132 (fun H locs hP hD hS => ?_)
        have hP : va_P (dC, dI) vwCl [(kp, .inr (10, [.ref kTp, .int 0, .ref aHl, .int 0, .long 0, .int 0, .int 0, .ref kHs, .int 0, .ref kWk, .int 0, .ref kBk, .int 0, .ref kFc])), (sc, .inr (10, [.ref aTp, .int 0, .ref aHl, .int 0, .long 0, .int 0, .int 0, .ref aHs, .int 0, .ref aWk, .int 0, .ref aBk, .int 0, .ref aFc])), (kTp, .inl (kcTp, 100, .inl (va_cpy (fun _ => 0) (fun _ => 0) 0 0 100))), (kHs, .inl (kcHs, 8, .inr (.inr (.inr (.inr f))))), (kWk, .inl (kcWk, 6, .inl (va_cpy (fun _ => 0) (fun _ => 0) 0 0 6))), (kBk, .inl (kcBk, 12, .inl (va_cpy (fun _ => 0) (fun _ => 0) 0 0 12))), (aTp, .inl (cTp, 100, .inl (fun _ => 0))), (aHs, .inl (cHs, 8, .inr (.inr (.inr (.inr (fun _ => none)))))), (aWk, .inl (cWk, 6, .inl (fun _ => 0))), (aBk, .inl (cBk, 12, .inl (fun _ => 0)))] H := hP
        have hD : va_D A [(kp, .inr (10, [.ref kTp, .int 0, .ref aHl, .int 0, .long 0, .int 0, .int 0, .ref kHs, .int 0, .ref kWk, .int 0, .ref kBk, .int 0, .ref kFc])), (sc, .inr (10, [.ref aTp, .int 0, .ref aHl, .int 0, .long 0, .int 0, .int 0, .ref aHs, .int 0, .ref aWk, .int 0, .ref aBk, .int 0, .ref aFc])), (kTp, .inl (kcTp, 100, .inl (va_cpy (fun _ => 0) (fun _ => 0) 0 0 100))), (kHs, .inl (kcHs, 8, .inr (.inr (.inr (.inr f))))), (kWk, .inl (kcWk, 6, .inl (va_cpy (fun _ => 0) (fun _ => 0) 0 0 6))), (kBk, .inl (kcBk, 12, .inl (va_cpy (fun _ => 0) (fun _ => 0) 0 0 12))), (aTp, .inl (cTp, 100, .inl (fun _ => 0))), (aHs, .inl (cHs, 8, .inr (.inr (.inr (.inr (fun _ => none)))))), (aWk, .inl (cWk, 6, .inl (fun _ => 0))), (aBk, .inl (cBk, 12, .inl (fun _ => 0)))] := hD
        refine lv_aload_n hx hb dX8_copyFrom_135 rfl (lv_at hl 0 rfl) ?_
        refine lv_aload_n hx hb dX8_copyFrom_136 rfl (lv_at hl 1 rfl) ?_
        refine va_get (D := (dC, dI)) (ci := 10) (v := .int 0) (C := RX8) (T := TX8) (N := 14) hx hb hts kc_copy0_0 hown hK hP 1 rfl rfl 12 (by decide) (hts (.fieldLink RX8 66 "MistHeaps$Scene" "bookSize" "I") kc_copy0_16) (fun _ h9 => h9) rfl dX8_copyFrom_137 ?_
        refine va_put (D := (dC, dI)) (ci := 10) (v := .int 0) (ty := .int) (C := RX8) (T := TX8) (N := 14) hx hb hts kc_copy0_0 tyX8 tyX8_ok nmX8 hown hK hP hD hS 0 rfl rfl 12 (by decide) (hts (.fieldLink RX8 66 "MistHeaps$Scene" "bookSize" "I") kc_copy0_16) (fun _ h9 => h9) rfl (by decide +kernel) rfl rfl (Nat.le_of_ble_eq_true rfl) dX8_copyFrom_140 (fun H locs hP hD hS => ?_)
        have hP : va_P (dC, dI) vwCl [(kp, .inr (10, [.ref kTp, .int 0, .ref aHl, .int 0, .long 0, .int 0, .int 0, .ref kHs, .int 0, .ref kWk, .int 0, .ref kBk, .int 0, .ref kFc])), (sc, .inr (10, [.ref aTp, .int 0, .ref aHl, .int 0, .long 0, .int 0, .int 0, .ref aHs, .int 0, .ref aWk, .int 0, .ref aBk, .int 0, .ref aFc])), (kTp, .inl (kcTp, 100, .inl (va_cpy (fun _ => 0) (fun _ => 0) 0 0 100))), (kHs, .inl (kcHs, 8, .inr (.inr (.inr (.inr f))))), (kWk, .inl (kcWk, 6, .inl (va_cpy (fun _ => 0) (fun _ => 0) 0 0 6))), (kBk, .inl (kcBk, 12, .inl (va_cpy (fun _ => 0) (fun _ => 0) 0 0 12))), (aTp, .inl (cTp, 100, .inl (fun _ => 0))), (aHs, .inl (cHs, 8, .inr (.inr (.inr (.inr (fun _ => none)))))), (aWk, .inl (cWk, 6, .inl (fun _ => 0))), (aBk, .inl (cBk, 12, .inl (fun _ => 0)))] H := hP
        have hD : va_D A [(kp, .inr (10, [.ref kTp, .int 0, .ref aHl, .int 0, .long 0, .int 0, .int 0, .ref kHs, .int 0, .ref kWk, .int 0, .ref kBk, .int 0, .ref kFc])), (sc, .inr (10, [.ref aTp, .int 0, .ref aHl, .int 0, .long 0, .int 0, .int 0, .ref aHs, .int 0, .ref aWk, .int 0, .ref aBk, .int 0, .ref aFc])), (kTp, .inl (kcTp, 100, .inl (va_cpy (fun _ => 0) (fun _ => 0) 0 0 100))), (kHs, .inl (kcHs, 8, .inr (.inr (.inr (.inr f))))), (kWk, .inl (kcWk, 6, .inl (va_cpy (fun _ => 0) (fun _ => 0) 0 0 6))), (kBk, .inl (kcBk, 12, .inl (va_cpy (fun _ => 0) (fun _ => 0) 0 0 12))), (aTp, .inl (cTp, 100, .inl (fun _ => 0))), (aHs, .inl (cHs, 8, .inr (.inr (.inr (.inr (fun _ => none)))))), (aWk, .inl (cWk, 6, .inl (fun _ => 0))), (aBk, .inl (cBk, 12, .inl (fun _ => 0)))] := hD
        rw [hQ]
        have hP9 := hP.sub (ws' := [(sc, .inr (10, [.ref aTp, .int 0, .ref aHl, .int 0, .long 0, .int 0, .int 0, .ref aHs, .int 0, .ref aWk, .int 0, .ref aBk, .int 0, .ref aFc]))]) [1] rfl
        have hD9 := hD.sub (ws' := [(sc, .inr (10, [.ref aTp, .int 0, .ref aHl, .int 0, .long 0, .int 0, .int 0, .ref aHs, .int 0, .ref aWk, .int 0, .ref aBk, .int 0, .ref aFc]))]) [1] (by decide) rfl
        have hK9 := hK.sub (tys' := []) [] rfl
        exact W.vret hx hb hr (fun tQ htQ hWQ => ⟨⟨(), rfl, trivial, by rw [htQ]; exact hP9, va_K.moved hWQ.alike hK9, hD9⟩, hS.F htQ⟩) hS.2.2 dX8_copyFrom_143
      · skip
        have c_1 : ¬ 8 ≤ i := fun q => c_1 ((nI_leI (a := 8) (b := i) (by omega) (by omega)).mpr q)
        refine lv_aload_n hx hb dX8_copyFrom_71 rfl (lv_at hl 0 rfl) ?_
        refine va_get (D := (dC, dI)) (ci := 10) (v := .ref kHs) (C := RX8) (T := TX8) (N := 14) hx hb hts kc_copy0_0 hown hK hP 0 rfl rfl 7 (by decide) (hts (.fieldLink RX8 24 "MistHeaps$Scene" "heaps" "[LMistHeaps$Heap;") kc_copy0_17) (fun _ h9 => h9) rfl dX8_copyFrom_72 ?_
        refine lv_iload_n hx hb dX8_copyFrom_75 rfl (lv_at hl 2 rfl) ?_
        refine lv_aload_n hx hb dX8_copyFrom_76 rfl (lv_at hl 1 rfl) ?_
        refine va_get (D := (dC, dI)) (ci := 10) (v := .ref aHs) (C := RX8) (T := TX8) (N := 14) hx hb hts kc_copy0_0 hown hK hP 1 rfl rfl 7 (by decide) (hts (.fieldLink RX8 24 "MistHeaps$Scene" "heaps" "[LMistHeaps$Heap;") kc_copy0_17) (fun _ h9 => h9) rfl dX8_copyFrom_77 ?_
        refine lv_iload_n hx hb dX8_copyFrom_80 rfl (lv_at hl 2 rfl) ?_
        refine va_aldq hx hb hK hP 7 5 rfl rfl (vp_in_nI (n := i) (N := 8) (by omega) (by omega)) dX8_copyFrom_81 ?_
        refine qq_as (v := .null) (rfl) ?_
        refine va_astqN hx hb hK hP hD hS 3 1 rfl rfl (vp_in_nI (n := i) (N := 8) (by omega) (by omega)) dX8_copyFrom_82 (fun H locs hP hD hS => ?_)
        rw [nI_clamp (n := i) (by omega)] at hP hD
        have hP : va_P (dC, dI) vwCl [(kp, .inr (10, [.ref kTp, .int 0, .ref aHl, .int 0, .long 0, .int 0, .int 0, .ref kHs, .int 0, .ref kWk, .int 0, .ref kBk, .int 0, .ref kFc])), (sc, .inr (10, [.ref aTp, .int 0, .ref aHl, .int 0, .long 0, .int 0, .int 0, .ref aHs, .int 0, .ref aWk, .int 0, .ref aBk, .int 0, .ref aFc])), (kTp, .inl (kcTp, 100, .inl (va_cpy (fun _ => 0) (fun _ => 0) 0 0 100))), (kHs, .inl (kcHs, 8, .inr (.inr (.inr (.inr (va_up f i none)))))), (kWk, .inl (kcWk, 6, .inl (fun _ => 0))), (kBk, .inl (kcBk, 12, .inl (fun _ => 0))), (aTp, .inl (cTp, 100, .inl (fun _ => 0))), (aHs, .inl (cHs, 8, .inr (.inr (.inr (.inr (fun _ => none)))))), (aWk, .inl (cWk, 6, .inl (fun _ => 0))), (aBk, .inl (cBk, 12, .inl (fun _ => 0)))] H := hP
        have hD : va_D A [(kp, .inr (10, [.ref kTp, .int 0, .ref aHl, .int 0, .long 0, .int 0, .int 0, .ref kHs, .int 0, .ref kWk, .int 0, .ref kBk, .int 0, .ref kFc])), (sc, .inr (10, [.ref aTp, .int 0, .ref aHl, .int 0, .long 0, .int 0, .int 0, .ref aHs, .int 0, .ref aWk, .int 0, .ref aBk, .int 0, .ref aFc])), (kTp, .inl (kcTp, 100, .inl (va_cpy (fun _ => 0) (fun _ => 0) 0 0 100))), (kHs, .inl (kcHs, 8, .inr (.inr (.inr (.inr (va_up f i none)))))), (kWk, .inl (kcWk, 6, .inl (fun _ => 0))), (kBk, .inl (kcBk, 12, .inl (fun _ => 0))), (aTp, .inl (cTp, 100, .inl (fun _ => 0))), (aHs, .inl (cHs, 8, .inr (.inr (.inr (.inr (fun _ => none)))))), (aWk, .inl (cWk, 6, .inl (fun _ => 0))), (aBk, .inl (cBk, 12, .inl (fun _ => 0)))] := hD
        refine lv_iinc (v := nI (i + 1)) (lv' := [(2, .int (nI (i + 1))), (0, .ref kp), (1, .ref sc)]) hx hb dX8_copyFrom_83 hl (k := 2) rfl (nI_add i 1) (by decide) rfl (fun ls hl => ?_)
        refine lv_goto (tgt := 65) hx hb dX8_copyFrom_86 (by decide) ?_
        exact ih65 _ _ (by omega) (by omega) _ _ (hK.sub [0, 1, 2, 3, 4, 5, 6, 7] rfl) (hP.sub [0, 1, 2, 3, 4, 5, 6, 7, 8, 9] rfl) (hD.sub [0, 1, 2, 3, 4, 5, 6, 7, 8, 9] (by decide) rfl) hS ls (lv_sub hl [1, 2, 0] rfl)
  exact L65 _ (0) _ (Nat.lt_succ_self _) (by omega) _ _ (hK.sub [0, 1, 2, 3, 4, 5, 6, 7] rfl) (hP.sub [0, 1, 2, 3, 4, 5, 6, 7, 8, 9] rfl) (hD.sub [0, 1, 2, 3, 4, 5, 6, 7, 8, 9] (by decide) rfl) hS ls (lv_sub hl [1, 2, 0] rfl)

theorem kc_xImage_0 : ∀ w ∈ wsX110, w ∈ wsX11_image := by decide +kernel
theorem kc_xImage_1 : (.fieldLink RX11 18 "MistHeaps" "kept" "LMistHeaps$Scene;" : Cond) ∈ wsX11_image := by decide +kernel
theorem kc_xImage_2 : (.fieldLink RX11 14 "MistHeaps" "scene" "LMistHeaps$Scene;" : Cond) ∈ wsX11_image := by decide +kernel
theorem kc_xImage_3 : (.fieldLink RX11 21 "MistHeaps" "isKept" "Z" : Cond) ∈ wsX11_image := by decide +kernel
theorem kc_xImage_4 : ∀ w ∈ wsX80, w ∈ wsX11_image := by decide +kernel
theorem kc_xImage_5 : (.fieldLink RX11 101 "MistHeaps$Scene" "heapCount" "I" : Cond) ∈ wsX11_image := by decide +kernel
set_option maxHeartbeats 4000000 in
set_option maxRecDepth 100000 in
theorem c_xImage (l : Launch) (dC : Nat → ClassId) (dI : Nat → Nat → Nat) (h0 sc bl go ch bo aTp aHl aHs aWk aBk aFc : Nat) (kp kTp kHl kHs kWk kBk kFc : Nat) (kcTp kcHs kcWk kcBk cTp cHs cWk cBk : ClassId) (sz : Nat) : Met l yX11_image wsX11_image ({ frames := 2, cells := 0, slots := 0, locals := 82 } : Room) (va_Pc [.ref h0] (fun U => U.heap.size = sz ∧ va_P (dC, dI) vwCl [(h0, .inr (13, [.ref sc, .ref kp, .int 0, .ref bl, .ref go, .ref ch, .ref bo])), (sc, .inr (10, [.ref aTp, .int 0, .ref aHl, .int 0, .long 0, .int 0, .int 0, .ref aHs, .int 0, .ref aWk, .int 0, .ref aBk, .int 0, .ref aFc])), (kp, .inr (10, [.ref kTp, .int 0, .ref kHl, .int 0, .long 0, .int 0, .int 0, .ref kHs, .int 0, .ref kWk, .int 0, .ref kBk, .int 0, .ref kFc])), (kTp, .inl (kcTp, 100, .inl (fun _ => 0))), (kHs, .inl (kcHs, 8, .inr (.inr (.inr (.inr (fun _ => none)))))), (kWk, .inl (kcWk, 6, .inl (fun _ => 0))), (kBk, .inl (kcBk, 12, .inl (fun _ => 0))), (aTp, .inl (cTp, 100, .inl (fun _ => 0))), (aHs, .inl (cHs, 8, .inr (.inr (.inr (.inr (fun _ => none)))))), (aWk, .inl (cWk, 6, .inl (fun _ => 0))), (aBk, .inl (cBk, 12, .inl (fun _ => 0)))] U.heap ∧ va_K (dC, dI) vwCl [(kcTp, .int), (kcHs, .object "MistHeaps$Heap"), (kcWk, .int), (kcBk, .int), (cTp, .int), (cHs, .object "MistHeaps$Heap"), (cWk, .int), (cBk, .int)] U ∧ va_D (fun _ => True) [(h0, .inr (13, [.ref sc, .ref kp, .int 0, .ref bl, .ref go, .ref ch, .ref bo])), (sc, .inr (10, [.ref aTp, .int 0, .ref aHl, .int 0, .long 0, .int 0, .int 0, .ref aHs, .int 0, .ref aWk, .int 0, .ref aBk, .int 0, .ref aFc])), (kp, .inr (10, [.ref kTp, .int 0, .ref kHl, .int 0, .long 0, .int 0, .int 0, .ref kHs, .int 0, .ref kWk, .int 0, .ref kBk, .int 0, .ref kFc])), (kTp, .inl (kcTp, 100, .inl (fun _ => 0))), (kHs, .inl (kcHs, 8, .inr (.inr (.inr (.inr (fun _ => none)))))), (kWk, .inl (kcWk, 6, .inl (fun _ => 0))), (kBk, .inl (kcBk, 12, .inl (fun _ => 0))), (aTp, .inl (cTp, 100, .inl (fun _ => 0))), (aHs, .inl (cHs, 8, .inr (.inr (.inr (.inr (fun _ => none)))))), (aWk, .inl (cWk, 6, .inl (fun _ => 0))), (aBk, .inl (cBk, 12, .inl (fun _ => 0)))])) (va_Qi (fun (r : Int32) (u : Unit) => match u with | () => r = 0) (fun (u : Unit) (t : State) => match u with | () => True) (va_A [(h0, .inr (13, [.ref sc, .ref kp, .int 0, .ref bl, .ref go, .ref ch, .ref bo])), (sc, .inr (10, [.ref aTp, .int 0, .ref aHl, .int 0, .long 0, .int 0, .int 0, .ref aHs, .int 0, .ref aWk, .int 0, .ref aBk, .int 0, .ref aFc])), (kp, .inr (10, [.ref kTp, .int 0, .ref kHl, .int 0, .long 0, .int 0, .int 0, .ref kHs, .int 0, .ref kWk, .int 0, .ref kBk, .int 0, .ref kFc])), (kTp, .inl (kcTp, 100, .inl (fun _ => 0))), (kHs, .inl (kcHs, 8, .inr (.inr (.inr (.inr (fun _ => none)))))), (kWk, .inl (kcWk, 6, .inl (fun _ => 0))), (kBk, .inl (kcBk, 12, .inl (fun _ => 0))), (aTp, .inl (cTp, 100, .inl (fun _ => 0))), (aHs, .inl (cHs, 8, .inr (.inr (.inr (.inr (fun _ => none)))))), (aWk, .inl (cWk, 6, .inl (fun _ => 0))), (aBk, .inl (cBk, 12, .inl (fun _ => 0)))] sz)) 0 0 (va_A [(h0, .inr (13, [.ref sc, .ref kp, .int 0, .ref bl, .ref go, .ref ch, .ref bo])), (sc, .inr (10, [.ref aTp, .int 0, .ref aHl, .int 0, .long 0, .int 0, .int 0, .ref aHs, .int 0, .ref aWk, .int 0, .ref aBk, .int 0, .ref aFc])), (kp, .inr (10, [.ref kTp, .int 0, .ref kHl, .int 0, .long 0, .int 0, .int 0, .ref kHs, .int 0, .ref kWk, .int 0, .ref kBk, .int 0, .ref kFc])), (kTp, .inl (kcTp, 100, .inl (fun _ => 0))), (kHs, .inl (kcHs, 8, .inr (.inr (.inr (.inr (fun _ => none)))))), (kWk, .inl (kcWk, 6, .inl (fun _ => 0))), (kBk, .inl (kcBk, 12, .inl (fun _ => 0))), (aTp, .inl (cTp, 100, .inl (fun _ => 0))), (aHs, .inl (cHs, 8, .inr (.inr (.inr (.inr (fun _ => none)))))), (aWk, .inl (cWk, 6, .inl (fun _ => 0))), (aBk, .inl (cBk, 12, .inl (fun _ => 0)))] sz) := by
  refine met_ofQ (cc := cX11_image) (maxL := 1) (ret := (some .int)) (by decide) rfl ?_
  intro p e s m args below meth c s₁ Q B hml hv hQ
  obtain ⟨rfl, hsz, hP, hK, hD0⟩ := hv
  have hx := B.exec
  have hb := B.bytes
  have hr := B.returns
  have hts := atoms_spec (ws := wsX11_image) B.pre
  have hown : s.vm.findClass RX11 = some m.cls := findClass_of_methodNamed B.named
  have hlocks := B.notSynchronized
  subst hsz
  have hD := hD0.self (sz := s.heap.size)
  generalize hAe : va_A [(h0, .inr (13, [.ref sc, .ref kp, .int 0, .ref bl, .ref go, .ref ch, .ref bo])), (sc, .inr (10, [.ref aTp, .int 0, .ref aHl, .int 0, .long 0, .int 0, .int 0, .ref aHs, .int 0, .ref aWk, .int 0, .ref aBk, .int 0, .ref aFc])), (kp, .inr (10, [.ref kTp, .int 0, .ref kHl, .int 0, .long 0, .int 0, .int 0, .ref kHs, .int 0, .ref kWk, .int 0, .ref kBk, .int 0, .ref kFc])), (kTp, .inl (kcTp, 100, .inl (fun _ => 0))), (kHs, .inl (kcHs, 8, .inr (.inr (.inr (.inr (fun _ => none)))))), (kWk, .inl (kcWk, 6, .inl (fun _ => 0))), (kBk, .inl (kcBk, 12, .inl (fun _ => 0))), (aTp, .inl (cTp, 100, .inl (fun _ => 0))), (aHs, .inl (cHs, 8, .inr (.inr (.inr (.inr (fun _ => none)))))), (aWk, .inl (cWk, 6, .inl (fun _ => 0))), (aBk, .inl (cBk, 12, .inl (fun _ => 0)))] s.heap.size = A at hD hQ ⊢
  have hA : ∀ q : Nat, s.heap.size ≤ q → A q := fun q h => by rw [← hAe]; exact Or.inr h
  have hS : va_S A s.heap s.heap [] := va_S.rf
  have hl := lv_entry [.ref h0] (n := 1) (Nat.le_of_ble_eq_true rfl)
  rw [lg_entry_eq]
  generalize (lg_sl [.ref h0] ++ List.replicate (1 - (lg_sl [.ref h0]).length) Slot.unset).toArray = ls at hl ⊢
  generalize hag : ([.ref h0] : List Value).toArray = args at hts hQ ⊢
  have hl : lv_has ls 1 [(0, .ref h0)] := hl
  obtain ⟨H, hH⟩ : ∃ H : Heap, H = s.heap := ⟨_, rfl⟩
  rw [← hH] at hP
  rw [← hH]
  have hS : va_S A s.heap H [] := by rw [hH]; exact hS
  obtain ⟨locs, hlo⟩ : ∃ L : List Loc, L = [] := ⟨_, rfl⟩
  rw [← hlo] at hS
  rw [← hlo]
  clear hH hlo
  refine lv_aload_n hx hb dX11_image_0 rfl (lv_at hl 0 rfl) ?_
  refine va_get (D := (dC, dI)) (ci := 13) (v := .ref kp) (C := RX11) (T := TX11) (N := 7) hx hb hts kc_xImage_0 hown hK hP 0 rfl rfl 1 (by decide) (hts (.fieldLink RX11 18 "MistHeaps" "kept" "LMistHeaps$Scene;") kc_xImage_1) (fun _ h9 => h9) rfl dX11_image_1 ?_
  refine lv_aload_n hx hb dX11_image_4 rfl (lv_at hl 0 rfl) ?_
  refine va_get (D := (dC, dI)) (ci := 13) (v := .ref sc) (C := RX11) (T := TX11) (N := 7) hx hb hts kc_xImage_0 hown hK hP 0 rfl rfl 0 (by decide) (hts (.fieldLink RX11 14 "MistHeaps" "scene" "LMistHeaps$Scene;") kc_xImage_2) (fun _ h9 => h9) rfl dX11_image_5 ?_
  have hPc := hP.sub (ws' := [(kp, .inr (10, [.ref kTp, .int 0, .ref kHl, .int 0, .long 0, .int 0, .int 0, .ref kHs, .int 0, .ref kWk, .int 0, .ref kBk, .int 0, .ref kFc])), (sc, .inr (10, [.ref aTp, .int 0, .ref aHl, .int 0, .long 0, .int 0, .int 0, .ref aHs, .int 0, .ref aWk, .int 0, .ref aBk, .int 0, .ref aFc])), (kTp, .inl (kcTp, 100, .inl (fun _ => 0))), (kHs, .inl (kcHs, 8, .inr (.inr (.inr (.inr (fun _ => none)))))), (kWk, .inl (kcWk, 6, .inl (fun _ => 0))), (kBk, .inl (kcBk, 12, .inl (fun _ => 0))), (aTp, .inl (cTp, 100, .inl (fun _ => 0))), (aHs, .inl (cHs, 8, .inr (.inr (.inr (.inr (fun _ => none)))))), (aWk, .inl (cWk, 6, .inl (fun _ => 0))), (aBk, .inl (cBk, 12, .inl (fun _ => 0)))]) [2, 1, 3, 4, 5, 6, 7, 8, 9, 10] rfl
  have hDc := hD.sub (ws' := [(kp, .inr (10, [.ref kTp, .int 0, .ref kHl, .int 0, .long 0, .int 0, .int 0, .ref kHs, .int 0, .ref kWk, .int 0, .ref kBk, .int 0, .ref kFc])), (sc, .inr (10, [.ref aTp, .int 0, .ref aHl, .int 0, .long 0, .int 0, .int 0, .ref aHs, .int 0, .ref aWk, .int 0, .ref aBk, .int 0, .ref aFc])), (kTp, .inl (kcTp, 100, .inl (fun _ => 0))), (kHs, .inl (kcHs, 8, .inr (.inr (.inr (.inr (fun _ => none)))))), (kWk, .inl (kcWk, 6, .inl (fun _ => 0))), (kBk, .inl (kcBk, 12, .inl (fun _ => 0))), (aTp, .inl (cTp, 100, .inl (fun _ => 0))), (aHs, .inl (cHs, 8, .inr (.inr (.inr (.inr (fun _ => none)))))), (aWk, .inl (cWk, 6, .inl (fun _ => 0))), (aBk, .inl (cBk, 12, .inl (fun _ => 0)))]) [2, 1, 3, 4, 5, 6, 7, 8, 9, 10] (by decide) rfl
  have hKc := hK.sub (tys' := [(kcTp, .int), (kcHs, .object "MistHeaps$Heap"), (kcWk, .int), (kcBk, .int), (cTp, .int), (cHs, .object "MistHeaps$Heap"), (cWk, .int), (cBk, .int)]) [0, 1, 2, 3, 4, 5, 6, 7] rfl
  have hFc := va_free (wc := [(kp, .inr (10, [.ref kTp, .int 0, .ref kHl, .int 0, .long 0, .int 0, .int 0, .ref kHs, .int 0, .ref kWk, .int 0, .ref kBk, .int 0, .ref kFc])), (sc, .inr (10, [.ref aTp, .int 0, .ref aHl, .int 0, .long 0, .int 0, .int 0, .ref aHs, .int 0, .ref aWk, .int 0, .ref aBk, .int 0, .ref aFc])), (kTp, .inl (kcTp, 100, .inl (fun _ => 0))), (kHs, .inl (kcHs, 8, .inr (.inr (.inr (.inr (fun _ => none)))))), (kWk, .inl (kcWk, 6, .inl (fun _ => 0))), (kBk, .inl (kcBk, 12, .inl (fun _ => 0))), (aTp, .inl (cTp, 100, .inl (fun _ => 0))), (aHs, .inl (cHs, 8, .inr (.inr (.inr (.inr (fun _ => none)))))), (aWk, .inl (cWk, 6, .inl (fun _ => 0))), (aBk, .inl (cBk, 12, .inl (fun _ => 0)))]) hD hS hA [2, 1, 3, 4, 5, 6, 7, 8, 9, 10] rfl
  refine va_callv (va_runV (As := [.ref sc]) (rest := []) ⟨hx, hb, hml, hown, hts⟩ (c_copy0 l dC dI kp kTp kHl kHs kWk kBk kFc sc aTp aHl aHs aWk aBk aFc kcTp kcHs kcWk kcBk cTp cHs cWk cBk H.size) (cwV 1 hts gX11_image_X8_copyFrom rfl rfl rfl (by decide +kernel) ⟨Nat.le_of_ble_eq_true rfl, Nat.le_of_ble_eq_true rfl⟩) ⟨fun a U g mk q => by obtain ⟨q0, q1, qP, qK, qD⟩ := q; exact ⟨q0, q1, qP, va_K.moved (u := U) (U := U.calling g mk a) (Vm.Alike.refl U.vm) qK, qD⟩, va_recv hK hP (ci := 10) (q0 := 2) rfl rfl, fun U hU hW => ⟨rfl, by rw [hU], by rw [hU]; exact hPc, va_K.moved hW.alike hKc, hDc.weaken (fun _ _ _ _ => trivial)⟩⟩ rfl rfl hl.1 rfl (lv_room (Nat.le_of_ble_eq_true rfl)) dX11_image_8 ⟨Nat.le_of_ble_eq_true rfl, Nat.le_of_ble_eq_true rfl⟩) hS (fun q _ h => hFc q h) hFc (fun u tC H1 locs htC hvm hw_2 hB hz1 hk1 hS => ?_)
  obtain ⟨⟩ := u
  try dsimp only at hw_2 hB
  obtain ⟨hP1, hK1, hD1⟩ := hB
  rw [htC] at hP1
  have hK1 := va_K.moved hvm.symm hK1
  obtain ⟨hP, hD⟩ := va_join (wr := [(h0, .inr (13, [.ref sc, .ref kp, .int 0, .ref bl, .ref go, .ref ch, .ref bo]))]) (w1 := [(sc, .inr (10, [.ref aTp, .int 0, .ref aHl, .int 0, .long 0, .int 0, .int 0, .ref aHs, .int 0, .ref aWk, .int 0, .ref aBk, .int 0, .ref aFc]))]) hP hD [2, 1, 3, 4, 5, 6, 7, 8, 9, 10] [0] rfl rfl (by decide) (by decide) hk1 hFc hP1 hD1
  have hK := (hK.sub (tys' := []) [] rfl).app hK1
  generalize H1 = H at hP hS ⊢
  have hP : va_P (dC, dI) vwCl [(h0, .inr (13, [.ref sc, .ref kp, .int 0, .ref bl, .ref go, .ref ch, .ref bo])), (sc, .inr (10, [.ref aTp, .int 0, .ref aHl, .int 0, .long 0, .int 0, .int 0, .ref aHs, .int 0, .ref aWk, .int 0, .ref aBk, .int 0, .ref aFc]))] H := hP
  have hD : va_D A [(h0, .inr (13, [.ref sc, .ref kp, .int 0, .ref bl, .ref go, .ref ch, .ref bo])), (sc, .inr (10, [.ref aTp, .int 0, .ref aHl, .int 0, .long 0, .int 0, .int 0, .ref aHs, .int 0, .ref aWk, .int 0, .ref aBk, .int 0, .ref aFc]))] := hD
  have hK : va_K (dC, dI) vwCl [] s := hK
  refine lv_aload_n hx hb dX11_image_11 rfl (lv_at hl 0 rfl) ?_
  refine lv_iconst (v := 1) hx hb dX11_image_12 (by decide) ?_
  refine va_put (D := (dC, dI)) (ci := 13) (v := .int 1) (ty := .boolean) (C := RX11) (T := TX11) (N := 7) hx hb hts kc_xImage_0 tyX11 tyX11_ok nmX11 hown hK hP hD hS 0 rfl rfl 2 (by decide) (hts (.fieldLink RX11 21 "MistHeaps" "isKept" "Z") kc_xImage_3) (fun _ h9 => h9) rfl (by decide +kernel) rfl rfl (Nat.le_of_ble_eq_true rfl) dX11_image_13 (fun H locs hP hD hS => ?_)
  have hP : va_P (dC, dI) vwCl [(h0, .inr (13, [.ref sc, .ref kp, .int 1, .ref bl, .ref go, .ref ch, .ref bo])), (sc, .inr (10, [.ref aTp, .int 0, .ref aHl, .int 0, .long 0, .int 0, .int 0, .ref aHs, .int 0, .ref aWk, .int 0, .ref aBk, .int 0, .ref aFc]))] H := hP
  have hD : va_D A [(h0, .inr (13, [.ref sc, .ref kp, .int 1, .ref bl, .ref go, .ref ch, .ref bo])), (sc, .inr (10, [.ref aTp, .int 0, .ref aHl, .int 0, .long 0, .int 0, .int 0, .ref aHs, .int 0, .ref aWk, .int 0, .ref aBk, .int 0, .ref aFc]))] := hD
  refine lv_aload_n hx hb dX11_image_16 rfl (lv_at hl 0 rfl) ?_
  refine va_get (D := (dC, dI)) (ci := 13) (v := .ref sc) (C := RX11) (T := TX11) (N := 7) hx hb hts kc_xImage_0 hown hK hP 0 rfl rfl 0 (by decide) (hts (.fieldLink RX11 14 "MistHeaps" "scene" "LMistHeaps$Scene;") kc_xImage_2) (fun _ h9 => h9) rfl dX11_image_17 ?_
  refine va_get (D := (dC, dI)) (ci := 10) (v := .int 0) (C := RX8) (T := TX8) (N := 14) hx hb hts kc_xImage_4 hown hK hP 1 rfl rfl 8 (by decide) (hts (.fieldLink RX11 101 "MistHeaps$Scene" "heapCount" "I") kc_xImage_5) (fun _ h9 => h9) rfl dX11_image_20 ?_
  rw [hQ]
  exact W.iret (v := 0) hx hb hr (fun tQ htQ hWQ => ⟨⟨0, (), rfl, rfl, trivial⟩, hS.F htQ⟩) hS.2.2 dX11_image_23
