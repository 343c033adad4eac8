theorem dX12_rowsOf_0 : decode cX12_rowsOf 0 = .ok (.iload_n 0, 1) := by decide +kernel
theorem dX12_rowsOf_1 : decode cX12_rowsOf 1 = .ok (.bipush 7, 2) := by decide +kernel
theorem dX12_rowsOf_3 : decode cX12_rowsOf 3 = .ok (.if_icmp .eq 8, 3) := by decide +kernel
theorem dX12_rowsOf_6 : decode cX12_rowsOf 6 = .ok (.iload_n 0, 1) := by decide +kernel
theorem dX12_rowsOf_7 : decode cX12_rowsOf 7 = .ok (.iconst 2, 1) := by decide +kernel
theorem dX12_rowsOf_8 : decode cX12_rowsOf 8 = .ok (.if_icmp .ge 7, 3) := by decide +kernel
theorem dX12_rowsOf_11 : decode cX12_rowsOf 11 = .ok (.iconst (-1), 1) := by decide +kernel
theorem dX12_rowsOf_12 : decode cX12_rowsOf 12 = .ok (.goto 19, 3) := by decide +kernel
theorem dX12_rowsOf_31 : decode cX12_rowsOf 31 = .ok (.ireturn, 1) := by decide +kernel
theorem dX12_rowsOf_15 : decode cX12_rowsOf 15 = .ok (.iload_n 0, 1) := by decide +kernel
theorem dX12_rowsOf_16 : decode cX12_rowsOf 16 = .ok (.iconst 2, 1) := by decide +kernel
theorem dX12_rowsOf_17 : decode cX12_rowsOf 17 = .ok (.if_icmp .le 13, 3) := by decide +kernel
theorem dX12_rowsOf_30 : decode cX12_rowsOf 30 = .ok (.iconst 0, 1) := by decide +kernel
theorem dX12_rowsOf_20 : decode cX12_rowsOf 20 = .ok (.iload_n 0, 1) := by decide +kernel
theorem dX12_rowsOf_21 : decode cX12_rowsOf 21 = .ok (.bipush 6, 2) := by decide +kernel
theorem dX12_rowsOf_23 : decode cX12_rowsOf 23 = .ok (.if_icmp .ge 7, 3) := by decide +kernel
theorem dX12_rowsOf_26 : decode cX12_rowsOf 26 = .ok (.iconst 1, 1) := by decide +kernel
theorem dX12_rowsOf_27 : decode cX12_rowsOf 27 = .ok (.goto 4, 3) := by decide +kernel
theorem dX12_columnsOf_0 : decode cX12_columnsOf 0 = .ok (.iload_n 0, 1) := by decide +kernel
theorem dX12_columnsOf_1 : decode cX12_columnsOf 1 = .ok (.iconst 1, 1) := by decide +kernel
theorem dX12_columnsOf_2 : decode cX12_columnsOf 2 = .ok (.iconst 3, 1) := by decide +kernel
set_option maxRecDepth 20000 in
theorem ggX12_columnsOf_X12_in : GoodIn wsX12_columnsOf wsX12_in := goodIn_r _ [4] (by decide +kernel) (by decide +kernel)
set_option maxRecDepth 20000 in
theorem gX12_columnsOf_X12_in : GoodIn wsX12_columnsOf (va_wsS RX12 45 yX12_in wsX12_in) := goodIn_app (goodIn_of _ (by decide +kernel)) ggX12_columnsOf_X12_in
theorem dX12_columnsOf_3 : decode cX12_columnsOf 3 = .ok (.invokestatic 45, 3) := by decide +kernel
theorem dX12_columnsOf_6 : decode cX12_columnsOf 6 = .ok (.ifCond .eq 7, 3) := by decide +kernel
theorem dX12_columnsOf_13 : decode cX12_columnsOf 13 = .ok (.iload_n 0, 1) := by decide +kernel
theorem dX12_columnsOf_14 : decode cX12_columnsOf 14 = .ok (.iconst 4, 1) := by decide +kernel
theorem dX12_columnsOf_15 : decode cX12_columnsOf 15 = .ok (.if_icmp .le 7, 3) := by decide +kernel
theorem dX12_columnsOf_22 : decode cX12_columnsOf 22 = .ok (.iconst 0, 1) := by decide +kernel
theorem dX12_columnsOf_23 : decode cX12_columnsOf 23 = .ok (.ireturn, 1) := by decide +kernel
theorem dX12_columnsOf_9 : decode cX12_columnsOf 9 = .ok (.iconst 1, 1) := by decide +kernel
theorem dX12_columnsOf_10 : decode cX12_columnsOf 10 = .ok (.goto 13, 3) := by decide +kernel
theorem dX12_columnsOf_18 : decode cX12_columnsOf 18 = .ok (.iconst (-1), 1) := by decide +kernel
theorem dX12_columnsOf_19 : decode cX12_columnsOf 19 = .ok (.goto 4, 3) := by decide +kernel
theorem dX12_nextTo_0 : decode cX12_nextTo 0 = .ok (.iload_n 0, 1) := by decide +kernel
theorem dX12_nextTo_1 : decode cX12_nextTo 1 = .ok (.bipush 6, 2) := by decide +kernel
theorem dX12_nextTo_3 : decode cX12_nextTo 3 = .ok (.idiv, 1) := by decide +kernel
theorem dX12_nextTo_4 : decode cX12_nextTo 4 = .ok (.iload_n 1, 1) := by decide +kernel
set_option maxRecDepth 20000 in
theorem ggX12_nextTo_X12_rowsOf : GoodIn wsX12_nextTo wsX12_rowsOf := goodIn_r _ [4] (by decide +kernel) (by decide +kernel)
set_option maxRecDepth 20000 in
theorem gX12_nextTo_X12_rowsOf : GoodIn wsX12_nextTo (va_wsS RX12 53 yX12_rowsOf wsX12_rowsOf) := goodIn_app (goodIn_of _ (by decide +kernel)) ggX12_nextTo_X12_rowsOf
theorem dX12_nextTo_5 : decode cX12_nextTo 5 = .ok (.invokestatic 53, 3) := by decide +kernel
theorem dX12_nextTo_8 : decode cX12_nextTo 8 = .ok (.iadd, 1) := by decide +kernel
theorem dX12_nextTo_9 : decode cX12_nextTo 9 = .ok (.istore_n 2, 1) := by decide +kernel
theorem dX12_nextTo_10 : decode cX12_nextTo 10 = .ok (.iload_n 0, 1) := by decide +kernel
theorem dX12_nextTo_11 : decode cX12_nextTo 11 = .ok (.bipush 6, 2) := by decide +kernel
theorem dX12_nextTo_13 : decode cX12_nextTo 13 = .ok (.irem, 1) := by decide +kernel
theorem dX12_nextTo_14 : decode cX12_nextTo 14 = .ok (.iload_n 1, 1) := by decide +kernel
set_option maxRecDepth 20000 in
theorem ggX12_nextTo_X12_columnsOf : GoodIn wsX12_nextTo wsX12_columnsOf := goodIn_r _ [7, 8, 9, 3, 10] (by decide +kernel) (by decide +kernel)
set_option maxRecDepth 20000 in
theorem gX12_nextTo_X12_columnsOf : GoodIn wsX12_nextTo (va_wsS RX12 56 yX12_columnsOf wsX12_columnsOf) := goodIn_app (goodIn_of _ (by decide +kernel)) ggX12_nextTo_X12_columnsOf
theorem dX12_nextTo_15 : decode cX12_nextTo 15 = .ok (.invokestatic 56, 3) := by decide +kernel
theorem dX12_nextTo_18 : decode cX12_nextTo 18 = .ok (.iadd, 1) := by decide +kernel
theorem dX12_nextTo_19 : decode cX12_nextTo 19 = .ok (.istore_n 3, 1) := by decide +kernel
theorem dX12_nextTo_20 : decode cX12_nextTo 20 = .ok (.iload_n 2, 1) := by decide +kernel
theorem dX12_nextTo_21 : decode cX12_nextTo 21 = .ok (.iconst 0, 1) := by decide +kernel
theorem dX12_nextTo_22 : decode cX12_nextTo 22 = .ok (.iconst 5, 1) := by decide +kernel
set_option maxRecDepth 20000 in
theorem ggX12_nextTo_X12_in : GoodIn wsX12_nextTo wsX12_in := goodIn_r _ [10] (by decide +kernel) (by decide +kernel)
set_option maxRecDepth 20000 in
theorem gX12_nextTo_X12_in : GoodIn wsX12_nextTo (va_wsS RX12 45 yX12_in wsX12_in) := goodIn_app (goodIn_of _ (by decide +kernel)) ggX12_nextTo_X12_in
theorem dX12_nextTo_23 : decode cX12_nextTo 23 = .ok (.invokestatic 45, 3) := by decide +kernel
theorem dX12_nextTo_26 : decode cX12_nextTo 26 = .ok (.ifCond .eq 21, 3) := by decide +kernel
theorem dX12_nextTo_29 : decode cX12_nextTo 29 = .ok (.iload_n 3, 1) := by decide +kernel
theorem dX12_nextTo_30 : decode cX12_nextTo 30 = .ok (.iconst 0, 1) := by decide +kernel
theorem dX12_nextTo_31 : decode cX12_nextTo 31 = .ok (.iconst 5, 1) := by decide +kernel
theorem dX12_nextTo_32 : decode cX12_nextTo 32 = .ok (.invokestatic 45, 3) := by decide +kernel
theorem dX12_nextTo_35 : decode cX12_nextTo 35 = .ok (.ifCond .eq 12, 3) := by decide +kernel
theorem dX12_nextTo_38 : decode cX12_nextTo 38 = .ok (.bipush 6, 2) := by decide +kernel
theorem dX12_nextTo_40 : decode cX12_nextTo 40 = .ok (.iload_n 2, 1) := by decide +kernel
theorem dX12_nextTo_41 : decode cX12_nextTo 41 = .ok (.imul, 1) := by decide +kernel
theorem dX12_nextTo_42 : decode cX12_nextTo 42 = .ok (.iload_n 3, 1) := by decide +kernel
theorem dX12_nextTo_43 : decode cX12_nextTo 43 = .ok (.iadd, 1) := by decide +kernel
theorem dX12_nextTo_44 : decode cX12_nextTo 44 = .ok (.goto 4, 3) := by decide +kernel
theorem dX12_nextTo_48 : decode cX12_nextTo 48 = .ok (.ireturn, 1) := by decide +kernel
theorem dX12_nextTo_47 : decode cX12_nextTo 47 = .ok (.iload_n 0, 1) := by decide +kernel
theorem dX12_looks_0 : decode cX12_looks 0 = .ok (.aload_n 0, 1) := by decide +kernel
theorem dX12_looks_1 : decode cX12_looks 1 = .ok (.getfield 18, 3) := by decide +kernel
theorem dX12_looks_4 : decode cX12_looks 4 = .ok (.iconst 0, 1) := by decide +kernel
theorem dX12_looks_5 : decode cX12_looks 5 = .ok (.iload_n 1, 1) := by decide +kernel
theorem dX12_looks_6 : decode cX12_looks 6 = .ok (.iastore, 1) := by decide +kernel
theorem dX12_looks_7 : decode cX12_looks 7 = .ok (.aload_n 0, 1) := by decide +kernel
theorem dX12_looks_8 : decode cX12_looks 8 = .ok (.getfield 18, 3) := by decide +kernel
theorem dX12_looks_11 : decode cX12_looks 11 = .ok (.iconst 1, 1) := by decide +kernel
theorem dX12_looks_12 : decode cX12_looks 12 = .ok (.iload_n 2, 1) := by decide +kernel
theorem dX12_looks_13 : decode cX12_looks 13 = .ok (.iastore, 1) := by decide +kernel
theorem dX12_looks_14 : decode cX12_looks 14 = .ok (.aload_n 0, 1) := by decide +kernel
theorem dX12_looks_15 : decode cX12_looks 15 = .ok (.getfield 18, 3) := by decide +kernel
theorem dX12_looks_18 : decode cX12_looks 18 = .ok (.iconst 2, 1) := by decide +kernel
theorem dX12_looks_19 : decode cX12_looks 19 = .ok (.iload_n 3, 1) := by decide +kernel
theorem dX12_looks_20 : decode cX12_looks 20 = .ok (.bipush 6, 2) := by decide +kernel
theorem dX12_looks_22 : decode cX12_looks 22 = .ok (.idiv, 1) := by decide +kernel
theorem dX12_looks_23 : decode cX12_looks 23 = .ok (.iastore, 1) := by decide +kernel
theorem dX12_looks_24 : decode cX12_looks 24 = .ok (.aload_n 0, 1) := by decide +kernel
theorem dX12_looks_25 : decode cX12_looks 25 = .ok (.getfield 18, 3) := by decide +kernel
theorem dX12_looks_28 : decode cX12_looks 28 = .ok (.iconst 3, 1) := by decide +kernel
theorem dX12_looks_29 : decode cX12_looks 29 = .ok (.iload_n 3, 1) := by decide +kernel
theorem dX12_looks_30 : decode cX12_looks 30 = .ok (.bipush 6, 2) := by decide +kernel
theorem dX12_looks_32 : decode cX12_looks 32 = .ok (.irem, 1) := by decide +kernel
theorem dX12_looks_33 : decode cX12_looks 33 = .ok (.iastore, 1) := by decide +kernel
theorem dX12_looks_34 : decode cX12_looks 34 = .ok (.aload_n 0, 1) := by decide +kernel
theorem dX12_looks_35 : decode cX12_looks 35 = .ok (.getfield 18, 3) := by decide +kernel
theorem dX12_looks_38 : decode cX12_looks 38 = .ok (.iconst 4, 1) := by decide +kernel
theorem dX12_looks_39 : decode cX12_looks 39 = .ok (.aload_n 0, 1) := by decide +kernel
theorem dX12_looks_40 : decode cX12_looks 40 = .ok (.getfield 9, 3) := by decide +kernel
theorem dX12_looks_43 : decode cX12_looks 43 = .ok (.bipush 6, 2) := by decide +kernel
theorem dX12_looks_45 : decode cX12_looks 45 = .ok (.iaload, 1) := by decide +kernel
theorem dX12_looks_46 : decode cX12_looks 46 = .ok (.iastore, 1) := by decide +kernel
theorem dX12_looks_47 : decode cX12_looks 47 = .ok (.aload_n 0, 1) := by decide +kernel
theorem dX12_looks_48 : decode cX12_looks 48 = .ok (.getfield 18, 3) := by decide +kernel
theorem dX12_looks_51 : decode cX12_looks 51 = .ok (.iconst 5, 1) := by decide +kernel
theorem dX12_looks_52 : decode cX12_looks 52 = .ok (.aload_n 0, 1) := by decide +kernel
theorem dX12_looks_53 : decode cX12_looks 53 = .ok (.getfield 9, 3) := by decide +kernel
theorem dX12_looks_56 : decode cX12_looks 56 = .ok (.bipush 7, 2) := by decide +kernel
theorem dX12_looks_58 : decode cX12_looks 58 = .ok (.iaload, 1) := by decide +kernel
theorem dX12_looks_59 : decode cX12_looks 59 = .ok (.iastore, 1) := by decide +kernel
theorem dX12_looks_60 : decode cX12_looks 60 = .ok (.aload_n 0, 1) := by decide +kernel
theorem dX12_looks_61 : decode cX12_looks 61 = .ok (.iconst 0, 1) := by decide +kernel
theorem dX12_looks_62 : decode cX12_looks 62 = .ok (.putfield 143, 3) := by decide +kernel
theorem dX12_looks_65 : decode cX12_looks 65 = .ok (.aload_n 0, 1) := by decide +kernel
theorem dX12_looks_66 : decode cX12_looks 66 = .ok (.iconst 0, 1) := by decide +kernel
theorem dX12_looks_67 : decode cX12_looks 67 = .ok (.putfield 146, 3) := by decide +kernel
theorem dX12_looks_70 : decode cX12_looks 70 = .ok (.aload_n 0, 1) := by decide +kernel
theorem dX12_looks_71 : decode cX12_looks 71 = .ok (.getfield 9, 3) := by decide +kernel
theorem dX12_looks_74 : decode cX12_looks 74 = .ok (.iconst 5, 1) := by decide +kernel
theorem dX12_looks_75 : decode cX12_looks 75 = .ok (.iaload, 1) := by decide +kernel
theorem dX12_looks_76 : decode cX12_looks 76 = .ok (.iconst (-1), 1) := by decide +kernel
theorem dX12_looks_77 : decode cX12_looks 77 = .ok (.if_icmp .ne 7, 3) := by decide +kernel
theorem dX12_looks_80 : decode cX12_looks 80 = .ok (.iconst 0, 1) := by decide +kernel
theorem dX12_looks_81 : decode cX12_looks 81 = .ok (.goto 18, 3) := by decide +kernel
theorem dX12_looks_99 : decode cX12_looks 99 = .ok (.istore 4, 2) := by decide +kernel
theorem dX12_looks_101 : decode cX12_looks 101 = .ok (.sipush 201, 3) := by decide +kernel
theorem dX12_looks_104 : decode cX12_looks 104 = .ok (.sipush 140, 3) := by decide +kernel
theorem dX12_looks_107 : decode cX12_looks 107 = .ok (.aload_n 0, 1) := by decide +kernel
theorem dX12_looks_108 : decode cX12_looks 108 = .ok (.getfield 9, 3) := by decide +kernel
theorem dX12_looks_111 : decode cX12_looks 111 = .ok (.iconst 5, 1) := by decide +kernel
theorem dX12_looks_112 : decode cX12_looks 112 = .ok (.iaload, 1) := by decide +kernel
theorem dX12_looks_113 : decode cX12_looks 113 = .ok (.imul, 1) := by decide +kernel
theorem dX12_looks_114 : decode cX12_looks 114 = .ok (.iadd, 1) := by decide +kernel
theorem dX12_looks_115 : decode cX12_looks 115 = .ok (.istore 5, 2) := by decide +kernel
theorem dX12_looks_117 : decode cX12_looks 117 = .ok (.iconst 0, 1) := by decide +kernel
theorem dX12_looks_118 : decode cX12_looks 118 = .ok (.istore 6, 2) := by decide +kernel
theorem dX12_looks_120 : decode cX12_looks 120 = .ok (.iload 5, 2) := by decide +kernel
theorem dX12_looks_122 : decode cX12_looks 122 = .ok (.istore 7, 2) := by decide +kernel
theorem dX12_looks_124 : decode cX12_looks 124 = .ok (.iload 7, 2) := by decide +kernel
theorem dX12_looks_126 : decode cX12_looks 126 = .ok (.iload 5, 2) := by decide +kernel
theorem dX12_looks_128 : decode cX12_looks 128 = .ok (.iload 4, 2) := by decide +kernel
theorem dX12_looks_130 : decode cX12_looks 130 = .ok (.iadd, 1) := by decide +kernel
theorem dX12_looks_131 : decode cX12_looks 131 = .ok (.if_icmp .ge 329, 3) := by decide +kernel
theorem dX12_looks_460 : decode cX12_looks 460 = .ok (.return_, 1) := by decide +kernel
theorem dX12_driftOf_0 : decode cX12_driftOf 0 = .ok (.aload_n 0, 1) := by decide +kernel
theorem dX12_driftOf_1 : decode cX12_driftOf 1 = .ok (.bipush 99, 2) := by decide +kernel
theorem dX12_driftOf_3 : decode cX12_driftOf 3 = .ok (.bipush 99, 2) := by decide +kernel
theorem dX12_driftOf_5 : decode cX12_driftOf 5 = .ok (.iload_n 1, 1) := by decide +kernel
set_option maxRecDepth 20000 in
theorem ggX12_driftOf_X12_looks : GoodIn wsX12_driftOf wsX12_looks := goodIn_r _ [6, 7, 8, 9, 1, 10, 11, 12, 13, 14, 15, 16, 17, 18, 19, 20, 21, 22, 23, 24, 25, 26, 27, 28, 29, 30, 31, 32, 33] (by decide +kernel) (by decide +kernel)
set_option maxRecDepth 20000 in
theorem gX12_driftOf_X12_looks : GoodIn wsX12_driftOf (wsV RX12 160 RX12 yX12_looks wsX12_looks) := goodIn_app (goodIn_of _ (by decide +kernel)) ggX12_driftOf_X12_looks
theorem dX12_driftOf_6 : decode cX12_driftOf 6 = .ok (.invokevirtual 160, 3) := by decide +kernel
theorem dX12_driftOf_9 : decode cX12_driftOf 9 = .ok (.aload_n 0, 1) := by decide +kernel
theorem dX12_driftOf_10 : decode cX12_driftOf 10 = .ok (.getfield 146, 3) := by decide +kernel
theorem dX12_driftOf_13 : decode cX12_driftOf 13 = .ok (.iconst 5, 1) := by decide +kernel
theorem dX12_driftOf_14 : decode cX12_driftOf 14 = .ok (.if_icmp .le 7, 3) := by decide +kernel
theorem dX12_driftOf_21 : decode cX12_driftOf 21 = .ok (.aload_n 0, 1) := by decide +kernel
theorem dX12_driftOf_22 : decode cX12_driftOf 22 = .ok (.getfield 146, 3) := by decide +kernel
theorem dX12_driftOf_25 : decode cX12_driftOf 25 = .ok (.ireturn, 1) := by decide +kernel
theorem dX12_drift_0 : decode cX12_drift 0 = .ok (.iload_n 1, 1) := by decide +kernel
set_option maxRecDepth 20000 in
theorem ggX12_drift_X12_isCell : GoodIn wsX12_drift wsX12_isCell := goodIn_r _ [4, 5, 6, 3, 7] (by decide +kernel) (by decide +kernel)
set_option maxRecDepth 20000 in
theorem gX12_drift_X12_isCell : GoodIn wsX12_drift (va_wsS RX12 149 yX12_isCell wsX12_isCell) := goodIn_app (goodIn_of _ (by decide +kernel)) ggX12_drift_X12_isCell
theorem dX12_drift_1 : decode cX12_drift 1 = .ok (.invokestatic 149, 3) := by decide +kernel
theorem dX12_drift_4 : decode cX12_drift 4 = .ok (.ifCond .eq 11, 3) := by decide +kernel
theorem dX12_drift_7 : decode cX12_drift 7 = .ok (.aload_n 0, 1) := by decide +kernel
theorem dX12_drift_8 : decode cX12_drift 8 = .ok (.iload_n 1, 1) := by decide +kernel
set_option maxRecDepth 20000 in
theorem ggX12_drift_X12_driftOf : GoodIn wsX12_drift wsX12_driftOf := goodIn_r _ [11, 12, 13, 14, 15, 3, 16, 17, 18, 19, 20, 21, 22, 23, 24, 25, 26, 27, 28, 29, 30, 31, 32, 33, 34, 35, 36, 37, 38, 39, 40, 41, 42, 43] (by decide +kernel) (by decide +kernel)
set_option maxRecDepth 20000 in
theorem gX12_drift_X12_driftOf : GoodIn wsX12_drift (wsV RX12 201 RX12 yX12_driftOf wsX12_driftOf) := goodIn_app (goodIn_of _ (by decide +kernel)) ggX12_drift_X12_driftOf
theorem dX12_drift_9 : decode cX12_drift 9 = .ok (.invokevirtual 201, 3) := by decide +kernel
theorem dX12_drift_12 : decode cX12_drift 12 = .ok (.goto 4, 3) := by decide +kernel
theorem dX12_drift_16 : decode cX12_drift 16 = .ok (.ireturn, 1) := by decide +kernel
theorem dX12_drift_15 : decode cX12_drift 15 = .ok (.iconst (-1), 1) := by decide +kernel
theorem dX12_looksForDrifts_0 : decode cX12_looksForDrifts 0 = .ok (.iconst 0, 1) := by decide +kernel
theorem dX12_looksForDrifts_1 : decode cX12_looksForDrifts 1 = .ok (.istore_n 1, 1) := by decide +kernel
theorem dX12_looksForDrifts_2 : decode cX12_looksForDrifts 2 = .ok (.iload_n 1, 1) := by decide +kernel
theorem dX12_looksForDrifts_3 : decode cX12_looksForDrifts 3 = .ok (.bipush 36, 2) := by decide +kernel
theorem dX12_looksForDrifts_5 : decode cX12_looksForDrifts 5 = .ok (.if_icmp .ge 20, 3) := by decide +kernel
theorem dX12_looksForDrifts_25 : decode cX12_looksForDrifts 25 = .ok (.return_, 1) := by decide +kernel
theorem dX12_looksForDrifts_8 : decode cX12_looksForDrifts 8 = .ok (.aload_n 0, 1) := by decide +kernel
theorem dX12_looksForDrifts_9 : decode cX12_looksForDrifts 9 = .ok (.getfield 35, 3) := by decide +kernel
theorem dX12_looksForDrifts_12 : decode cX12_looksForDrifts 12 = .ok (.iload_n 1, 1) := by decide +kernel
theorem dX12_looksForDrifts_13 : decode cX12_looksForDrifts 13 = .ok (.aload_n 0, 1) := by decide +kernel
theorem dX12_looksForDrifts_14 : decode cX12_looksForDrifts 14 = .ok (.iload_n 1, 1) := by decide +kernel
set_option maxRecDepth 20000 in
theorem ggX12_looksForDrifts_X12_driftOf : GoodIn wsX12_looksForDrifts wsX12_driftOf := goodIn_r _ [6, 7, 8, 9, 10, 5, 11, 12, 13, 14, 15, 16, 17, 18, 19, 20, 21, 22, 23, 24, 25, 26, 27, 28, 29, 30, 31, 32, 33, 34, 35, 36, 37, 38] (by decide +kernel) (by decide +kernel)
set_option maxRecDepth 20000 in
theorem gX12_looksForDrifts_X12_driftOf : GoodIn wsX12_looksForDrifts (wsV RX12 201 RX12 yX12_driftOf wsX12_driftOf) := goodIn_app (goodIn_of _ (by decide +kernel)) ggX12_looksForDrifts_X12_driftOf
theorem dX12_looksForDrifts_15 : decode cX12_looksForDrifts 15 = .ok (.invokevirtual 201, 3) := by decide +kernel
theorem dX12_looksForDrifts_18 : decode cX12_looksForDrifts 18 = .ok (.iastore, 1) := by decide +kernel
theorem dX12_looksForDrifts_19 : decode cX12_looksForDrifts 19 = .ok (.iinc 1 1, 3) := by decide +kernel
theorem dX12_looksForDrifts_22 : decode cX12_looksForDrifts 22 = .ok (.goto (-20), 3) := by decide +kernel
theorem dX12_begins_0 : decode cX12_begins 0 = .ok (.iconst 0, 1) := by decide +kernel
theorem dX12_begins_1 : decode cX12_begins 1 = .ok (.istore_n 2, 1) := by decide +kernel
theorem dX12_begins_2 : decode cX12_begins 2 = .ok (.iload_n 2, 1) := by decide +kernel
theorem dX12_begins_3 : decode cX12_begins 3 = .ok (.bipush 36, 2) := by decide +kernel
theorem dX12_begins_5 : decode cX12_begins 5 = .ok (.if_icmp .ge 25, 3) := by decide +kernel
theorem dX12_begins_30 : decode cX12_begins 30 = .ok (.return_, 1) := by decide +kernel
theorem dX12_begins_8 : decode cX12_begins 8 = .ok (.aload_n 0, 1) := by decide +kernel
theorem dX12_begins_9 : decode cX12_begins 9 = .ok (.getfield 28, 3) := by decide +kernel
theorem dX12_begins_12 : decode cX12_begins 12 = .ok (.iload_n 2, 1) := by decide +kernel
theorem dX12_begins_13 : decode cX12_begins 13 = .ok (.iload_n 2, 1) := by decide +kernel
theorem dX12_begins_14 : decode cX12_begins 14 = .ok (.iload_n 1, 1) := by decide +kernel
theorem dX12_begins_15 : decode cX12_begins 15 = .ok (.if_icmp .ne 7, 3) := by decide +kernel
theorem dX12_begins_22 : decode cX12_begins 22 = .ok (.lconst 0, 1) := by decide +kernel
theorem dX12_begins_23 : decode cX12_begins 23 = .ok (.lastore, 1) := by decide +kernel
theorem dX12_begins_24 : decode cX12_begins 24 = .ok (.iinc 2 1, 3) := by decide +kernel
theorem dX12_begins_27 : decode cX12_begins 27 = .ok (.goto (-25), 3) := by decide +kernel
theorem dX12_begins_18 : decode cX12_begins 18 = .ok (.lconst 1, 1) := by decide +kernel
theorem dX12_begins_19 : decode cX12_begins 19 = .ok (.goto 4, 3) := by decide +kernel
theorem dX12_goesOn_0 : decode cX12_goesOn 0 = .ok (.iconst 0, 1) := by decide +kernel
theorem dX12_goesOn_1 : decode cX12_goesOn 1 = .ok (.istore_n 2, 1) := by decide +kernel
theorem dX12_goesOn_2 : decode cX12_goesOn 2 = .ok (.iload_n 2, 1) := by decide +kernel
theorem dX12_goesOn_3 : decode cX12_goesOn 3 = .ok (.bipush 36, 2) := by decide +kernel
theorem dX12_goesOn_5 : decode cX12_goesOn 5 = .ok (.if_icmp .ge 16, 3) := by decide +kernel
theorem dX12_goesOn_21 : decode cX12_goesOn 21 = .ok (.iconst 0, 1) := by decide +kernel
theorem dX12_goesOn_22 : decode cX12_goesOn 22 = .ok (.istore_n 2, 1) := by decide +kernel
theorem dX12_goesOn_23 : decode cX12_goesOn 23 = .ok (.iload_n 2, 1) := by decide +kernel
theorem dX12_goesOn_24 : decode cX12_goesOn 24 = .ok (.bipush 36, 2) := by decide +kernel
theorem dX12_goesOn_26 : decode cX12_goesOn 26 = .ok (.if_icmp .ge 155, 3) := by decide +kernel
theorem dX12_goesOn_181 : decode cX12_goesOn 181 = .ok (.iconst 0, 1) := by decide +kernel
theorem dX12_goesOn_182 : decode cX12_goesOn 182 = .ok (.istore_n 2, 1) := by decide +kernel
theorem dX12_goesOn_183 : decode cX12_goesOn 183 = .ok (.iload_n 2, 1) := by decide +kernel
theorem dX12_goesOn_184 : decode cX12_goesOn 184 = .ok (.bipush 36, 2) := by decide +kernel
theorem dX12_goesOn_186 : decode cX12_goesOn 186 = .ok (.if_icmp .ge 21, 3) := by decide +kernel
theorem dX12_goesOn_207 : decode cX12_goesOn 207 = .ok (.return_, 1) := by decide +kernel
theorem dX12_goesOn_189 : decode cX12_goesOn 189 = .ok (.aload_n 0, 1) := by decide +kernel
theorem dX12_goesOn_190 : decode cX12_goesOn 190 = .ok (.getfield 28, 3) := by decide +kernel
theorem dX12_goesOn_193 : decode cX12_goesOn 193 = .ok (.iload_n 2, 1) := by decide +kernel
theorem dX12_goesOn_194 : decode cX12_goesOn 194 = .ok (.aload_n 0, 1) := by decide +kernel
theorem dX12_goesOn_195 : decode cX12_goesOn 195 = .ok (.getfield 32, 3) := by decide +kernel
theorem dX12_goesOn_198 : decode cX12_goesOn 198 = .ok (.iload_n 2, 1) := by decide +kernel
theorem dX12_goesOn_199 : decode cX12_goesOn 199 = .ok (.laload, 1) := by decide +kernel
theorem dX12_goesOn_200 : decode cX12_goesOn 200 = .ok (.lastore, 1) := by decide +kernel
theorem dX12_goesOn_201 : decode cX12_goesOn 201 = .ok (.iinc 2 1, 3) := by decide +kernel
theorem dX12_goesOn_204 : decode cX12_goesOn 204 = .ok (.goto (-21), 3) := by decide +kernel
theorem dX12_goesOn_29 : decode cX12_goesOn 29 = .ok (.aload_n 0, 1) := by decide +kernel
theorem dX12_goesOn_30 : decode cX12_goesOn 30 = .ok (.getfield 28, 3) := by decide +kernel
theorem dX12_goesOn_33 : decode cX12_goesOn 33 = .ok (.iload_n 2, 1) := by decide +kernel
theorem dX12_goesOn_34 : decode cX12_goesOn 34 = .ok (.laload, 1) := by decide +kernel
theorem dX12_goesOn_35 : decode cX12_goesOn 35 = .ok (.lconst 0, 1) := by decide +kernel
theorem dX12_goesOn_36 : decode cX12_goesOn 36 = .ok (.lcmp, 1) := by decide +kernel
theorem dX12_goesOn_37 : decode cX12_goesOn 37 = .ok (.ifCond .le 38, 3) := by decide +kernel
theorem dX12_goesOn_40 : decode cX12_goesOn 40 = .ok (.aload_n 0, 1) := by decide +kernel
theorem dX12_goesOn_41 : decode cX12_goesOn 41 = .ok (.getfield 9, 3) := by decide +kernel
theorem dX12_goesOn_44 : decode cX12_goesOn 44 = .ok (.bipush 37, 2) := by decide +kernel
theorem dX12_goesOn_46 : decode cX12_goesOn 46 = .ok (.iload_n 2, 1) := by decide +kernel
theorem dX12_goesOn_47 : decode cX12_goesOn 47 = .ok (.iadd, 1) := by decide +kernel
theorem dX12_goesOn_48 : decode cX12_goesOn 48 = .ok (.iaload, 1) := by decide +kernel
theorem dX12_goesOn_49 : decode cX12_goesOn 49 = .ok (.iconst 1, 1) := by decide +kernel
theorem dX12_goesOn_50 : decode cX12_goesOn 50 = .ok (.if_icmp .ne 25, 3) := by decide +kernel
theorem dX12_goesOn_75 : decode cX12_goesOn 75 = .ok (.aload_n 0, 1) := by decide +kernel
theorem dX12_goesOn_76 : decode cX12_goesOn 76 = .ok (.getfield 28, 3) := by decide +kernel
theorem dX12_goesOn_79 : decode cX12_goesOn 79 = .ok (.iload_n 2, 1) := by decide +kernel
theorem dX12_goesOn_80 : decode cX12_goesOn 80 = .ok (.laload, 1) := by decide +kernel
theorem dX12_goesOn_81 : decode cX12_goesOn 81 = .ok (.lconst 0, 1) := by decide +kernel
theorem dX12_goesOn_82 : decode cX12_goesOn 82 = .ok (.lcmp, 1) := by decide +kernel
theorem dX12_goesOn_83 : decode cX12_goesOn 83 = .ok (.ifCond .le 92, 3) := by decide +kernel
theorem dX12_goesOn_86 : decode cX12_goesOn 86 = .ok (.aload_n 0, 1) := by decide +kernel
theorem dX12_goesOn_87 : decode cX12_goesOn 87 = .ok (.getfield 35, 3) := by decide +kernel
theorem dX12_goesOn_90 : decode cX12_goesOn 90 = .ok (.iload_n 2, 1) := by decide +kernel
theorem dX12_goesOn_91 : decode cX12_goesOn 91 = .ok (.iaload, 1) := by decide +kernel
theorem dX12_goesOn_92 : decode cX12_goesOn 92 = .ok (.istore_n 3, 1) := by decide +kernel
theorem dX12_goesOn_93 : decode cX12_goesOn 93 = .ok (.aload_n 0, 1) := by decide +kernel
theorem dX12_goesOn_94 : decode cX12_goesOn 94 = .ok (.getfield 32, 3) := by decide +kernel
theorem dX12_goesOn_97 : decode cX12_goesOn 97 = .ok (.iload_n 2, 1) := by decide +kernel
theorem dX12_goesOn_98 : decode cX12_goesOn 98 = .ok (.iload_n 1, 1) := by decide +kernel
set_option maxRecDepth 20000 in
theorem ggX12_goesOn_X12_nextTo : GoodIn wsX12_goesOn wsX12_nextTo := goodIn_r _ [9, 10, 11, 8, 12, 13, 14, 15, 16, 17, 18] (by decide +kernel) (by decide +kernel)
set_option maxRecDepth 20000 in
theorem gX12_goesOn_X12_nextTo : GoodIn wsX12_goesOn (va_wsS RX12 206 yX12_nextTo wsX12_nextTo) := goodIn_app (goodIn_of _ (by decide +kernel)) ggX12_goesOn_X12_nextTo
theorem dX12_goesOn_99 : decode cX12_goesOn 99 = .ok (.invokestatic 206, 3) := by decide +kernel
theorem dX12_goesOn_102 : decode cX12_goesOn 102 = .ok (.dup2, 1) := by decide +kernel
theorem dX12_goesOn_103 : decode cX12_goesOn 103 = .ok (.laload, 1) := by decide +kernel
theorem dX12_goesOn_104 : decode cX12_goesOn 104 = .ok (.bipush 20, 2) := by decide +kernel
theorem dX12_goesOn_106 : decode cX12_goesOn 106 = .ok (.iconst 2, 1) := by decide +kernel
theorem dX12_goesOn_107 : decode cX12_goesOn 107 = .ok (.iload_n 3, 1) := by decide +kernel
theorem dX12_goesOn_108 : decode cX12_goesOn 108 = .ok (.imul, 1) := by decide +kernel
theorem dX12_goesOn_109 : decode cX12_goesOn 109 = .ok (.isub, 1) := by decide +kernel
theorem dX12_goesOn_110 : decode cX12_goesOn 110 = .ok (.i2l, 1) := by decide +kernel
theorem dX12_goesOn_111 : decode cX12_goesOn 111 = .ok (.aload_n 0, 1) := by decide +kernel
theorem dX12_goesOn_112 : decode cX12_goesOn 112 = .ok (.getfield 28, 3) := by decide +kernel
theorem dX12_goesOn_115 : decode cX12_goesOn 115 = .ok (.iload_n 2, 1) := by decide +kernel
theorem dX12_goesOn_116 : decode cX12_goesOn 116 = .ok (.laload, 1) := by decide +kernel
theorem dX12_goesOn_117 : decode cX12_goesOn 117 = .ok (.lmul, 1) := by decide +kernel
theorem dX12_goesOn_118 : decode cX12_goesOn 118 = .ok (.ladd, 1) := by decide +kernel
theorem dX12_goesOn_119 : decode cX12_goesOn 119 = .ok (.lastore, 1) := by decide +kernel
theorem dX12_goesOn_120 : decode cX12_goesOn 120 = .ok (.aload_n 0, 1) := by decide +kernel
theorem dX12_goesOn_121 : decode cX12_goesOn 121 = .ok (.getfield 32, 3) := by decide +kernel
theorem dX12_goesOn_124 : decode cX12_goesOn 124 = .ok (.iload_n 2, 1) := by decide +kernel
theorem dX12_goesOn_125 : decode cX12_goesOn 125 = .ok (.iload_n 1, 1) := by decide +kernel
theorem dX12_goesOn_126 : decode cX12_goesOn 126 = .ok (.bipush 7, 2) := by decide +kernel
theorem dX12_goesOn_128 : decode cX12_goesOn 128 = .ok (.iadd, 1) := by decide +kernel
theorem dX12_goesOn_129 : decode cX12_goesOn 129 = .ok (.bipush 8, 2) := by decide +kernel
theorem dX12_goesOn_131 : decode cX12_goesOn 131 = .ok (.irem, 1) := by decide +kernel
theorem dX12_goesOn_132 : decode cX12_goesOn 132 = .ok (.invokestatic 206, 3) := by decide +kernel
theorem dX12_goesOn_135 : decode cX12_goesOn 135 = .ok (.dup2, 1) := by decide +kernel
theorem dX12_goesOn_136 : decode cX12_goesOn 136 = .ok (.laload, 1) := by decide +kernel
theorem dX12_goesOn_137 : decode cX12_goesOn 137 = .ok (.iload_n 3, 1) := by decide +kernel
theorem dX12_goesOn_138 : decode cX12_goesOn 138 = .ok (.i2l, 1) := by decide +kernel
theorem dX12_goesOn_139 : decode cX12_goesOn 139 = .ok (.aload_n 0, 1) := by decide +kernel
theorem dX12_goesOn_140 : decode cX12_goesOn 140 = .ok (.getfield 28, 3) := by decide +kernel
theorem dX12_goesOn_143 : decode cX12_goesOn 143 = .ok (.iload_n 2, 1) := by decide +kernel
theorem dX12_goesOn_144 : decode cX12_goesOn 144 = .ok (.laload, 1) := by decide +kernel
theorem dX12_goesOn_145 : decode cX12_goesOn 145 = .ok (.lmul, 1) := by decide +kernel
theorem dX12_goesOn_146 : decode cX12_goesOn 146 = .ok (.ladd, 1) := by decide +kernel
theorem dX12_goesOn_147 : decode cX12_goesOn 147 = .ok (.lastore, 1) := by decide +kernel
theorem dX12_goesOn_148 : decode cX12_goesOn 148 = .ok (.aload_n 0, 1) := by decide +kernel
theorem dX12_goesOn_149 : decode cX12_goesOn 149 = .ok (.getfield 32, 3) := by decide +kernel
theorem dX12_goesOn_152 : decode cX12_goesOn 152 = .ok (.iload_n 2, 1) := by decide +kernel
theorem dX12_goesOn_153 : decode cX12_goesOn 153 = .ok (.iload_n 1, 1) := by decide +kernel
theorem dX12_goesOn_154 : decode cX12_goesOn 154 = .ok (.iconst 1, 1) := by decide +kernel
theorem dX12_goesOn_155 : decode cX12_goesOn 155 = .ok (.iadd, 1) := by decide +kernel
theorem dX12_goesOn_156 : decode cX12_goesOn 156 = .ok (.bipush 8, 2) := by decide +kernel
theorem dX12_goesOn_158 : decode cX12_goesOn 158 = .ok (.irem, 1) := by decide +kernel
theorem dX12_goesOn_159 : decode cX12_goesOn 159 = .ok (.invokestatic 206, 3) := by decide +kernel
theorem dX12_goesOn_162 : decode cX12_goesOn 162 = .ok (.dup2, 1) := by decide +kernel
theorem dX12_goesOn_163 : decode cX12_goesOn 163 = .ok (.laload, 1) := by decide +kernel
theorem dX12_goesOn_164 : decode cX12_goesOn 164 = .ok (.iload_n 3, 1) := by decide +kernel
theorem dX12_goesOn_165 : decode cX12_goesOn 165 = .ok (.i2l, 1) := by decide +kernel
theorem dX12_goesOn_166 : decode cX12_goesOn 166 = .ok (.aload_n 0, 1) := by decide +kernel
theorem dX12_goesOn_167 : decode cX12_goesOn 167 = .ok (.getfield 28, 3) := by decide +kernel
theorem dX12_goesOn_170 : decode cX12_goesOn 170 = .ok (.iload_n 2, 1) := by decide +kernel
theorem dX12_goesOn_171 : decode cX12_goesOn 171 = .ok (.laload, 1) := by decide +kernel
theorem dX12_goesOn_172 : decode cX12_goesOn 172 = .ok (.lmul, 1) := by decide +kernel
theorem dX12_goesOn_173 : decode cX12_goesOn 173 = .ok (.ladd, 1) := by decide +kernel
theorem dX12_goesOn_174 : decode cX12_goesOn 174 = .ok (.lastore, 1) := by decide +kernel
theorem dX12_goesOn_175 : decode cX12_goesOn 175 = .ok (.iinc 2 1, 3) := by decide +kernel
theorem dX12_goesOn_178 : decode cX12_goesOn 178 = .ok (.goto (-155), 3) := by decide +kernel
theorem dX12_goesOn_8 : decode cX12_goesOn 8 = .ok (.aload_n 0, 1) := by decide +kernel
theorem dX12_goesOn_9 : decode cX12_goesOn 9 = .ok (.getfield 32, 3) := by decide +kernel
theorem dX12_goesOn_12 : decode cX12_goesOn 12 = .ok (.iload_n 2, 1) := by decide +kernel
theorem dX12_goesOn_13 : decode cX12_goesOn 13 = .ok (.lconst 0, 1) := by decide +kernel
theorem dX12_goesOn_14 : decode cX12_goesOn 14 = .ok (.lastore, 1) := by decide +kernel
theorem dX12_goesOn_15 : decode cX12_goesOn 15 = .ok (.iinc 2 1, 3) := by decide +kernel
theorem dX12_goesOn_18 : decode cX12_goesOn 18 = .ok (.goto (-16), 3) := by decide +kernel
theorem dX12_over_0 : decode cX12_over 0 = .ok (.lconst 0, 1) := by decide +kernel
theorem dX12_over_1 : decode cX12_over 1 = .ok (.lstore_n 1, 1) := by decide +kernel
theorem dX12_over_2 : decode cX12_over 2 = .ok (.iconst 0, 1) := by decide +kernel
theorem dX12_over_3 : decode cX12_over 3 = .ok (.istore_n 3, 1) := by decide +kernel
theorem dX12_over_4 : decode cX12_over 4 = .ok (.iload_n 3, 1) := by decide +kernel
theorem dX12_over_5 : decode cX12_over 5 = .ok (.bipush 36, 2) := by decide +kernel
theorem dX12_over_7 : decode cX12_over 7 = .ok (.if_icmp .ge 35, 3) := by decide +kernel
theorem dX12_over_42 : decode cX12_over 42 = .ok (.lload_n 1, 1) := by decide +kernel
theorem dX12_over_43 : decode cX12_over 43 = .ok (.lreturn, 1) := by decide +kernel
theorem dX12_over_10 : decode cX12_over 10 = .ok (.lload_n 1, 1) := by decide +kernel
theorem dX12_over_11 : decode cX12_over 11 = .ok (.aload_n 0, 1) := by decide +kernel
theorem dX12_over_12 : decode cX12_over 12 = .ok (.getfield 9, 3) := by decide +kernel
theorem dX12_over_15 : decode cX12_over 15 = .ok (.bipush 37, 2) := by decide +kernel
theorem dX12_over_17 : decode cX12_over 17 = .ok (.iload_n 3, 1) := by decide +kernel
theorem dX12_over_18 : decode cX12_over 18 = .ok (.iadd, 1) := by decide +kernel
theorem dX12_over_19 : decode cX12_over 19 = .ok (.iaload, 1) := by decide +kernel
theorem dX12_over_20 : decode cX12_over 20 = .ok (.iconst 1, 1) := by decide +kernel
theorem dX12_over_21 : decode cX12_over 21 = .ok (.if_icmp .ne 12, 3) := by decide +kernel
theorem dX12_over_33 : decode cX12_over 33 = .ok (.lconst 0, 1) := by decide +kernel
theorem dX12_over_34 : decode cX12_over 34 = .ok (.ladd, 1) := by decide +kernel
theorem dX12_over_35 : decode cX12_over 35 = .ok (.lstore_n 1, 1) := by decide +kernel
theorem dX12_over_36 : decode cX12_over 36 = .ok (.iinc 3 1, 3) := by decide +kernel
theorem dX12_over_39 : decode cX12_over 39 = .ok (.goto (-35), 3) := by decide +kernel
theorem dX12_lowest_0 : decode cX12_lowest 0 = .ok (.lload_n 0, 1) := by decide +kernel
theorem dX12_lowest_1 : decode cX12_lowest 1 = .ok (.lstore 5, 2) := by decide +kernel
theorem dX12_lowest_3 : decode cX12_lowest 3 = .ok (.lload_n 2, 1) := by decide +kernel
theorem dX12_lowest_4 : decode cX12_lowest 4 = .ok (.lstore 7, 2) := by decide +kernel
theorem dX12_lowest_6 : decode cX12_lowest 6 = .ok (.lload 7, 2) := by decide +kernel
theorem dX12_lowest_8 : decode cX12_lowest 8 = .ok (.lconst 0, 1) := by decide +kernel
theorem dX12_lowest_9 : decode cX12_lowest 9 = .ok (.lcmp, 1) := by decide +kernel
theorem dX12_lowest_10 : decode cX12_lowest 10 = .ok (.ifCond .eq 21, 3) := by decide +kernel
theorem dX12_lowest_13 : decode cX12_lowest 13 = .ok (.lload 5, 2) := by decide +kernel
theorem dX12_lowest_15 : decode cX12_lowest 15 = .ok (.lload 7, 2) := by decide +kernel
theorem dX12_lowest_17 : decode cX12_lowest 17 = .ok (.lrem, 1) := by decide +kernel
theorem dX12_lowest_18 : decode cX12_lowest 18 = .ok (.lstore 9, 2) := by decide +kernel
theorem dX12_lowest_20 : decode cX12_lowest 20 = .ok (.lload 7, 2) := by decide +kernel
theorem dX12_lowest_22 : decode cX12_lowest 22 = .ok (.lstore 5, 2) := by decide +kernel
theorem dX12_lowest_24 : decode cX12_lowest 24 = .ok (.lload 9, 2) := by decide +kernel
theorem dX12_lowest_26 : decode cX12_lowest 26 = .ok (.lstore 7, 2) := by decide +kernel
theorem dX12_lowest_28 : decode cX12_lowest 28 = .ok (.goto (-22), 3) := by decide +kernel
theorem dX12_lowest_31 : decode cX12_lowest 31 = .ok (.iload 4, 2) := by decide +kernel
theorem dX12_lowest_33 : decode cX12_lowest 33 = .ok (.ifCond .ne 7, 3) := by decide +kernel
theorem dX12_lowest_40 : decode cX12_lowest 40 = .ok (.lload_n 2, 1) := by decide +kernel
theorem dX12_lowest_41 : decode cX12_lowest 41 = .ok (.lload 5, 2) := by decide +kernel
theorem dX12_lowest_43 : decode cX12_lowest 43 = .ok (.ldiv, 1) := by decide +kernel
theorem dX12_lowest_44 : decode cX12_lowest 44 = .ok (.lreturn, 1) := by decide +kernel
theorem dX12_lowest_36 : decode cX12_lowest 36 = .ok (.lload_n 0, 1) := by decide +kernel
theorem dX12_lowest_37 : decode cX12_lowest 37 = .ok (.goto 4, 3) := by decide +kernel
theorem dX12_twenties_0 : decode cX12_twenties 0 = .ok (.lconst 1, 1) := by decide +kernel
theorem dX12_twenties_1 : decode cX12_twenties 1 = .ok (.lstore_n 1, 1) := by decide +kernel
theorem dX12_twenties_2 : decode cX12_twenties 2 = .ok (.iconst 0, 1) := by decide +kernel
theorem dX12_twenties_3 : decode cX12_twenties 3 = .ok (.istore_n 3, 1) := by decide +kernel
theorem dX12_twenties_4 : decode cX12_twenties 4 = .ok (.iload_n 3, 1) := by decide +kernel
theorem dX12_twenties_5 : decode cX12_twenties 5 = .ok (.iload_n 0, 1) := by decide +kernel
theorem dX12_twenties_6 : decode cX12_twenties 6 = .ok (.if_icmp .ge 15, 3) := by decide +kernel
theorem dX12_twenties_21 : decode cX12_twenties 21 = .ok (.lload_n 1, 1) := by decide +kernel
theorem dX12_twenties_22 : decode cX12_twenties 22 = .ok (.lreturn, 1) := by decide +kernel
theorem dX12_twenties_9 : decode cX12_twenties 9 = .ok (.lload_n 1, 1) := by decide +kernel
theorem dX12_twenties_10 : decode cX12_twenties 10 = .ok (.ldc2_w 204, 3) := by decide +kernel
theorem dX12_twenties_13 : decode cX12_twenties 13 = .ok (.lmul, 1) := by decide +kernel
theorem dX12_twenties_14 : decode cX12_twenties 14 = .ok (.lstore_n 1, 1) := by decide +kernel
theorem dX12_twenties_15 : decode cX12_twenties 15 = .ok (.iinc 3 1, 3) := by decide +kernel
theorem dX12_twenties_18 : decode cX12_twenties 18 = .ok (.goto (-14), 3) := by decide +kernel
def nb (c w : Nat) : Nat := if 0 ≤ (c / 6 : Nat) + (fDown w).toInt ∧ (c / 6 : Nat) + (fDown w).toInt < 6 ∧ 0 ≤ (c % 6 : Nat) + (fRight w).toInt ∧ (c % 6 : Nat) + (fRight w).toInt < 6 then (((c / 6 : Nat) + (fDown w).toInt) * 6 + ((c % 6 : Nat) + (fRight w).toInt)).toNat else c
theorem nb_lt' : ∀ c : Nat, c < 36 → ∀ w : Nat, w < 8 → nb c w < 36 := by decide +kernel
theorem nb_lt {c w : Nat} (h : c < 36) (hw : w < 8) : nb c w < 36 := nb_lt' c h w hw
theorem nb_out' : ∀ c : Nat, c < 36 → ∀ w : Nat, w < 8 → (nI (c / 6) + fDown w < 0 ∨ 5 < nI (c / 6) + fDown w ∨ nI (c % 6) + fRight w < 0 ∨ 5 < nI (c % 6) + fRight w) → nb c w = c := by decide +kernel
theorem nb_in' : ∀ c : Nat, c < 36 → ∀ w : Nat, w < 8 → ¬ (nI (c / 6) + fDown w < 0) ∧ ¬ (5 < nI (c / 6) + fDown w) ∧ ¬ (nI (c % 6) + fRight w < 0) ∧ ¬ (5 < nI (c % 6) + fRight w) → 6 * (nI (c / 6) + fDown w) + (nI (c % 6) + fRight w) = nI (nb c w) ∧ (nI (c / 6) + fDown w) * 6 + (nI (c % 6) + fRight w) = nI (nb c w) := by decide +kernel
theorem lt8 {w : Nat} (h : w < 8) : w = 0 ∨ w = 1 ∨ w = 2 ∨ w = 3 ∨ w = 4 ∨ w = 5 ∨ w = 6 ∨ w = 7 := by omega
def ind (j k x : Nat) : Int64 := if x = j then lN (20 ^ k) else 0
def pth (n j r : Nat) : Nat := match n with
  | 1 => nb j (r % 8)
  | 2 => nb (nb j (r / 8 % 8)) (r % 8)
  | _ => nb (nb (nb j (r / 64)) (r / 8 % 8)) (r % 8)
def GG (v : Nat → Int64) : Nat → Int64 × Nat
  | 0 => (-1, 0)
  | k + 1 => if (GG v k).1 < v k then (v k, k) else GG v k
theorem mul20 (k : Nat) : (20 : Int64) * lN (20 ^ k) = lN (20 ^ (k + 1)) := by
  have := lN_mul 20 (20 ^ k)
  rw [show (20 : Int64) = lN 20 from rfl, this, Nat.pow_succ, Nat.mul_comm]
theorem pos20 {k : Nat} (h : k ≤ 3) : ¬ lN (20 ^ k) ≤ 0 := by
  have : k = 0 ∨ k = 1 ∨ k = 2 ∨ k = 3 := by omega
  rcases this with rfl | rfl | rfl | rfl <;> decide
theorem updL_self (f : Nat → Int64) (k : Nat) : vp_updL f k (f k) = f := by
  funext x
  unfold vp_updL
  split
  · next h => rw [h]
  · rfl
theorem updL_fill {t v : Nat → Int64} {i : Nat} {y : Int64} (h : ∀ x, x < i → t x = v x) (e : y = v i) : ∀ x, x < i + 1 → vp_updL t i y x = v x := by
  intro x hx
  unfold vp_updL
  split
  · next q => rw [q]; exact e
  · next q => exact h x (by omega)
theorem upd_fill {t v : Nat → Int32} {i : Nat} {y : Int32} (h : ∀ x, x < i → t x = v x) (e : y = v i) : ∀ x, x < i + 1 → upd t i y x = v x := by
  intro x hx
  unfold upd
  split
  · next q => rw [q]; exact e
  · next q => exact h x (by omega)
theorem go_skip {t : Nat → Int64} {i j k w : Nat} (e : ¬ i = j) (h : ∀ x, x < 36 → t x = if j < i then ind (nb j w) (k + 1) x else 0) : ∀ x, x < 36 → t x = if j < i + 1 then ind (nb j w) (k + 1) x else 0 := by
  intro x hx
  rw [h x hx]
  by_cases q : j < i
  · rw [if_pos q, if_pos (by omega)]
  · rw [if_neg q, if_neg (by omega)]
theorem go_put {t : Nat → Int64} {i j k w : Nat} (e : i = j) (h : ∀ x, x < 36 → t x = if j < i then ind (nb j w) (k + 1) x else 0) : ∀ x, x < 36 → vp_updL t (nb i w) (lN (20 ^ (k + 1))) x = if j < i + 1 then ind (nb j w) (k + 1) x else 0 := by
  intro x hx
  rw [if_pos (by omega)]
  unfold vp_updL ind
  rw [e]
  split
  · rfl
  · rw [h x hx, if_neg (by omega)]
theorem g_ne {b : Nat} (h : b < 2 ^ 31) : ¬ nI b = -1 := by
  intro q
  have := congrArg Int32.toInt q
  rw [nI_toInt h] at this
  have e : (-1 : Int32).toInt = -1 := rfl
  omega
def GI (v : Nat → Int64) (i : Nat) (bs : Int32) (bv : Int64) : Prop := (i = 0 → bs = -1) ∧ (0 < i → bs = nI (GG v i).2 ∧ bv = (GG v i).1)
theorem GG_lt (v : Nat → Int64) : ∀ k, 0 < k → (GG v k).2 < k
  | 0, h => absurd h (Nat.lt_irrefl 0)
  | k + 1, _ => by
    unfold GG
    split
    · exact Nat.lt_succ_self k
    · rcases Nat.eq_zero_or_pos k with q | q
      · subst q; exact Nat.lt_succ_self 0
      · exact Nat.lt_succ_of_lt (GG_lt v k q)
theorem GI_0 {v : Nat → Int64} {bv : Int64} : GI v 0 (-1) bv := ⟨fun _ => rfl, fun h => absurd h (Nat.lt_irrefl 0)⟩
theorem GI_A {v : Nat → Int64} {i : Nat} {bs : Int32} {bv : Int64} (hi : i < 512) (h : GI v i bs bv) (c : bs = -1) (hv : (-1 : Int64) < v i) : GI v (i + 1) (nI i) (v i) := by
  have i0 : i = 0 := by
    rcases Nat.eq_zero_or_pos i with q | q
    · exact q
    · have h1 := (h.2 q).1
      have h2 := GG_lt v i q
      exact absurd (h1.symm.trans c) (g_ne (by omega))
  subst i0
  refine ⟨fun q => absurd q (Nat.succ_ne_zero 0), fun _ => ?_⟩
  have : GG v 1 = (v 0, 0) := by
    show (if (-1 : Int64) < v 0 then (v 0, 0) else ((-1 : Int64), 0)) = _
    rw [if_pos hv]
  rw [this]
  exact ⟨rfl, rfl⟩
theorem GI_n {v : Nat → Int64} {i : Nat} {bs : Int32} {bv : Int64} (h : GI v i bs bv) (c : ¬ bs = -1) : bs = nI (GG v i).2 ∧ bv = (GG v i).1 := by
  rcases Nat.eq_zero_or_pos i with q | q
  · exact absurd (h.1 q) c
  · exact h.2 q
theorem GI_B1 {v : Nat → Int64} {i : Nat} {bs : Int32} {bv : Int64} (h : GI v i bs bv) (c : ¬ bs = -1) (c2 : v i ≤ bv) : GI v (i + 1) bs bv := by
  obtain ⟨e1, e2⟩ := GI_n h c
  refine ⟨fun q => absurd q (Nat.succ_ne_zero i), fun _ => ?_⟩
  have : GG v (i + 1) = GG v i := by
    show (if (GG v i).1 < v i then (v i, i) else GG v i) = _
    rw [if_neg (by rw [← e2]; exact Int64.not_lt.mpr c2)]
  rw [this]
  exact ⟨e1, e2⟩
theorem GI_B2 {v : Nat → Int64} {i : Nat} {bs : Int32} {bv : Int64} (h : GI v i bs bv) (c : ¬ bs = -1) (c2 : ¬ v i ≤ bv) : GI v (i + 1) (nI i) (v i) := by
  obtain ⟨e1, e2⟩ := GI_n h c
  refine ⟨fun q => absurd q (Nat.succ_ne_zero i), fun _ => ?_⟩
  have : GG v (i + 1) = (v i, i) := by
    show (if (GG v i).1 < v i then (v i, i) else GG v i) = _
    rw [if_pos (by rw [← e2]; exact Int64.not_le.mp c2)]
  rw [this]
  exact ⟨rfl, rfl⟩
theorem ind_ge (j k x : Nat) (h : k ≤ 3) : (-1 : Int64) < ind j k x := by
  unfold ind
  split
  · have : k = 0 ∨ k = 1 ∨ k = 2 ∨ k = 3 := by omega
    rcases this with rfl | rfl | rfl | rfl <;> decide
  · decide
theorem lz {b : Nat} (h : b < 2 ^ 62) (h0 : 0 < b) : ¬ lN b = 0 := fun q => absurd ((pk_lEQ (a := b) (b := 0) (by omega) (by omega)).mp q) (by omega)
def wy (b n k : Nat) : Nat := if n - 1 - k = 2 then b / 64 else if n - 1 - k = 1 then b / 8 % 8 else b % 8

set_option maxHeartbeats 4000000 in
set_option maxRecDepth 100000 in
theorem c_rowsOf (l : Launch) (dC : Nat → ClassId) (dI : Nat → Nat → Nat) (w : Nat) (zw : w < 8) : Met l yX12_rowsOf wsX12_rowsOf ({ frames := 0, cells := 0, slots := 0, locals := 0 } : Room) (va_Pc [.int (nI w)] (fun U => True)) (vp_Si (fun r => r = fDown w)) 0 0 (fun _ => False) := by
  refine met_ofQ (cc := cX12_rowsOf) (maxL := 1) (ret := (some .int)) (by decide) rfl ?_
  intro p e s m args below meth c s₁ Q B hml hv hQ
  obtain ⟨rfl, -⟩ := hv
  have hx := B.exec
  have hb := B.bytes
  have hr := B.returns
  have hts := atoms_spec (ws := wsX12_rowsOf) B.pre
  have hown : s.vm.findClass RX12 = some m.cls := findClass_of_methodNamed B.named
  have hlocks := B.notSynchronized
  obtain ⟨A, hAe⟩ : ∃ A : Nat → Prop, A = fun _ => False := ⟨_, rfl⟩
  rw [← hAe] at hQ
  have hS : va_S A s.heap s.heap [] := va_S.rf
  have hl := lv_entry [.int (nI w)] (n := 1) (Nat.le_of_ble_eq_true rfl)
  rw [lg_entry_eq]
  generalize (lg_sl [.int (nI w)] ++ List.replicate (1 - (lg_sl [.int (nI w)]).length) Slot.unset).toArray = ls at hl ⊢
  generalize hag : ([.int (nI w)] : List Value).toArray = args at hts hQ ⊢
  have hl : lv_has ls 1 [(0, .int (nI w))] := hl
  rcases lt8 zw with rfl | rfl | rfl | rfl | rfl | rfl | rfl | rfl
  · skip
    refine lv_iload_n hx hb dX12_rowsOf_0 rfl (lv_at hl 0 rfl) ?_
    refine lv_bipush (v := 7) hx hb dX12_rowsOf_1 (by decide) ?_
    refine lv_icmp_eq (tgt := 11) hx hb dX12_rowsOf_3 (by decide) (fun c_1 => absurd c_1 (by decide)) (fun _ => ?_)
    refine lv_iload_n hx hb dX12_rowsOf_6 rfl (lv_at hl 0 rfl) ?_
    refine lv_iconst (v := 2) hx hb dX12_rowsOf_7 (by decide) ?_
    refine lv_icmp_ge (tgt := 15) hx hb dX12_rowsOf_8 (by decide) (fun c_2 => absurd c_2 (by decide)) (fun _ => ?_)
    refine lv_iconst (v := (-1)) hx hb dX12_rowsOf_11 (by decide) ?_
    refine lv_goto (tgt := 31) hx hb dX12_rowsOf_12 (by decide) ?_
    rw [hQ]
    exact W.iret (v := (-1)) hx hb hr (fun tQ htQ hWQ => ⟨(-1), rfl, rfl, by rw [htQ]⟩) (fun q hq => absurd hq List.not_mem_nil) dX12_rowsOf_31
  · skip
    refine lv_iload_n hx hb dX12_rowsOf_0 rfl (lv_at hl 0 rfl) ?_
    refine lv_bipush (v := 7) hx hb dX12_rowsOf_1 (by decide) ?_
    refine lv_icmp_eq (tgt := 11) hx hb dX12_rowsOf_3 (by decide) (fun c_3 => absurd c_3 (by decide)) (fun _ => ?_)
    refine lv_iload_n hx hb dX12_rowsOf_6 rfl (lv_at hl 0 rfl) ?_
    refine lv_iconst (v := 2) hx hb dX12_rowsOf_7 (by decide) ?_
    refine lv_icmp_ge (tgt := 15) hx hb dX12_rowsOf_8 (by decide) (fun c_4 => absurd c_4 (by decide)) (fun _ => ?_)
    refine lv_iconst (v := (-1)) hx hb dX12_rowsOf_11 (by decide) ?_
    refine lv_goto (tgt := 31) hx hb dX12_rowsOf_12 (by decide) ?_
    rw [hQ]
    exact W.iret (v := (-1)) hx hb hr (fun tQ htQ hWQ => ⟨(-1), rfl, rfl, by rw [htQ]⟩) (fun q hq => absurd hq List.not_mem_nil) dX12_rowsOf_31
  · skip
    refine lv_iload_n hx hb dX12_rowsOf_0 rfl (lv_at hl 0 rfl) ?_
    refine lv_bipush (v := 7) hx hb dX12_rowsOf_1 (by decide) ?_
    refine lv_icmp_eq (tgt := 11) hx hb dX12_rowsOf_3 (by decide) (fun c_5 => absurd c_5 (by decide)) (fun _ => ?_)
    refine lv_iload_n hx hb dX12_rowsOf_6 rfl (lv_at hl 0 rfl) ?_
    refine lv_iconst (v := 2) hx hb dX12_rowsOf_7 (by decide) ?_
    refine lv_icmp_ge (tgt := 15) hx hb dX12_rowsOf_8 (by decide) (fun _ => ?_) (fun c_6 => absurd c_6 (by decide))
    refine lv_iload_n hx hb dX12_rowsOf_15 rfl (lv_at hl 0 rfl) ?_
    refine lv_iconst (v := 2) hx hb dX12_rowsOf_16 (by decide) ?_
    refine lv_icmp_le (tgt := 30) hx hb dX12_rowsOf_17 (by decide) (fun _ => ?_) (fun c_7 => absurd c_7 (by decide))
    refine lv_iconst (v := 0) hx hb dX12_rowsOf_30 (by decide) ?_
    rw [hQ]
    exact W.iret (v := 0) hx hb hr (fun tQ htQ hWQ => ⟨0, rfl, rfl, by rw [htQ]⟩) (fun q hq => absurd hq List.not_mem_nil) dX12_rowsOf_31
  · skip
    refine lv_iload_n hx hb dX12_rowsOf_0 rfl (lv_at hl 0 rfl) ?_
    refine lv_bipush (v := 7) hx hb dX12_rowsOf_1 (by decide) ?_
    refine lv_icmp_eq (tgt := 11) hx hb dX12_rowsOf_3 (by decide) (fun c_8 => absurd c_8 (by decide)) (fun _ => ?_)
    refine lv_iload_n hx hb dX12_rowsOf_6 rfl (lv_at hl 0 rfl) ?_
    refine lv_iconst (v := 2) hx hb dX12_rowsOf_7 (by decide) ?_
    refine lv_icmp_ge (tgt := 15) hx hb dX12_rowsOf_8 (by decide) (fun _ => ?_) (fun c_9 => absurd c_9 (by decide))
    refine lv_iload_n hx hb dX12_rowsOf_15 rfl (lv_at hl 0 rfl) ?_
    refine lv_iconst (v := 2) hx hb dX12_rowsOf_16 (by decide) ?_
    refine lv_icmp_le (tgt := 30) hx hb dX12_rowsOf_17 (by decide) (fun c_10 => absurd c_10 (by decide)) (fun _ => ?_)
    refine lv_iload_n hx hb dX12_rowsOf_20 rfl (lv_at hl 0 rfl) ?_
    refine lv_bipush (v := 6) hx hb dX12_rowsOf_21 (by decide) ?_
    refine lv_icmp_ge (tgt := 30) hx hb dX12_rowsOf_23 (by decide) (fun c_11 => absurd c_11 (by decide)) (fun _ => ?_)
    refine lv_iconst (v := 1) hx hb dX12_rowsOf_26 (by decide) ?_
    refine lv_goto (tgt := 31) hx hb dX12_rowsOf_27 (by decide) ?_
    rw [hQ]
    exact W.iret (v := 1) hx hb hr (fun tQ htQ hWQ => ⟨1, rfl, rfl, by rw [htQ]⟩) (fun q hq => absurd hq List.not_mem_nil) dX12_rowsOf_31
  · skip
    refine lv_iload_n hx hb dX12_rowsOf_0 rfl (lv_at hl 0 rfl) ?_
    refine lv_bipush (v := 7) hx hb dX12_rowsOf_1 (by decide) ?_
    refine lv_icmp_eq (tgt := 11) hx hb dX12_rowsOf_3 (by decide) (fun c_12 => absurd c_12 (by decide)) (fun _ => ?_)
    refine lv_iload_n hx hb dX12_rowsOf_6 rfl (lv_at hl 0 rfl) ?_
    refine lv_iconst (v := 2) hx hb dX12_rowsOf_7 (by decide) ?_
    refine lv_icmp_ge (tgt := 15) hx hb dX12_rowsOf_8 (by decide) (fun _ => ?_) (fun c_13 => absurd c_13 (by decide))
    refine lv_iload_n hx hb dX12_rowsOf_15 rfl (lv_at hl 0 rfl) ?_
    refine lv_iconst (v := 2) hx hb dX12_rowsOf_16 (by decide) ?_
    refine lv_icmp_le (tgt := 30) hx hb dX12_rowsOf_17 (by decide) (fun c_14 => absurd c_14 (by decide)) (fun _ => ?_)
    refine lv_iload_n hx hb dX12_rowsOf_20 rfl (lv_at hl 0 rfl) ?_
    refine lv_bipush (v := 6) hx hb dX12_rowsOf_21 (by decide) ?_
    refine lv_icmp_ge (tgt := 30) hx hb dX12_rowsOf_23 (by decide) (fun c_15 => absurd c_15 (by decide)) (fun _ => ?_)
    refine lv_iconst (v := 1) hx hb dX12_rowsOf_26 (by decide) ?_
    refine lv_goto (tgt := 31) hx hb dX12_rowsOf_27 (by decide) ?_
    rw [hQ]
    exact W.iret (v := 1) hx hb hr (fun tQ htQ hWQ => ⟨1, rfl, rfl, by rw [htQ]⟩) (fun q hq => absurd hq List.not_mem_nil) dX12_rowsOf_31
  · skip
    refine lv_iload_n hx hb dX12_rowsOf_0 rfl (lv_at hl 0 rfl) ?_
    refine lv_bipush (v := 7) hx hb dX12_rowsOf_1 (by decide) ?_
    refine lv_icmp_eq (tgt := 11) hx hb dX12_rowsOf_3 (by decide) (fun c_16 => absurd c_16 (by decide)) (fun _ => ?_)
    refine lv_iload_n hx hb dX12_rowsOf_6 rfl (lv_at hl 0 rfl) ?_
    refine lv_iconst (v := 2) hx hb dX12_rowsOf_7 (by decide) ?_
    refine lv_icmp_ge (tgt := 15) hx hb dX12_rowsOf_8 (by decide) (fun _ => ?_) (fun c_17 => absurd c_17 (by decide))
    refine lv_iload_n hx hb dX12_rowsOf_15 rfl (lv_at hl 0 rfl) ?_
    refine lv_iconst (v := 2) hx hb dX12_rowsOf_16 (by decide) ?_
    refine lv_icmp_le (tgt := 30) hx hb dX12_rowsOf_17 (by decide) (fun c_18 => absurd c_18 (by decide)) (fun _ => ?_)
    refine lv_iload_n hx hb dX12_rowsOf_20 rfl (lv_at hl 0 rfl) ?_
    refine lv_bipush (v := 6) hx hb dX12_rowsOf_21 (by decide) ?_
    refine lv_icmp_ge (tgt := 30) hx hb dX12_rowsOf_23 (by decide) (fun c_19 => absurd c_19 (by decide)) (fun _ => ?_)
    refine lv_iconst (v := 1) hx hb dX12_rowsOf_26 (by decide) ?_
    refine lv_goto (tgt := 31) hx hb dX12_rowsOf_27 (by decide) ?_
    rw [hQ]
    exact W.iret (v := 1) hx hb hr (fun tQ htQ hWQ => ⟨1, rfl, rfl, by rw [htQ]⟩) (fun q hq => absurd hq List.not_mem_nil) dX12_rowsOf_31
  · skip
    refine lv_iload_n hx hb dX12_rowsOf_0 rfl (lv_at hl 0 rfl) ?_
    refine lv_bipush (v := 7) hx hb dX12_rowsOf_1 (by decide) ?_
    refine lv_icmp_eq (tgt := 11) hx hb dX12_rowsOf_3 (by decide) (fun c_20 => absurd c_20 (by decide)) (fun _ => ?_)
    refine lv_iload_n hx hb dX12_rowsOf_6 rfl (lv_at hl 0 rfl) ?_
    refine lv_iconst (v := 2) hx hb dX12_rowsOf_7 (by decide) ?_
    refine lv_icmp_ge (tgt := 15) hx hb dX12_rowsOf_8 (by decide) (fun _ => ?_) (fun c_21 => absurd c_21 (by decide))
    refine lv_iload_n hx hb dX12_rowsOf_15 rfl (lv_at hl 0 rfl) ?_
    refine lv_iconst (v := 2) hx hb dX12_rowsOf_16 (by decide) ?_
    refine lv_icmp_le (tgt := 30) hx hb dX12_rowsOf_17 (by decide) (fun c_22 => absurd c_22 (by decide)) (fun _ => ?_)
    refine lv_iload_n hx hb dX12_rowsOf_20 rfl (lv_at hl 0 rfl) ?_
    refine lv_bipush (v := 6) hx hb dX12_rowsOf_21 (by decide) ?_
    refine lv_icmp_ge (tgt := 30) hx hb dX12_rowsOf_23 (by decide) (fun _ => ?_) (fun c_23 => absurd c_23 (by decide))
    refine lv_iconst (v := 0) hx hb dX12_rowsOf_30 (by decide) ?_
    rw [hQ]
    exact W.iret (v := 0) hx hb hr (fun tQ htQ hWQ => ⟨0, rfl, rfl, by rw [htQ]⟩) (fun q hq => absurd hq List.not_mem_nil) dX12_rowsOf_31
  · skip
    refine lv_iload_n hx hb dX12_rowsOf_0 rfl (lv_at hl 0 rfl) ?_
    refine lv_bipush (v := 7) hx hb dX12_rowsOf_1 (by decide) ?_
    refine lv_icmp_eq (tgt := 11) hx hb dX12_rowsOf_3 (by decide) (fun _ => ?_) (fun c_24 => absurd c_24 (by decide))
    refine lv_iconst (v := (-1)) hx hb dX12_rowsOf_11 (by decide) ?_
    refine lv_goto (tgt := 31) hx hb dX12_rowsOf_12 (by decide) ?_
    rw [hQ]
    exact W.iret (v := (-1)) hx hb hr (fun tQ htQ hWQ => ⟨(-1), rfl, rfl, by rw [htQ]⟩) (fun q hq => absurd hq List.not_mem_nil) dX12_rowsOf_31

set_option maxHeartbeats 4000000 in
set_option maxRecDepth 100000 in
theorem c_columnsOf (l : Launch) (dC : Nat → ClassId) (dI : Nat → Nat → Nat) (w : Nat) (zw : w < 8) : Met l yX12_columnsOf wsX12_columnsOf ({ frames := 1, cells := 0, slots := 0, locals := 22 } : Room) (va_Pc [.int (nI w)] (fun U => True)) (vp_Si (fun r => r = fRight w)) 0 0 (fun _ => False) := by
  refine met_ofQ (cc := cX12_columnsOf) (maxL := 1) (ret := (some .int)) (by decide) rfl ?_
  intro p e s m args below meth c s₁ Q B hml hv hQ
  obtain ⟨rfl, -⟩ := hv
  have hx := B.exec
  have hb := B.bytes
  have hr := B.returns
  have hts := atoms_spec (ws := wsX12_columnsOf) B.pre
  have hown : s.vm.findClass RX12 = some m.cls := findClass_of_methodNamed B.named
  have hlocks := B.notSynchronized
  obtain ⟨A, hAe⟩ : ∃ A : Nat → Prop, A = fun _ => False := ⟨_, rfl⟩
  rw [← hAe] at hQ
  have hS : va_S A s.heap s.heap [] := va_S.rf
  have hl := lv_entry [.int (nI w)] (n := 1) (Nat.le_of_ble_eq_true rfl)
  rw [lg_entry_eq]
  generalize (lg_sl [.int (nI w)] ++ List.replicate (1 - (lg_sl [.int (nI w)]).length) Slot.unset).toArray = ls at hl ⊢
  generalize hag : ([.int (nI w)] : List Value).toArray = args at hts hQ ⊢
  have hl : lv_has ls 1 [(0, .int (nI w))] := hl
  rcases lt8 zw with rfl | rfl | rfl | rfl | rfl | rfl | rfl | rfl
  · skip
    refine lv_iload_n hx hb dX12_columnsOf_0 rfl (lv_at hl 0 rfl) ?_
    refine lv_iconst (v := 1) hx hb dX12_columnsOf_1 (by decide) ?_
    refine lv_iconst (v := 3) hx hb dX12_columnsOf_2 (by decide) ?_
    refine vp_callSi (va_runS (As := [.int 0, .int 1, .int 3]) (rest := []) ⟨hx, hb, hml, hown, hts⟩ (c_in l dC dI 0 1 3) (va_cwS 3 hts gX12_columnsOf_X12_in rfl rfl rfl (by decide +kernel) ⟨Nat.le_of_ble_eq_true rfl, Nat.le_of_ble_eq_true rfl⟩) ⟨fun a U g mk q => ⟨q.1, trivial⟩, fun U hU hW => ⟨rfl, trivial⟩⟩ rfl rfl hl.1 rfl (lv_room (Nat.le_of_ble_eq_true rfl)) dX12_columnsOf_3 ⟨Nat.le_of_ble_eq_true rfl, Nat.le_of_ble_eq_true rfl⟩).run (fun r_1 hw_2 => ?_)
    have hw_2 : r_1 = 0 := by rcases hw_2 with ⟨h, h1, h2⟩ | ⟨h, h1⟩ <;> first | exact h | (exfalso; revert h1; decide) | (exfalso; revert h2; decide) | (exfalso; revert h1 h2; decide)
    subst hw_2
    refine lv_if_eq (tgt := 13) hx hb dX12_columnsOf_6 (by decide) (fun _ => ?_) (fun c_3 => absurd c_3 (by decide))
    refine lv_iload_n hx hb dX12_columnsOf_13 rfl (lv_at hl 0 rfl) ?_
    refine lv_iconst (v := 4) hx hb dX12_columnsOf_14 (by decide) ?_
    refine lv_icmp_le (tgt := 22) hx hb dX12_columnsOf_15 (by decide) (fun _ => ?_) (fun c_4 => absurd c_4 (by decide))
    refine lv_iconst (v := 0) hx hb dX12_columnsOf_22 (by decide) ?_
    rw [hQ]
    exact W.iret (v := 0) hx hb hr (fun tQ htQ hWQ => ⟨0, rfl, rfl, by rw [htQ]⟩) (fun q hq => absurd hq List.not_mem_nil) dX12_columnsOf_23
  · skip
    refine lv_iload_n hx hb dX12_columnsOf_0 rfl (lv_at hl 0 rfl) ?_
    refine lv_iconst (v := 1) hx hb dX12_columnsOf_1 (by decide) ?_
    refine lv_iconst (v := 3) hx hb dX12_columnsOf_2 (by decide) ?_
    refine vp_callSi (va_runS (As := [.int 1, .int 1, .int 3]) (rest := []) ⟨hx, hb, hml, hown, hts⟩ (c_in l dC dI 1 1 3) (va_cwS 3 hts gX12_columnsOf_X12_in rfl rfl rfl (by decide +kernel) ⟨Nat.le_of_ble_eq_true rfl, Nat.le_of_ble_eq_true rfl⟩) ⟨fun a U g mk q => ⟨q.1, trivial⟩, fun U hU hW => ⟨rfl, trivial⟩⟩ rfl rfl hl.1 rfl (lv_room (Nat.le_of_ble_eq_true rfl)) dX12_columnsOf_3 ⟨Nat.le_of_ble_eq_true rfl, Nat.le_of_ble_eq_true rfl⟩).run (fun r_5 hw_6 => ?_)
    have hw_6 : r_5 = 1 := by rcases hw_6 with ⟨h, h1, h2⟩ | ⟨h, h1⟩ <;> first | exact h | (exfalso; revert h1; decide) | (exfalso; revert h2; decide) | (exfalso; revert h1 h2; decide)
    subst hw_6
    refine lv_if_eq (tgt := 13) hx hb dX12_columnsOf_6 (by decide) (fun c_7 => absurd c_7 (by decide)) (fun _ => ?_)
    refine lv_iconst (v := 1) hx hb dX12_columnsOf_9 (by decide) ?_
    refine lv_goto (tgt := 23) hx hb dX12_columnsOf_10 (by decide) ?_
    rw [hQ]
    exact W.iret (v := 1) hx hb hr (fun tQ htQ hWQ => ⟨1, rfl, rfl, by rw [htQ]⟩) (fun q hq => absurd hq List.not_mem_nil) dX12_columnsOf_23
  · skip
    refine lv_iload_n hx hb dX12_columnsOf_0 rfl (lv_at hl 0 rfl) ?_
    refine lv_iconst (v := 1) hx hb dX12_columnsOf_1 (by decide) ?_
    refine lv_iconst (v := 3) hx hb dX12_columnsOf_2 (by decide) ?_
    refine vp_callSi (va_runS (As := [.int 2, .int 1, .int 3]) (rest := []) ⟨hx, hb, hml, hown, hts⟩ (c_in l dC dI 2 1 3) (va_cwS 3 hts gX12_columnsOf_X12_in rfl rfl rfl (by decide +kernel) ⟨Nat.le_of_ble_eq_true rfl, Nat.le_of_ble_eq_true rfl⟩) ⟨fun a U g mk q => ⟨q.1, trivial⟩, fun U hU hW => ⟨rfl, trivial⟩⟩ rfl rfl hl.1 rfl (lv_room (Nat.le_of_ble_eq_true rfl)) dX12_columnsOf_3 ⟨Nat.le_of_ble_eq_true rfl, Nat.le_of_ble_eq_true rfl⟩).run (fun r_8 hw_9 => ?_)
    have hw_9 : r_8 = 1 := by rcases hw_9 with ⟨h, h1, h2⟩ | ⟨h, h1⟩ <;> first | exact h | (exfalso; revert h1; decide) | (exfalso; revert h2; decide) | (exfalso; revert h1 h2; decide)
    subst hw_9
    refine lv_if_eq (tgt := 13) hx hb dX12_columnsOf_6 (by decide) (fun c_10 => absurd c_10 (by decide)) (fun _ => ?_)
    refine lv_iconst (v := 1) hx hb dX12_columnsOf_9 (by decide) ?_
    refine lv_goto (tgt := 23) hx hb dX12_columnsOf_10 (by decide) ?_
    rw [hQ]
    exact W.iret (v := 1) hx hb hr (fun tQ htQ hWQ => ⟨1, rfl, rfl, by rw [htQ]⟩) (fun q hq => absurd hq List.not_mem_nil) dX12_columnsOf_23
  · skip
    refine lv_iload_n hx hb dX12_columnsOf_0 rfl (lv_at hl 0 rfl) ?_
    refine lv_iconst (v := 1) hx hb dX12_columnsOf_1 (by decide) ?_
    refine lv_iconst (v := 3) hx hb dX12_columnsOf_2 (by decide) ?_
    refine vp_callSi (va_runS (As := [.int 3, .int 1, .int 3]) (rest := []) ⟨hx, hb, hml, hown, hts⟩ (c_in l dC dI 3 1 3) (va_cwS 3 hts gX12_columnsOf_X12_in rfl rfl rfl (by decide +kernel) ⟨Nat.le_of_ble_eq_true rfl, Nat.le_of_ble_eq_true rfl⟩) ⟨fun a U g mk q => ⟨q.1, trivial⟩, fun U hU hW => ⟨rfl, trivial⟩⟩ rfl rfl hl.1 rfl (lv_room (Nat.le_of_ble_eq_true rfl)) dX12_columnsOf_3 ⟨Nat.le_of_ble_eq_true rfl, Nat.le_of_ble_eq_true rfl⟩).run (fun r_11 hw_12 => ?_)
    have hw_12 : r_11 = 1 := by rcases hw_12 with ⟨h, h1, h2⟩ | ⟨h, h1⟩ <;> first | exact h | (exfalso; revert h1; decide) | (exfalso; revert h2; decide) | (exfalso; revert h1 h2; decide)
    subst hw_12
    refine lv_if_eq (tgt := 13) hx hb dX12_columnsOf_6 (by decide) (fun c_13 => absurd c_13 (by decide)) (fun _ => ?_)
    refine lv_iconst (v := 1) hx hb dX12_columnsOf_9 (by decide) ?_
    refine lv_goto (tgt := 23) hx hb dX12_columnsOf_10 (by decide) ?_
    rw [hQ]
    exact W.iret (v := 1) hx hb hr (fun tQ htQ hWQ => ⟨1, rfl, rfl, by rw [htQ]⟩) (fun q hq => absurd hq List.not_mem_nil) dX12_columnsOf_23
  · skip
    refine lv_iload_n hx hb dX12_columnsOf_0 rfl (lv_at hl 0 rfl) ?_
    refine lv_iconst (v := 1) hx hb dX12_columnsOf_1 (by decide) ?_
    refine lv_iconst (v := 3) hx hb dX12_columnsOf_2 (by decide) ?_
    refine vp_callSi (va_runS (As := [.int 4, .int 1, .int 3]) (rest := []) ⟨hx, hb, hml, hown, hts⟩ (c_in l dC dI 4 1 3) (va_cwS 3 hts gX12_columnsOf_X12_in rfl rfl rfl (by decide +kernel) ⟨Nat.le_of_ble_eq_true rfl, Nat.le_of_ble_eq_true rfl⟩) ⟨fun a U g mk q => ⟨q.1, trivial⟩, fun U hU hW => ⟨rfl, trivial⟩⟩ rfl rfl hl.1 rfl (lv_room (Nat.le_of_ble_eq_true rfl)) dX12_columnsOf_3 ⟨Nat.le_of_ble_eq_true rfl, Nat.le_of_ble_eq_true rfl⟩).run (fun r_14 hw_15 => ?_)
    have hw_15 : r_14 = 0 := by rcases hw_15 with ⟨h, h1, h2⟩ | ⟨h, h1⟩ <;> first | exact h | (exfalso; revert h1; decide) | (exfalso; revert h2; decide) | (exfalso; revert h1 h2; decide)
    subst hw_15
    refine lv_if_eq (tgt := 13) hx hb dX12_columnsOf_6 (by decide) (fun _ => ?_) (fun c_16 => absurd c_16 (by decide))
    refine lv_iload_n hx hb dX12_columnsOf_13 rfl (lv_at hl 0 rfl) ?_
    refine lv_iconst (v := 4) hx hb dX12_columnsOf_14 (by decide) ?_
    refine lv_icmp_le (tgt := 22) hx hb dX12_columnsOf_15 (by decide) (fun _ => ?_) (fun c_17 => absurd c_17 (by decide))
    refine lv_iconst (v := 0) hx hb dX12_columnsOf_22 (by decide) ?_
    rw [hQ]
    exact W.iret (v := 0) hx hb hr (fun tQ htQ hWQ => ⟨0, rfl, rfl, by rw [htQ]⟩) (fun q hq => absurd hq List.not_mem_nil) dX12_columnsOf_23
  · skip
    refine lv_iload_n hx hb dX12_columnsOf_0 rfl (lv_at hl 0 rfl) ?_
    refine lv_iconst (v := 1) hx hb dX12_columnsOf_1 (by decide) ?_
    refine lv_iconst (v := 3) hx hb dX12_columnsOf_2 (by decide) ?_
    refine vp_callSi (va_runS (As := [.int 5, .int 1, .int 3]) (rest := []) ⟨hx, hb, hml, hown, hts⟩ (c_in l dC dI 5 1 3) (va_cwS 3 hts gX12_columnsOf_X12_in rfl rfl rfl (by decide +kernel) ⟨Nat.le_of_ble_eq_true rfl, Nat.le_of_ble_eq_true rfl⟩) ⟨fun a U g mk q => ⟨q.1, trivial⟩, fun U hU hW => ⟨rfl, trivial⟩⟩ rfl rfl hl.1 rfl (lv_room (Nat.le_of_ble_eq_true rfl)) dX12_columnsOf_3 ⟨Nat.le_of_ble_eq_true rfl, Nat.le_of_ble_eq_true rfl⟩).run (fun r_18 hw_19 => ?_)
    have hw_19 : r_18 = 0 := by rcases hw_19 with ⟨h, h1, h2⟩ | ⟨h, h1⟩ <;> first | exact h | (exfalso; revert h1; decide) | (exfalso; revert h2; decide) | (exfalso; revert h1 h2; decide)
    subst hw_19
    refine lv_if_eq (tgt := 13) hx hb dX12_columnsOf_6 (by decide) (fun _ => ?_) (fun c_20 => absurd c_20 (by decide))
    refine lv_iload_n hx hb dX12_columnsOf_13 rfl (lv_at hl 0 rfl) ?_
    refine lv_iconst (v := 4) hx hb dX12_columnsOf_14 (by decide) ?_
    refine lv_icmp_le (tgt := 22) hx hb dX12_columnsOf_15 (by decide) (fun c_21 => absurd c_21 (by decide)) (fun _ => ?_)
    refine lv_iconst (v := (-1)) hx hb dX12_columnsOf_18 (by decide) ?_
    refine lv_goto (tgt := 23) hx hb dX12_columnsOf_19 (by decide) ?_
    rw [hQ]
    exact W.iret (v := (-1)) hx hb hr (fun tQ htQ hWQ => ⟨(-1), rfl, rfl, by rw [htQ]⟩) (fun q hq => absurd hq List.not_mem_nil) dX12_columnsOf_23
  · skip
    refine lv_iload_n hx hb dX12_columnsOf_0 rfl (lv_at hl 0 rfl) ?_
    refine lv_iconst (v := 1) hx hb dX12_columnsOf_1 (by decide) ?_
    refine lv_iconst (v := 3) hx hb dX12_columnsOf_2 (by decide) ?_
    refine vp_callSi (va_runS (As := [.int 6, .int 1, .int 3]) (rest := []) ⟨hx, hb, hml, hown, hts⟩ (c_in l dC dI 6 1 3) (va_cwS 3 hts gX12_columnsOf_X12_in rfl rfl rfl (by decide +kernel) ⟨Nat.le_of_ble_eq_true rfl, Nat.le_of_ble_eq_true rfl⟩) ⟨fun a U g mk q => ⟨q.1, trivial⟩, fun U hU hW => ⟨rfl, trivial⟩⟩ rfl rfl hl.1 rfl (lv_room (Nat.le_of_ble_eq_true rfl)) dX12_columnsOf_3 ⟨Nat.le_of_ble_eq_true rfl, Nat.le_of_ble_eq_true rfl⟩).run (fun r_22 hw_23 => ?_)
    have hw_23 : r_22 = 0 := by rcases hw_23 with ⟨h, h1, h2⟩ | ⟨h, h1⟩ <;> first | exact h | (exfalso; revert h1; decide) | (exfalso; revert h2; decide) | (exfalso; revert h1 h2; decide)
    subst hw_23
    refine lv_if_eq (tgt := 13) hx hb dX12_columnsOf_6 (by decide) (fun _ => ?_) (fun c_24 => absurd c_24 (by decide))
    refine lv_iload_n hx hb dX12_columnsOf_13 rfl (lv_at hl 0 rfl) ?_
    refine lv_iconst (v := 4) hx hb dX12_columnsOf_14 (by decide) ?_
    refine lv_icmp_le (tgt := 22) hx hb dX12_columnsOf_15 (by decide) (fun c_25 => absurd c_25 (by decide)) (fun _ => ?_)
    refine lv_iconst (v := (-1)) hx hb dX12_columnsOf_18 (by decide) ?_
    refine lv_goto (tgt := 23) hx hb dX12_columnsOf_19 (by decide) ?_
    rw [hQ]
    exact W.iret (v := (-1)) hx hb hr (fun tQ htQ hWQ => ⟨(-1), rfl, rfl, by rw [htQ]⟩) (fun q hq => absurd hq List.not_mem_nil) dX12_columnsOf_23
  · skip
    refine lv_iload_n hx hb dX12_columnsOf_0 rfl (lv_at hl 0 rfl) ?_
    refine lv_iconst (v := 1) hx hb dX12_columnsOf_1 (by decide) ?_
    refine lv_iconst (v := 3) hx hb dX12_columnsOf_2 (by decide) ?_
    refine vp_callSi (va_runS (As := [.int 7, .int 1, .int 3]) (rest := []) ⟨hx, hb, hml, hown, hts⟩ (c_in l dC dI 7 1 3) (va_cwS 3 hts gX12_columnsOf_X12_in rfl rfl rfl (by decide +kernel) ⟨Nat.le_of_ble_eq_true rfl, Nat.le_of_ble_eq_true rfl⟩) ⟨fun a U g mk q => ⟨q.1, trivial⟩, fun U hU hW => ⟨rfl, trivial⟩⟩ rfl rfl hl.1 rfl (lv_room (Nat.le_of_ble_eq_true rfl)) dX12_columnsOf_3 ⟨Nat.le_of_ble_eq_true rfl, Nat.le_of_ble_eq_true rfl⟩).run (fun r_26 hw_27 => ?_)
    have hw_27 : r_26 = 0 := by rcases hw_27 with ⟨h, h1, h2⟩ | ⟨h, h1⟩ <;> first | exact h | (exfalso; revert h1; decide) | (exfalso; revert h2; decide) | (exfalso; revert h1 h2; decide)
    subst hw_27
    refine lv_if_eq (tgt := 13) hx hb dX12_columnsOf_6 (by decide) (fun _ => ?_) (fun c_28 => absurd c_28 (by decide))
    refine lv_iload_n hx hb dX12_columnsOf_13 rfl (lv_at hl 0 rfl) ?_
    refine lv_iconst (v := 4) hx hb dX12_columnsOf_14 (by decide) ?_
    refine lv_icmp_le (tgt := 22) hx hb dX12_columnsOf_15 (by decide) (fun c_29 => absurd c_29 (by decide)) (fun _ => ?_)
    refine lv_iconst (v := (-1)) hx hb dX12_columnsOf_18 (by decide) ?_
    refine lv_goto (tgt := 23) hx hb dX12_columnsOf_19 (by decide) ?_
    rw [hQ]
    exact W.iret (v := (-1)) hx hb hr (fun tQ htQ hWQ => ⟨(-1), rfl, rfl, by rw [htQ]⟩) (fun q hq => absurd hq List.not_mem_nil) dX12_columnsOf_23

set_option maxHeartbeats 4000000 in
set_option maxRecDepth 100000 in
theorem c_nextTo (l : Launch) (dC : Nat → ClassId) (dI : Nat → Nat → Nat) (j w : Nat) (zj : j < 36) (zw : w < 8) : Met l yX12_nextTo wsX12_nextTo ({ frames := 2, cells := 0, slots := 0, locals := 42 } : Room) (va_Pc [.int (nI j), .int (nI w)] (fun U => True)) (vp_Si (fun r => r = nI (nb j w))) 0 0 (fun _ => False) := by
  refine met_ofQ (cc := cX12_nextTo) (maxL := 4) (ret := (some .int)) (by decide) rfl ?_
  intro p e s m args below meth c s₁ Q B hml hv hQ
  obtain ⟨rfl, -⟩ := hv
  have hx := B.exec
  have hb := B.bytes
  have hr := B.returns
  have hts := atoms_spec (ws := wsX12_nextTo) B.pre
  have hown : s.vm.findClass RX12 = some m.cls := findClass_of_methodNamed B.named
  have hlocks := B.notSynchronized
  obtain ⟨A, hAe⟩ : ∃ A : Nat → Prop, A = fun _ => False := ⟨_, rfl⟩
  rw [← hAe] at hQ
  have hS : va_S A s.heap s.heap [] := va_S.rf
  have hl := lv_entry [.int (nI j), .int (nI w)] (n := 4) (Nat.le_of_ble_eq_true rfl)
  rw [lg_entry_eq]
  generalize (lg_sl [.int (nI j), .int (nI w)] ++ List.replicate (4 - (lg_sl [.int (nI j), .int (nI w)]).length) Slot.unset).toArray = ls at hl ⊢
  generalize hag : ([.int (nI j), .int (nI w)] : List Value).toArray = args at hts hQ ⊢
  have hl : lv_has ls 4 [(0, .int (nI j)), (1, .int (nI w))] := hl
  refine lv_iload_n hx hb dX12_nextTo_0 rfl (lv_at hl 0 rfl) ?_
  refine lv_bipush (v := 6) hx hb dX12_nextTo_1 (by decide) ?_
  refine lv_idiv hx hb dX12_nextTo_3 (by decide) ?_
  refine qi_as (y := nI (j / 6)) (pk_div (a := j) (d := 6) (by omega) (by omega) (by omega)) ?_
  refine lv_iload_n hx hb dX12_nextTo_4 rfl (lv_at hl 1 rfl) ?_
  refine vp_callSi (va_runS (As := [.int (nI w)]) (rest := [.int (nI (j / 6))]) ⟨hx, hb, hml, hown, hts⟩ (c_rowsOf l dC dI w zw) (va_cwS 1 hts gX12_nextTo_X12_rowsOf rfl rfl rfl (by decide +kernel) ⟨Nat.le_of_ble_eq_true rfl, Nat.le_of_ble_eq_true rfl⟩) ⟨fun a U g mk q => ⟨q.1, trivial⟩, fun U hU hW => ⟨rfl, trivial⟩⟩ rfl rfl hl.1 rfl (lv_room (Nat.le_of_ble_eq_true rfl)) dX12_nextTo_5 ⟨Nat.le_of_ble_eq_true rfl, Nat.le_of_ble_eq_true rfl⟩).run (fun r_1 hw_2 => ?_)
  refine qi_as (y := fDown w) (hw_2) ?_
  refine lv_iadd hx hb dX12_nextTo_8 ?_
  refine lv_istore_n (lv' := [(2, .int ((nI (j / 6)) + (fDown w))), (0, .int (nI j)), (1, .int (nI w))]) hx hb dX12_nextTo_9 rfl hl (by decide) rfl (fun ls hl => ?_)
  refine lv_iload_n hx hb dX12_nextTo_10 rfl (lv_at hl 1 rfl) ?_
  refine lv_bipush (v := 6) hx hb dX12_nextTo_11 (by decide) ?_
  refine lv_irem hx hb dX12_nextTo_13 (by decide) ?_
  refine qi_as (y := nI (j % 6)) (pk_rem (a := j) (d := 6) (by omega) (by omega) (by omega)) ?_
  refine lv_iload_n hx hb dX12_nextTo_14 rfl (lv_at hl 2 rfl) ?_
  refine vp_callSi (va_runS (As := [.int (nI w)]) (rest := [.int (nI (j % 6))]) ⟨hx, hb, hml, hown, hts⟩ (c_columnsOf l dC dI w zw) (va_cwS 1 hts gX12_nextTo_X12_columnsOf rfl rfl rfl (by decide +kernel) ⟨Nat.le_of_ble_eq_true rfl, Nat.le_of_ble_eq_true rfl⟩) ⟨fun a U g mk q => ⟨q.1, trivial⟩, fun U hU hW => ⟨rfl, trivial⟩⟩ rfl rfl hl.1 rfl (lv_room (Nat.le_of_ble_eq_true rfl)) dX12_nextTo_15 ⟨Nat.le_of_ble_eq_true rfl, Nat.le_of_ble_eq_true rfl⟩).run (fun r_3 hw_4 => ?_)
  refine qi_as (y := fRight w) (hw_4) ?_
  refine lv_iadd hx hb dX12_nextTo_18 ?_
  refine lv_istore_n (lv' := [(3, .int ((nI (j % 6)) + (fRight w))), (2, .int ((nI (j / 6)) + (fDown w))), (0, .int (nI j)), (1, .int (nI w))]) hx hb dX12_nextTo_19 rfl hl (by decide) rfl (fun ls hl => ?_)
  refine lv_iload_n hx hb dX12_nextTo_20 rfl (lv_at hl 1 rfl) ?_
  refine lv_iconst (v := 0) hx hb dX12_nextTo_21 (by decide) ?_
  refine lv_iconst (v := 5) hx hb dX12_nextTo_22 (by decide) ?_
  refine vp_callSi (va_runS (As := [.int ((nI (j / 6)) + (fDown w)), .int 0, .int 5]) (rest := []) ⟨hx, hb, hml, hown, hts⟩ (c_in l dC dI (nI (j / 6) + fDown w) 0 5) (va_cwS 3 hts gX12_nextTo_X12_in rfl rfl rfl (by decide +kernel) ⟨Nat.le_of_ble_eq_true rfl, Nat.le_of_ble_eq_true rfl⟩) ⟨fun a U g mk q => ⟨q.1, trivial⟩, fun U hU hW => ⟨rfl, trivial⟩⟩ rfl rfl hl.1 rfl (lv_room (Nat.le_of_ble_eq_true rfl)) dX12_nextTo_23 ⟨Nat.le_of_ble_eq_true rfl, Nat.le_of_ble_eq_true rfl⟩).run (fun r_5 hw_6 => ?_)
  rcases hw_6 with ⟨rfl, h_7, h_8⟩ | ⟨rfl, h_9⟩
  · skip
    refine lv_if_eq (tgt := 47) hx hb dX12_nextTo_26 (by decide) (fun c_10 => absurd c_10 (by decide)) (fun _ => ?_)
    refine lv_iload_n hx hb dX12_nextTo_29 rfl (lv_at hl 0 rfl) ?_
    refine lv_iconst (v := 0) hx hb dX12_nextTo_30 (by decide) ?_
    refine lv_iconst (v := 5) hx hb dX12_nextTo_31 (by decide) ?_
    refine vp_callSi (va_runS (As := [.int ((nI (j % 6)) + (fRight w)), .int 0, .int 5]) (rest := []) ⟨hx, hb, hml, hown, hts⟩ (c_in l dC dI (nI (j % 6) + fRight w) 0 5) (va_cwS 3 hts gX12_nextTo_X12_in rfl rfl rfl (by decide +kernel) ⟨Nat.le_of_ble_eq_true rfl, Nat.le_of_ble_eq_true rfl⟩) ⟨fun a U g mk q => ⟨q.1, trivial⟩, fun U hU hW => ⟨rfl, trivial⟩⟩ rfl rfl hl.1 rfl (lv_room (Nat.le_of_ble_eq_true rfl)) dX12_nextTo_32 ⟨Nat.le_of_ble_eq_true rfl, Nat.le_of_ble_eq_true rfl⟩).run (fun r_11 hw_12 => ?_)
    rcases hw_12 with ⟨rfl, h_13, h_14⟩ | ⟨rfl, h_15⟩
    · skip
      refine lv_if_eq (tgt := 47) hx hb dX12_nextTo_35 (by decide) (fun c_16 => absurd c_16 (by decide)) (fun _ => ?_)
      refine lv_bipush (v := 6) hx hb dX12_nextTo_38 (by decide) ?_
      refine lv_iload_n hx hb dX12_nextTo_40 rfl (lv_at hl 1 rfl) ?_
      refine lv_imul hx hb dX12_nextTo_41 ?_
      refine lv_iload_n hx hb dX12_nextTo_42 rfl (lv_at hl 0 rfl) ?_
      refine lv_iadd hx hb dX12_nextTo_43 ?_
      refine lv_goto (tgt := 48) hx hb dX12_nextTo_44 (by decide) ?_
      rw [hQ]
      exact W.iret (v := (6 * ((nI (j / 6)) + (fDown w))) + ((nI (j % 6)) + (fRight w))) hx hb hr (fun tQ htQ hWQ => ⟨(6 * ((nI (j / 6)) + (fDown w))) + ((nI (j % 6)) + (fRight w)), rfl, by first | exact (nb_in' j zj w zw ⟨by assumption, by assumption, by assumption, by assumption⟩).1 | rw [nb_out' j zj w zw (by first | exact or_assoc.mp (Or.inl (by assumption)) | exact or_assoc.mp (Or.inr (by assumption)))], by rw [htQ]⟩) (fun q hq => absurd hq List.not_mem_nil) dX12_nextTo_48
    · skip
      refine lv_if_eq (tgt := 47) hx hb dX12_nextTo_35 (by decide) (fun _ => ?_) (fun c_17 => absurd c_17 (by decide))
      refine lv_iload_n hx hb dX12_nextTo_47 rfl (lv_at hl 2 rfl) ?_
      rw [hQ]
      exact W.iret (v := nI j) hx hb hr (fun tQ htQ hWQ => ⟨nI j, rfl, by first | exact (nb_in' j zj w zw ⟨by assumption, by assumption, by assumption, by assumption⟩).1 | rw [nb_out' j zj w zw (by first | exact or_assoc.mp (Or.inl (by assumption)) | exact or_assoc.mp (Or.inr (by assumption)))], by rw [htQ]⟩) (fun q hq => absurd hq List.not_mem_nil) dX12_nextTo_48
  · skip
    refine lv_if_eq (tgt := 47) hx hb dX12_nextTo_26 (by decide) (fun _ => ?_) (fun c_18 => absurd c_18 (by decide))
    refine lv_iload_n hx hb dX12_nextTo_47 rfl (lv_at hl 2 rfl) ?_
    rw [hQ]
    exact W.iret (v := nI j) hx hb hr (fun tQ htQ hWQ => ⟨nI j, rfl, by first | exact (nb_in' j zj w zw ⟨by assumption, by assumption, by assumption, by assumption⟩).1 | rw [nb_out' j zj w zw (by first | exact or_assoc.mp (Or.inl (by assumption)) | exact or_assoc.mp (Or.inr (by assumption)))], by rw [htQ]⟩) (fun q hq => absurd hq List.not_mem_nil) dX12_nextTo_48

theorem kc_looks0_0 : ∀ w ∈ wsX120, w ∈ wsX12_looks := by decide +kernel
theorem kc_looks0_1 : (.fieldLink RX12 18 "MistHeapsModel" "by" "[I" : Cond) ∈ wsX12_looks := by decide +kernel
theorem kc_looks0_2 : (.fieldLink RX12 9 "MistHeapsModel" "s" "[I" : Cond) ∈ wsX12_looks := by decide +kernel
theorem kc_looks0_3 : (.fieldLink RX12 143 "MistHeapsModel" "seeing" "I" : Cond) ∈ wsX12_looks := by decide +kernel
theorem kc_looks0_4 : (.fieldLink RX12 146 "MistHeapsModel" "drifting" "I" : Cond) ∈ wsX12_looks := by decide +kernel
set_option maxHeartbeats 4000000 in
set_option maxRecDepth 100000 in
theorem c_looks0 (l : Launch) (dC : Nat → ClassId) (dI : Nat → Nat → Nat) (m0 aS aI aB aT aG aO aN aD aY : Nat) (bv : Int64) (cS cB : ClassId) (fB : Nat → Int32) (x y z : Int32) (sz : Nat) : Met l yX12_looks wsX12_looks ({ frames := 0, cells := 0, slots := 0, locals := 0 } : Room) (va_Pc [.ref m0, .int x, .int y, .int z] (fun U => U.heap.size = sz ∧ va_P (dC, dI) vwCl [(m0, .inr (14, [.int 0, .ref aS, .ref aI, .int 0, .int 0, .int 0, .int 0, .int 0, .int 0, .ref aB, .ref aT, .int 0, .int 0, .ref aG, .ref aO, .ref aN, .ref aD, .long bv, .ref aY, .int 0, .int 0, .int 0, .int 0])), (aS, .inl (cS, 901, .inl s0)), (aB, .inl (cB, 6, .inl fB))] U.heap ∧ va_K (dC, dI) vwCl [(cS, .int), (cB, .int)] U ∧ va_D (fun _ => True) [(m0, .inr (14, [.int 0, .ref aS, .ref aI, .int 0, .int 0, .int 0, .int 0, .int 0, .int 0, .ref aB, .ref aT, .int 0, .int 0, .ref aG, .ref aO, .ref aN, .ref aD, .long bv, .ref aY, .int 0, .int 0, .int 0, .int 0])), (aS, .inl (cS, 901, .inl s0)), (aB, .inl (cB, 6, .inl fB))])) (va_Qv (fun (u : Nat → Int32) => match u with | fB2 => True) (fun (u : Nat → Int32) (t : State) => match u with | fB2 => va_P (dC, dI) vwCl [(m0, .inr (14, [.int 0, .ref aS, .ref aI, .int 0, .int 0, .int 0, .int 0, .int 0, .int 0, .ref aB, .ref aT, .int 0, .int 0, .ref aG, .ref aO, .ref aN, .ref aD, .long bv, .ref aY, .int 0, .int 0, .int 0, .int 0])), (aS, .inl (cS, 901, .inl s0)), (aB, .inl (cB, 6, .inl fB2))] t.heap ∧ va_K (dC, dI) vwCl [(cS, .int), (cB, .int)] t ∧ va_D (va_A [(m0, .inr (14, [.int 0, .ref aS, .ref aI, .int 0, .int 0, .int 0, .int 0, .int 0, .int 0, .ref aB, .ref aT, .int 0, .int 0, .ref aG, .ref aO, .ref aN, .ref aD, .long bv, .ref aY, .int 0, .int 0, .int 0, .int 0])), (aS, .inl (cS, 901, .inl s0)), (aB, .inl (cB, 6, .inl fB))] sz) [(m0, .inr (14, [.int 0, .ref aS, .ref aI, .int 0, .int 0, .int 0, .int 0, .int 0, .int 0, .ref aB, .ref aT, .int 0, .int 0, .ref aG, .ref aO, .ref aN, .ref aD, .long bv, .ref aY, .int 0, .int 0, .int 0, .int 0])), (aS, .inl (cS, 901, .inl s0)), (aB, .inl (cB, 6, .inl fB2))]) (va_A [(m0, .inr (14, [.int 0, .ref aS, .ref aI, .int 0, .int 0, .int 0, .int 0, .int 0, .int 0, .ref aB, .ref aT, .int 0, .int 0, .ref aG, .ref aO, .ref aN, .ref aD, .long bv, .ref aY, .int 0, .int 0, .int 0, .int 0])), (aS, .inl (cS, 901, .inl s0)), (aB, .inl (cB, 6, .inl fB))] sz)) 0 0 (va_A [(m0, .inr (14, [.int 0, .ref aS, .ref aI, .int 0, .int 0, .int 0, .int 0, .int 0, .int 0, .ref aB, .ref aT, .int 0, .int 0, .ref aG, .ref aO, .ref aN, .ref aD, .long bv, .ref aY, .int 0, .int 0, .int 0, .int 0])), (aS, .inl (cS, 901, .inl s0)), (aB, .inl (cB, 6, .inl fB))] sz) := by
  refine met_ofQ (cc := cX12_looks) (maxL := 12) (ret := none) (by decide) rfl ?_
  intro p e s m args below meth c s₁ Q B hml hv hQ
  obtain ⟨rfl, hsz, hP, hK, hD0⟩ := hv
  have hx := B.exec
  have hb := B.bytes
  have hr := B.returns
  have hts := atoms_spec (ws := wsX12_looks) B.pre
  have hown : s.vm.findClass RX12 = some m.cls := findClass_of_methodNamed B.named
  have hlocks := B.notSynchronized
  subst hsz
  have hD := hD0.self (sz := s.heap.size)
  generalize hAe : va_A [(m0, .inr (14, [.int 0, .ref aS, .ref aI, .int 0, .int 0, .int 0, .int 0, .int 0, .int 0, .ref aB, .ref aT, .int 0, .int 0, .ref aG, .ref aO, .ref aN, .ref aD, .long bv, .ref aY, .int 0, .int 0, .int 0, .int 0])), (aS, .inl (cS, 901, .inl s0)), (aB, .inl (cB, 6, .inl fB))] s.heap.size = A at hD hQ ⊢
  have hA : ∀ q : Nat, s.heap.size ≤ q → A q := fun q h => by rw [← hAe]; exact Or.inr h
  have hS : va_S A s.heap s.heap [] := va_S.rf
  have hl := lv_entry [.ref m0, .int x, .int y, .int z] (n := 12) (Nat.le_of_ble_eq_true rfl)
  rw [lg_entry_eq]
  generalize (lg_sl [.ref m0, .int x, .int y, .int z] ++ List.replicate (12 - (lg_sl [.ref m0, .int x, .int y, .int z]).length) Slot.unset).toArray = ls at hl ⊢
  generalize hag : ([.ref m0, .int x, .int y, .int z] : List Value).toArray = args at hts hQ ⊢
  have hl : lv_has ls 12 [(0, .ref m0), (1, .int x), (2, .int y), (3, .int z)] := hl
  obtain ⟨H, hH⟩ : ∃ H : Heap, H = s.heap := ⟨_, rfl⟩
  rw [← hH] at hP
  rw [← hH]
  have hS : va_S A s.heap H [] := by rw [hH]; exact hS
  obtain ⟨locs, hlo⟩ : ∃ L : List Loc, L = [] := ⟨_, rfl⟩
  rw [← hlo] at hS
  rw [← hlo]
  clear hH hlo
  refine lv_aload_n hx hb dX12_looks_0 rfl (lv_at hl 0 rfl) ?_
  refine va_get (D := (dC, dI)) (ci := 14) (v := .ref aB) (C := RX12) (T := TX12) (N := 23) hx hb hts kc_looks0_0 hown hK hP 0 rfl rfl 9 (by decide) (hts (.fieldLink RX12 18 "MistHeapsModel" "by" "[I") kc_looks0_1) (fun _ h9 => h9) rfl dX12_looks_1 ?_
  refine lv_iconst (v := 0) hx hb dX12_looks_4 (by decide) ?_
  refine lv_iload_n hx hb dX12_looks_5 rfl (lv_at hl 1 rfl) ?_
  refine va_iast hx hb hK hP hD hS 2 1 rfl rfl (vp_in_nI (n := 0) (N := 6) (by omega) (by omega)) dX12_looks_6 (fun H locs hP hD hS => ?_)
  have hP : va_P (dC, dI) vwCl [(m0, .inr (14, [.int 0, .ref aS, .ref aI, .int 0, .int 0, .int 0, .int 0, .int 0, .int 0, .ref aB, .ref aT, .int 0, .int 0, .ref aG, .ref aO, .ref aN, .ref aD, .long bv, .ref aY, .int 0, .int 0, .int 0, .int 0])), (aS, .inl (cS, 901, .inl s0)), (aB, .inl (cB, 6, .inl (upd fB 0 x)))] H := hP
  have hD : va_D A [(m0, .inr (14, [.int 0, .ref aS, .ref aI, .int 0, .int 0, .int 0, .int 0, .int 0, .int 0, .ref aB, .ref aT, .int 0, .int 0, .ref aG, .ref aO, .ref aN, .ref aD, .long bv, .ref aY, .int 0, .int 0, .int 0, .int 0])), (aS, .inl (cS, 901, .inl s0)), (aB, .inl (cB, 6, .inl (upd fB 0 x)))] := hD
  refine lv_aload_n hx hb dX12_looks_7 rfl (lv_at hl 0 rfl) ?_
  refine va_get (D := (dC, dI)) (ci := 14) (v := .ref aB) (C := RX12) (T := TX12) (N := 23) hx hb hts kc_looks0_0 hown hK hP 0 rfl rfl 9 (by decide) (hts (.fieldLink RX12 18 "MistHeapsModel" "by" "[I") kc_looks0_1) (fun _ h9 => h9) rfl dX12_looks_8 ?_
  refine lv_iconst (v := 1) hx hb dX12_looks_11 (by decide) ?_
  refine lv_iload_n hx hb dX12_looks_12 rfl (lv_at hl 2 rfl) ?_
  refine va_iast hx hb hK hP hD hS 2 1 rfl rfl (vp_in_nI (n := 1) (N := 6) (by omega) (by omega)) dX12_looks_13 (fun H locs hP hD hS => ?_)
  have hP : va_P (dC, dI) vwCl [(m0, .inr (14, [.int 0, .ref aS, .ref aI, .int 0, .int 0, .int 0, .int 0, .int 0, .int 0, .ref aB, .ref aT, .int 0, .int 0, .ref aG, .ref aO, .ref aN, .ref aD, .long bv, .ref aY, .int 0, .int 0, .int 0, .int 0])), (aS, .inl (cS, 901, .inl s0)), (aB, .inl (cB, 6, .inl (upd (upd fB 0 x) 1 y)))] H := hP
  have hD : va_D A [(m0, .inr (14, [.int 0, .ref aS, .ref aI, .int 0, .int 0, .int 0, .int 0, .int 0, .int 0, .ref aB, .ref aT, .int 0, .int 0, .ref aG, .ref aO, .ref aN, .ref aD, .long bv, .ref aY, .int 0, .int 0, .int 0, .int 0])), (aS, .inl (cS, 901, .inl s0)), (aB, .inl (cB, 6, .inl (upd (upd fB 0 x) 1 y)))] := hD
  refine lv_aload_n hx hb dX12_looks_14 rfl (lv_at hl 0 rfl) ?_
  refine va_get (D := (dC, dI)) (ci := 14) (v := .ref aB) (C := RX12) (T := TX12) (N := 23) hx hb hts kc_looks0_0 hown hK hP 0 rfl rfl 9 (by decide) (hts (.fieldLink RX12 18 "MistHeapsModel" "by" "[I") kc_looks0_1) (fun _ h9 => h9) rfl dX12_looks_15 ?_
  refine lv_iconst (v := 2) hx hb dX12_looks_18 (by decide) ?_
  refine lv_iload_n hx hb dX12_looks_19 rfl (lv_at hl 3 rfl) ?_
  refine lv_bipush (v := 6) hx hb dX12_looks_20 (by decide) ?_
  refine lv_idiv hx hb dX12_looks_22 (by decide) ?_
  refine va_iast hx hb hK hP hD hS 2 1 rfl rfl (vp_in_nI (n := 2) (N := 6) (by omega) (by omega)) dX12_looks_23 (fun H locs hP hD hS => ?_)
  have hP : va_P (dC, dI) vwCl [(m0, .inr (14, [.int 0, .ref aS, .ref aI, .int 0, .int 0, .int 0, .int 0, .int 0, .int 0, .ref aB, .ref aT, .int 0, .int 0, .ref aG, .ref aO, .ref aN, .ref aD, .long bv, .ref aY, .int 0, .int 0, .int 0, .int 0])), (aS, .inl (cS, 901, .inl s0)), (aB, .inl (cB, 6, .inl (upd (upd (upd fB 0 x) 1 y) 2 (z / 6))))] H := hP
  have hD : va_D A [(m0, .inr (14, [.int 0, .ref aS, .ref aI, .int 0, .int 0, .int 0, .int 0, .int 0, .int 0, .ref aB, .ref aT, .int 0, .int 0, .ref aG, .ref aO, .ref aN, .ref aD, .long bv, .ref aY, .int 0, .int 0, .int 0, .int 0])), (aS, .inl (cS, 901, .inl s0)), (aB, .inl (cB, 6, .inl (upd (upd (upd fB 0 x) 1 y) 2 (z / 6))))] := hD
  refine lv_aload_n hx hb dX12_looks_24 rfl (lv_at hl 0 rfl) ?_
  refine va_get (D := (dC, dI)) (ci := 14) (v := .ref aB) (C := RX12) (T := TX12) (N := 23) hx hb hts kc_looks0_0 hown hK hP 0 rfl rfl 9 (by decide) (hts (.fieldLink RX12 18 "MistHeapsModel" "by" "[I") kc_looks0_1) (fun _ h9 => h9) rfl dX12_looks_25 ?_
  refine lv_iconst (v := 3) hx hb dX12_looks_28 (by decide) ?_
  refine lv_iload_n hx hb dX12_looks_29 rfl (lv_at hl 3 rfl) ?_
  refine lv_bipush (v := 6) hx hb dX12_looks_30 (by decide) ?_
  refine lv_irem hx hb dX12_looks_32 (by decide) ?_
  refine va_iast hx hb hK hP hD hS 2 1 rfl rfl (vp_in_nI (n := 3) (N := 6) (by omega) (by omega)) dX12_looks_33 (fun H locs hP hD hS => ?_)
  have hP : va_P (dC, dI) vwCl [(m0, .inr (14, [.int 0, .ref aS, .ref aI, .int 0, .int 0, .int 0, .int 0, .int 0, .int 0, .ref aB, .ref aT, .int 0, .int 0, .ref aG, .ref aO, .ref aN, .ref aD, .long bv, .ref aY, .int 0, .int 0, .int 0, .int 0])), (aS, .inl (cS, 901, .inl s0)), (aB, .inl (cB, 6, .inl (upd (upd (upd (upd fB 0 x) 1 y) 2 (z / 6)) 3 (z - z / 6 * 6))))] H := hP
  have hD : va_D A [(m0, .inr (14, [.int 0, .ref aS, .ref aI, .int 0, .int 0, .int 0, .int 0, .int 0, .int 0, .ref aB, .ref aT, .int 0, .int 0, .ref aG, .ref aO, .ref aN, .ref aD, .long bv, .ref aY, .int 0, .int 0, .int 0, .int 0])), (aS, .inl (cS, 901, .inl s0)), (aB, .inl (cB, 6, .inl (upd (upd (upd (upd fB 0 x) 1 y) 2 (z / 6)) 3 (z - z / 6 * 6))))] := hD
  refine lv_aload_n hx hb dX12_looks_34 rfl (lv_at hl 0 rfl) ?_
  refine va_get (D := (dC, dI)) (ci := 14) (v := .ref aB) (C := RX12) (T := TX12) (N := 23) hx hb hts kc_looks0_0 hown hK hP 0 rfl rfl 9 (by decide) (hts (.fieldLink RX12 18 "MistHeapsModel" "by" "[I") kc_looks0_1) (fun _ h9 => h9) rfl dX12_looks_35 ?_
  refine lv_iconst (v := 4) hx hb dX12_looks_38 (by decide) ?_
  refine lv_aload_n hx hb dX12_looks_39 rfl (lv_at hl 0 rfl) ?_
  refine va_get (D := (dC, dI)) (ci := 14) (v := .ref aS) (C := RX12) (T := TX12) (N := 23) hx hb hts kc_looks0_0 hown hK hP 0 rfl rfl 1 (by decide) (hts (.fieldLink RX12 9 "MistHeapsModel" "s" "[I") kc_looks0_2) (fun _ h9 => h9) rfl dX12_looks_40 ?_
  refine lv_bipush (v := 6) hx hb dX12_looks_43 (by decide) ?_
  refine va_iald hx hb hK hP 1 0 rfl rfl (vp_in_nI (n := 6) (N := 901) (by omega) (by omega)) dX12_looks_45 ?_
  refine qi_as (y := 0) (rfl) ?_
  refine va_iast hx hb hK hP hD hS 2 1 rfl rfl (vp_in_nI (n := 4) (N := 6) (by omega) (by omega)) dX12_looks_46 (fun H locs hP hD hS => ?_)
  have hP : va_P (dC, dI) vwCl [(m0, .inr (14, [.int 0, .ref aS, .ref aI, .int 0, .int 0, .int 0, .int 0, .int 0, .int 0, .ref aB, .ref aT, .int 0, .int 0, .ref aG, .ref aO, .ref aN, .ref aD, .long bv, .ref aY, .int 0, .int 0, .int 0, .int 0])), (aS, .inl (cS, 901, .inl s0)), (aB, .inl (cB, 6, .inl (upd (upd (upd (upd (upd fB 0 x) 1 y) 2 (z / 6)) 3 (z - z / 6 * 6)) 4 0)))] H := hP
  have hD : va_D A [(m0, .inr (14, [.int 0, .ref aS, .ref aI, .int 0, .int 0, .int 0, .int 0, .int 0, .int 0, .ref aB, .ref aT, .int 0, .int 0, .ref aG, .ref aO, .ref aN, .ref aD, .long bv, .ref aY, .int 0, .int 0, .int 0, .int 0])), (aS, .inl (cS, 901, .inl s0)), (aB, .inl (cB, 6, .inl (upd (upd (upd (upd (upd fB 0 x) 1 y) 2 (z / 6)) 3 (z - z / 6 * 6)) 4 0)))] := hD
  refine lv_aload_n hx hb dX12_looks_47 rfl (lv_at hl 0 rfl) ?_
  refine va_get (D := (dC, dI)) (ci := 14) (v := .ref aB) (C := RX12) (T := TX12) (N := 23) hx hb hts kc_looks0_0 hown hK hP 0 rfl rfl 9 (by decide) (hts (.fieldLink RX12 18 "MistHeapsModel" "by" "[I") kc_looks0_1) (fun _ h9 => h9) rfl dX12_looks_48 ?_
  refine lv_iconst (v := 5) hx hb dX12_looks_51 (by decide) ?_
  refine lv_aload_n hx hb dX12_looks_52 rfl (lv_at hl 0 rfl) ?_
  refine va_get (D := (dC, dI)) (ci := 14) (v := .ref aS) (C := RX12) (T := TX12) (N := 23) hx hb hts kc_looks0_0 hown hK hP 0 rfl rfl 1 (by decide) (hts (.fieldLink RX12 9 "MistHeapsModel" "s" "[I") kc_looks0_2) (fun _ h9 => h9) rfl dX12_looks_53 ?_
  refine lv_bipush (v := 7) hx hb dX12_looks_56 (by decide) ?_
  refine va_iald hx hb hK hP 1 0 rfl rfl (vp_in_nI (n := 7) (N := 901) (by omega) (by omega)) dX12_looks_58 ?_
  refine qi_as (y := 0) (rfl) ?_
  refine va_iast hx hb hK hP hD hS 2 1 rfl rfl (vp_in_nI (n := 5) (N := 6) (by omega) (by omega)) dX12_looks_59 (fun H locs hP hD hS => ?_)
  have hP : va_P (dC, dI) vwCl [(m0, .inr (14, [.int 0, .ref aS, .ref aI, .int 0, .int 0, .int 0, .int 0, .int 0, .int 0, .ref aB, .ref aT, .int 0, .int 0, .ref aG, .ref aO, .ref aN, .ref aD, .long bv, .ref aY, .int 0, .int 0, .int 0, .int 0])), (aS, .inl (cS, 901, .inl s0)), (aB, .inl (cB, 6, .inl (upd (upd (upd (upd (upd (upd fB 0 x) 1 y) 2 (z / 6)) 3 (z - z / 6 * 6)) 4 0) 5 0)))] H := hP
  have hD : va_D A [(m0, .inr (14, [.int 0, .ref aS, .ref aI, .int 0, .int 0, .int 0, .int 0, .int 0, .int 0, .ref aB, .ref aT, .int 0, .int 0, .ref aG, .ref aO, .ref aN, .ref aD, .long bv, .ref aY, .int 0, .int 0, .int 0, .int 0])), (aS, .inl (cS, 901, .inl s0)), (aB, .inl (cB, 6, .inl (upd (upd (upd (upd (upd (upd fB 0 x) 1 y) 2 (z / 6)) 3 (z - z / 6 * 6)) 4 0) 5 0)))] := hD
  refine lv_aload_n hx hb dX12_looks_60 rfl (lv_at hl 0 rfl) ?_
  refine lv_iconst (v := 0) hx hb dX12_looks_61 (by decide) ?_
  refine va_put (D := (dC, dI)) (ci := 14) (v := .int 0) (ty := .int) (C := RX12) (T := TX12) (N := 23) hx hb hts kc_looks0_0 tyX12 tyX12_ok nmX12 hown hK hP hD hS 0 rfl rfl 11 (by decide) (hts (.fieldLink RX12 143 "MistHeapsModel" "seeing" "I") kc_looks0_3) (fun _ h9 => h9) rfl (by decide +kernel) rfl rfl (Nat.le_of_ble_eq_true rfl) dX12_looks_62 (fun H locs hP hD hS => ?_)
  have hP : va_P (dC, dI) vwCl [(m0, .inr (14, [.int 0, .ref aS, .ref aI, .int 0, .int 0, .int 0, .int 0, .int 0, .int 0, .ref aB, .ref aT, .int 0, .int 0, .ref aG, .ref aO, .ref aN, .ref aD, .long bv, .ref aY, .int 0, .int 0, .int 0, .int 0])), (aS, .inl (cS, 901, .inl s0)), (aB, .inl (cB, 6, .inl (upd (upd (upd (upd (upd (upd fB 0 x) 1 y) 2 (z / 6)) 3 (z - z / 6 * 6)) 4 0) 5 0)))] H := hP
  have hD : va_D A [(m0, .inr (14, [.int 0, .ref aS, .ref aI, .int 0, .int 0, .int 0, .int 0, .int 0, .int 0, .ref aB, .ref aT, .int 0, .int 0, .ref aG, .ref aO, .ref aN, .ref aD, .long bv, .ref aY, .int 0, .int 0, .int 0, .int 0])), (aS, .inl (cS, 901, .inl s0)), (aB, .inl (cB, 6, .inl (upd (upd (upd (upd (upd (upd fB 0 x) 1 y) 2 (z / 6)) 3 (z - z / 6 * 6)) 4 0) 5 0)))] := hD
  refine lv_aload_n hx hb dX12_looks_65 rfl (lv_at hl 0 rfl) ?_
  refine lv_iconst (v := 0) hx hb dX12_looks_66 (by decide) ?_
  refine va_put (D := (dC, dI)) (ci := 14) (v := .int 0) (ty := .int) (C := RX12) (T := TX12) (N := 23) hx hb hts kc_looks0_0 tyX12 tyX12_ok nmX12 hown hK hP hD hS 0 rfl rfl 12 (by decide) (hts (.fieldLink RX12 146 "MistHeapsModel" "drifting" "I") kc_looks0_4) (fun _ h9 => h9) rfl (by decide +kernel) rfl rfl (Nat.le_of_ble_eq_true rfl) dX12_looks_67 (fun H locs hP hD hS => ?_)
  have hP : va_P (dC, dI) vwCl [(m0, .inr (14, [.int 0, .ref aS, .ref aI, .int 0, .int 0, .int 0, .int 0, .int 0, .int 0, .ref aB, .ref aT, .int 0, .int 0, .ref aG, .ref aO, .ref aN, .ref aD, .long bv, .ref aY, .int 0, .int 0, .int 0, .int 0])), (aS, .inl (cS, 901, .inl s0)), (aB, .inl (cB, 6, .inl (upd (upd (upd (upd (upd (upd fB 0 x) 1 y) 2 (z / 6)) 3 (z - z / 6 * 6)) 4 0) 5 0)))] H := hP
  have hD : va_D A [(m0, .inr (14, [.int 0, .ref aS, .ref aI, .int 0, .int 0, .int 0, .int 0, .int 0, .int 0, .ref aB, .ref aT, .int 0, .int 0, .ref aG, .ref aO, .ref aN, .ref aD, .long bv, .ref aY, .int 0, .int 0, .int 0, .int 0])), (aS, .inl (cS, 901, .inl s0)), (aB, .inl (cB, 6, .inl (upd (upd (upd (upd (upd (upd fB 0 x) 1 y) 2 (z / 6)) 3 (z - z / 6 * 6)) 4 0) 5 0)))] := hD
  refine lv_aload_n hx hb dX12_looks_70 rfl (lv_at hl 0 rfl) ?_
  refine va_get (D := (dC, dI)) (ci := 14) (v := .ref aS) (C := RX12) (T := TX12) (N := 23) hx hb hts kc_looks0_0 hown hK hP 0 rfl rfl 1 (by decide) (hts (.fieldLink RX12 9 "MistHeapsModel" "s" "[I") kc_looks0_2) (fun _ h9 => h9) rfl dX12_looks_71 ?_
  refine lv_iconst (v := 5) hx hb dX12_looks_74 (by decide) ?_
  refine va_iald hx hb hK hP 1 0 rfl rfl (vp_in_nI (n := 5) (N := 901) (by omega) (by omega)) dX12_looks_75 ?_
  refine qi_as (y := (-1)) (rfl) ?_
  refine lv_iconst (v := (-1)) hx hb dX12_looks_76 (by decide) ?_
  refine lv_icmp_ne (tgt := 84) hx hb dX12_looks_77 (by decide) (fun c_1 => absurd c_1 (by decide)) (fun _ => ?_)
  refine lv_iconst (v := 0) hx hb dX12_looks_80 (by decide) ?_
  refine lv_goto (tgt := 99) hx hb dX12_looks_81 (by decide) ?_
  refine lv_istore (lv' := [(4, .int 0), (0, .ref m0), (1, .int x), (2, .int y), (3, .int z)]) hx hb dX12_looks_99 hl (by decide) rfl (fun ls hl => ?_)
  refine lv_sipush (v := 201) hx hb dX12_looks_101 (by decide) ?_
  refine lv_sipush (v := 140) hx hb dX12_looks_104 (by decide) ?_
  refine lv_aload_n hx hb dX12_looks_107 rfl (lv_at hl 1 rfl) ?_
  refine va_get (D := (dC, dI)) (ci := 14) (v := .ref aS) (C := RX12) (T := TX12) (N := 23) hx hb hts kc_looks0_0 hown hK hP 0 rfl rfl 1 (by decide) (hts (.fieldLink RX12 9 "MistHeapsModel" "s" "[I") kc_looks0_2) (fun _ h9 => h9) rfl dX12_looks_108 ?_
  refine lv_iconst (v := 5) hx hb dX12_looks_111 (by decide) ?_
  refine va_iald hx hb hK hP 1 0 rfl rfl (vp_in_nI (n := 5) (N := 901) (by omega) (by omega)) dX12_looks_112 ?_
  refine qi_as (y := (-1)) (rfl) ?_
  refine lv_imul hx hb dX12_looks_113 ?_
  refine qi_as (y := (-140)) (by decide) ?_
  refine lv_iadd hx hb dX12_looks_114 ?_
  refine qi_as (y := 61) (by decide) ?_
  refine lv_istore (lv' := [(5, .int 61), (4, .int 0), (0, .ref m0), (1, .int x), (2, .int y), (3, .int z)]) hx hb dX12_looks_115 hl (by decide) rfl (fun ls hl => ?_)
  refine lv_iconst (v := 0) hx hb dX12_looks_117 (by decide) ?_
  refine lv_istore (lv' := [(6, .int 0), (5, .int 61), (4, .int 0), (0, .ref m0), (1, .int x), (2, .int y), (3, .int z)]) hx hb dX12_looks_118 hl (by decide) rfl (fun ls hl => ?_)
  refine lv_iload hx hb dX12_looks_120 (lv_at hl 1 rfl) ?_
  refine lv_istore (lv' := [(7, .int 61), (6, .int 0), (5, .int 61), (4, .int 0), (0, .ref m0), (1, .int x), (2, .int y), (3, .int z)]) hx hb dX12_looks_122 hl (by decide) rfl (fun ls hl => ?_)
  refine lv_iload hx hb dX12_looks_124 (lv_at hl 0 rfl) ?_
  refine lv_iload hx hb dX12_looks_126 (lv_at hl 2 rfl) ?_
  refine lv_iload hx hb dX12_looks_128 (lv_at hl 3 rfl) ?_
  refine lv_iadd hx hb dX12_looks_130 ?_
  refine qi_as (y := 61) (by decide) ?_
  refine lv_icmp_ge (tgt := 460) hx hb dX12_looks_131 (by decide) (fun _ => ?_) (fun c_2 => absurd c_2 (by decide))
  rw [hQ]
  have hP9 := hP.sub (ws' := [(m0, .inr (14, [.int 0, .ref aS, .ref aI, .int 0, .int 0, .int 0, .int 0, .int 0, .int 0, .ref aB, .ref aT, .int 0, .int 0, .ref aG, .ref aO, .ref aN, .ref aD, .long bv, .ref aY, .int 0, .int 0, .int 0, .int 0])), (aS, .inl (cS, 901, .inl s0)), (aB, .inl (cB, 6, .inl (upd (upd (upd (upd (upd (upd fB 0 x) 1 y) 2 (z / 6)) 3 (z - z / 6 * 6)) 4 0) 5 0)))]) [0, 1, 2] rfl
  have hD9 := hD.sub (ws' := [(m0, .inr (14, [.int 0, .ref aS, .ref aI, .int 0, .int 0, .int 0, .int 0, .int 0, .int 0, .ref aB, .ref aT, .int 0, .int 0, .ref aG, .ref aO, .ref aN, .ref aD, .long bv, .ref aY, .int 0, .int 0, .int 0, .int 0])), (aS, .inl (cS, 901, .inl s0)), (aB, .inl (cB, 6, .inl (upd (upd (upd (upd (upd (upd fB 0 x) 1 y) 2 (z / 6)) 3 (z - z / 6 * 6)) 4 0) 5 0)))]) [0, 1, 2] (by decide) rfl
  have hK9 := hK.sub (tys' := [(cS, .int), (cB, .int)]) [0, 1] rfl
  exact W.vret hx hb hr (fun tQ htQ hWQ => ⟨⟨upd (upd (upd (upd (upd (upd fB 0 x) 1 y) 2 (z / 6)) 3 (z - z / 6 * 6)) 4 0) 5 0, rfl, trivial, by rw [htQ]; exact hP9, va_K.moved hWQ.alike hK9, hD9⟩, hS.F htQ⟩) hS.2.2 dX12_looks_460

theorem kc_driftOf0_0 : ∀ w ∈ wsX120, w ∈ wsX12_driftOf := by decide +kernel
theorem kc_driftOf0_1 : (.fieldLink RX12 146 "MistHeapsModel" "drifting" "I" : Cond) ∈ wsX12_driftOf := by decide +kernel
set_option maxHeartbeats 4000000 in
set_option maxRecDepth 100000 in
theorem c_driftOf0 (l : Launch) (dC : Nat → ClassId) (dI : Nat → Nat → Nat) (m0 aS aI aB aT aG aO aN aD aY : Nat) (bv : Int64) (cS cB : ClassId) (fB : Nat → Int32) (x : Int32) (sz : Nat) : Met l yX12_driftOf wsX12_driftOf ({ frames := 1, cells := 0, slots := 0, locals := 31 } : Room) (va_Pc [.ref m0, .int x] (fun U => U.heap.size = sz ∧ va_P (dC, dI) vwCl [(m0, .inr (14, [.int 0, .ref aS, .ref aI, .int 0, .int 0, .int 0, .int 0, .int 0, .int 0, .ref aB, .ref aT, .int 0, .int 0, .ref aG, .ref aO, .ref aN, .ref aD, .long bv, .ref aY, .int 0, .int 0, .int 0, .int 0])), (aS, .inl (cS, 901, .inl s0)), (aB, .inl (cB, 6, .inl fB))] U.heap ∧ va_K (dC, dI) vwCl [(cS, .int), (cB, .int)] U ∧ va_D (fun _ => True) [(m0, .inr (14, [.int 0, .ref aS, .ref aI, .int 0, .int 0, .int 0, .int 0, .int 0, .int 0, .ref aB, .ref aT, .int 0, .int 0, .ref aG, .ref aO, .ref aN, .ref aD, .long bv, .ref aY, .int 0, .int 0, .int 0, .int 0])), (aS, .inl (cS, 901, .inl s0)), (aB, .inl (cB, 6, .inl fB))])) (va_Qi (fun (r : Int32) (u : Nat → Int32) => match u with | fB2 => r = 0) (fun (u : Nat → Int32) (t : State) => match u with | fB2 => va_P (dC, dI) vwCl [(m0, .inr (14, [.int 0, .ref aS, .ref aI, .int 0, .int 0, .int 0, .int 0, .int 0, .int 0, .ref aB, .ref aT, .int 0, .int 0, .ref aG, .ref aO, .ref aN, .ref aD, .long bv, .ref aY, .int 0, .int 0, .int 0, .int 0])), (aS, .inl (cS, 901, .inl s0)), (aB, .inl (cB, 6, .inl fB2))] t.heap ∧ va_K (dC, dI) vwCl [(cS, .int), (cB, .int)] t ∧ va_D (va_A [(m0, .inr (14, [.int 0, .ref aS, .ref aI, .int 0, .int 0, .int 0, .int 0, .int 0, .int 0, .ref aB, .ref aT, .int 0, .int 0, .ref aG, .ref aO, .ref aN, .ref aD, .long bv, .ref aY, .int 0, .int 0, .int 0, .int 0])), (aS, .inl (cS, 901, .inl s0)), (aB, .inl (cB, 6, .inl fB))] sz) [(m0, .inr (14, [.int 0, .ref aS, .ref aI, .int 0, .int 0, .int 0, .int 0, .int 0, .int 0, .ref aB, .ref aT, .int 0, .int 0, .ref aG, .ref aO, .ref aN, .ref aD, .long bv, .ref aY, .int 0, .int 0, .int 0, .int 0])), (aS, .inl (cS, 901, .inl s0)), (aB, .inl (cB, 6, .inl fB2))]) (va_A [(m0, .inr (14, [.int 0, .ref aS, .ref aI, .int 0, .int 0, .int 0, .int 0, .int 0, .int 0, .ref aB, .ref aT, .int 0, .int 0, .ref aG, .ref aO, .ref aN, .ref aD, .long bv, .ref aY, .int 0, .int 0, .int 0, .int 0])), (aS, .inl (cS, 901, .inl s0)), (aB, .inl (cB, 6, .inl fB))] sz)) 0 0 (va_A [(m0, .inr (14, [.int 0, .ref aS, .ref aI, .int 0, .int 0, .int 0, .int 0, .int 0, .int 0, .ref aB, .ref aT, .int 0, .int 0, .ref aG, .ref aO, .ref aN, .ref aD, .long bv, .ref aY, .int 0, .int 0, .int 0, .int 0])), (aS, .inl (cS, 901, .inl s0)), (aB, .inl (cB, 6, .inl fB))] sz) := by
  refine met_ofQ (cc := cX12_driftOf) (maxL := 2) (ret := (some .int)) (by decide) rfl ?_
  intro p e s m args below meth c s₁ Q B hml hv hQ
  obtain ⟨rfl, hsz, hP, hK, hD0⟩ := hv
  have hx := B.exec
  have hb := B.bytes
  have hr := B.returns
  have hts := atoms_spec (ws := wsX12_driftOf) B.pre
  have hown : s.vm.findClass RX12 = some m.cls := findClass_of_methodNamed B.named
  have hlocks := B.notSynchronized
  subst hsz
  have hD := hD0.self (sz := s.heap.size)
  generalize hAe : va_A [(m0, .inr (14, [.int 0, .ref aS, .ref aI, .int 0, .int 0, .int 0, .int 0, .int 0, .int 0, .ref aB, .ref aT, .int 0, .int 0, .ref aG, .ref aO, .ref aN, .ref aD, .long bv, .ref aY, .int 0, .int 0, .int 0, .int 0])), (aS, .inl (cS, 901, .inl s0)), (aB, .inl (cB, 6, .inl fB))] s.heap.size = A at hD hQ ⊢
  have hA : ∀ q : Nat, s.heap.size ≤ q → A q := fun q h => by rw [← hAe]; exact Or.inr h
  have hS : va_S A s.heap s.heap [] := va_S.rf
  have hl := lv_entry [.ref m0, .int x] (n := 2) (Nat.le_of_ble_eq_true rfl)
  rw [lg_entry_eq]
  generalize (lg_sl [.ref m0, .int x] ++ List.replicate (2 - (lg_sl [.ref m0, .int x]).length) Slot.unset).toArray = ls at hl ⊢
  generalize hag : ([.ref m0, .int x] : List Value).toArray = args at hts hQ ⊢
  have hl : lv_has ls 2 [(0, .ref m0), (1, .int x)] := hl
  obtain ⟨H, hH⟩ : ∃ H : Heap, H = s.heap := ⟨_, rfl⟩
  rw [← hH] at hP
  rw [← hH]
  have hS : va_S A s.heap H [] := by rw [hH]; exact hS
  obtain ⟨locs, hlo⟩ : ∃ L : List Loc, L = [] := ⟨_, rfl⟩
  rw [← hlo] at hS
  rw [← hlo]
  clear hH hlo
  refine lv_aload_n hx hb dX12_driftOf_0 rfl (lv_at hl 0 rfl) ?_
  refine lv_bipush (v := 99) hx hb dX12_driftOf_1 (by decide) ?_
  refine lv_bipush (v := 99) hx hb dX12_driftOf_3 (by decide) ?_
  refine lv_iload_n hx hb dX12_driftOf_5 rfl (lv_at hl 1 rfl) ?_
  have hPc := hP.sub (ws' := [(m0, .inr (14, [.int 0, .ref aS, .ref aI, .int 0, .int 0, .int 0, .int 0, .int 0, .int 0, .ref aB, .ref aT, .int 0, .int 0, .ref aG, .ref aO, .ref aN, .ref aD, .long bv, .ref aY, .int 0, .int 0, .int 0, .int 0])), (aS, .inl (cS, 901, .inl s0)), (aB, .inl (cB, 6, .inl fB))]) [0, 1, 2] rfl
  have hDc := hD.sub (ws' := [(m0, .inr (14, [.int 0, .ref aS, .ref aI, .int 0, .int 0, .int 0, .int 0, .int 0, .int 0, .ref aB, .ref aT, .int 0, .int 0, .ref aG, .ref aO, .ref aN, .ref aD, .long bv, .ref aY, .int 0, .int 0, .int 0, .int 0])), (aS, .inl (cS, 901, .inl s0)), (aB, .inl (cB, 6, .inl fB))]) [0, 1, 2] (by decide) rfl
  have hKc := hK.sub (tys' := [(cS, .int), (cB, .int)]) [0, 1] rfl
  have hFc := va_free (wc := [(m0, .inr (14, [.int 0, .ref aS, .ref aI, .int 0, .int 0, .int 0, .int 0, .int 0, .int 0, .ref aB, .ref aT, .int 0, .int 0, .ref aG, .ref aO, .ref aN, .ref aD, .long bv, .ref aY, .int 0, .int 0, .int 0, .int 0])), (aS, .inl (cS, 901, .inl s0)), (aB, .inl (cB, 6, .inl fB))]) hD hS hA [0, 1, 2] rfl
  refine va_callv (va_runV (As := [.int 99, .int 99, .int x]) (rest := []) ⟨hx, hb, hml, hown, hts⟩ (c_looks0 l dC dI m0 aS aI aB aT aG aO aN aD aY bv cS cB fB 99 99 x H.size) (cwV 3 hts gX12_driftOf_X12_looks rfl rfl rfl (by decide +kernel) ⟨Nat.le_of_ble_eq_true rfl, Nat.le_of_ble_eq_true rfl⟩) ⟨fun a U g mk q => by obtain ⟨q0, q1, qP, qK, qD⟩ := q; exact ⟨q0, q1, qP, va_K.moved (u := U) (U := U.calling g mk a) (Vm.Alike.refl U.vm) qK, qD⟩, va_recv hK hP (ci := 14) (q0 := 0) rfl rfl, fun U hU hW => ⟨rfl, by rw [hU], by rw [hU]; exact hPc, va_K.moved hW.alike hKc, hDc.weaken (fun _ _ _ _ => trivial)⟩⟩ rfl rfl hl.1 rfl (lv_room (Nat.le_of_ble_eq_true rfl)) dX12_driftOf_6 ⟨Nat.le_of_ble_eq_true rfl, Nat.le_of_ble_eq_true rfl⟩) hS (fun q _ h => hFc q h) hFc (fun u tC H1 locs htC hvm hw_2 hB hz1 hk1 hS => ?_)
  obtain ⟨fB2_3, rfl⟩ : ∃ z, z = u := ⟨_, rfl⟩
  try dsimp only at hw_2 hB
  obtain ⟨hP1, hK1, hD1⟩ := hB
  rw [htC] at hP1
  have hK1 := va_K.moved hvm.symm hK1
  obtain ⟨hP, hD⟩ := va_join (wr := []) (w1 := [(m0, .inr (14, [.int 0, .ref aS, .ref aI, .int 0, .int 0, .int 0, .int 0, .int 0, .int 0, .ref aB, .ref aT, .int 0, .int 0, .ref aG, .ref aO, .ref aN, .ref aD, .long bv, .ref aY, .int 0, .int 0, .int 0, .int 0])), (aS, .inl (cS, 901, .inl s0)), (aB, .inl (cB, 6, .inl fB2_3))]) hP hD [0, 1, 2] [] rfl rfl (by decide) (by decide) hk1 hFc hP1 hD1
  have hK := (hK.sub (tys' := []) [] rfl).app hK1
  generalize H1 = H at hP hS ⊢
  have hP : va_P (dC, dI) vwCl [(m0, .inr (14, [.int 0, .ref aS, .ref aI, .int 0, .int 0, .int 0, .int 0, .int 0, .int 0, .ref aB, .ref aT, .int 0, .int 0, .ref aG, .ref aO, .ref aN, .ref aD, .long bv, .ref aY, .int 0, .int 0, .int 0, .int 0])), (aS, .inl (cS, 901, .inl s0)), (aB, .inl (cB, 6, .inl fB2_3))] H := hP
  have hD : va_D A [(m0, .inr (14, [.int 0, .ref aS, .ref aI, .int 0, .int 0, .int 0, .int 0, .int 0, .int 0, .ref aB, .ref aT, .int 0, .int 0, .ref aG, .ref aO, .ref aN, .ref aD, .long bv, .ref aY, .int 0, .int 0, .int 0, .int 0])), (aS, .inl (cS, 901, .inl s0)), (aB, .inl (cB, 6, .inl fB2_3))] := hD
  have hK : va_K (dC, dI) vwCl [(cS, .int), (cB, .int)] s := hK
  refine lv_aload_n hx hb dX12_driftOf_9 rfl (lv_at hl 0 rfl) ?_
  refine va_get (D := (dC, dI)) (ci := 14) (v := .int 0) (C := RX12) (T := TX12) (N := 23) hx hb hts kc_driftOf0_0 hown hK hP 0 rfl rfl 12 (by decide) (hts (.fieldLink RX12 146 "MistHeapsModel" "drifting" "I") kc_driftOf0_1) (fun _ h9 => h9) rfl dX12_driftOf_10 ?_
  refine lv_iconst (v := 5) hx hb dX12_driftOf_13 (by decide) ?_
  refine lv_icmp_le (tgt := 21) hx hb dX12_driftOf_14 (by decide) (fun _ => ?_) (fun c_4 => absurd c_4 (by decide))
  refine lv_aload_n hx hb dX12_driftOf_21 rfl (lv_at hl 0 rfl) ?_
  refine va_get (D := (dC, dI)) (ci := 14) (v := .int 0) (C := RX12) (T := TX12) (N := 23) hx hb hts kc_driftOf0_0 hown hK hP 0 rfl rfl 12 (by decide) (hts (.fieldLink RX12 146 "MistHeapsModel" "drifting" "I") kc_driftOf0_1) (fun _ h9 => h9) rfl dX12_driftOf_22 ?_
  rw [hQ]
  have hP9 := hP.sub (ws' := [(m0, .inr (14, [.int 0, .ref aS, .ref aI, .int 0, .int 0, .int 0, .int 0, .int 0, .int 0, .ref aB, .ref aT, .int 0, .int 0, .ref aG, .ref aO, .ref aN, .ref aD, .long bv, .ref aY, .int 0, .int 0, .int 0, .int 0])), (aS, .inl (cS, 901, .inl s0)), (aB, .inl (cB, 6, .inl fB2_3))]) [0, 1, 2] rfl
  have hD9 := hD.sub (ws' := [(m0, .inr (14, [.int 0, .ref aS, .ref aI, .int 0, .int 0, .int 0, .int 0, .int 0, .int 0, .ref aB, .ref aT, .int 0, .int 0, .ref aG, .ref aO, .ref aN, .ref aD, .long bv, .ref aY, .int 0, .int 0, .int 0, .int 0])), (aS, .inl (cS, 901, .inl s0)), (aB, .inl (cB, 6, .inl fB2_3))]) [0, 1, 2] (by decide) rfl
  have hK9 := hK.sub (tys' := [(cS, .int), (cB, .int)]) [0, 1] rfl
  exact W.iret (v := 0) hx hb hr (fun tQ htQ hWQ => ⟨⟨0, fB2_3, rfl, rfl, by rw [htQ]; exact hP9, va_K.moved hWQ.alike hK9, hD9⟩, hS.F htQ⟩) hS.2.2 dX12_driftOf_25

set_option maxHeartbeats 4000000 in
set_option maxRecDepth 100000 in
theorem c_mDrift (l : Launch) (dC : Nat → ClassId) (dI : Nat → Nat → Nat) (m0 aS aI aB aT aG aO aN aD aY : Nat) (bv : Int64) (cS cB : ClassId) (fB : Nat → Int32) (x : Int32) (sz : Nat) : Met l yX12_drift wsX12_drift ({ frames := 2, cells := 0, slots := 0, locals := 52 } : Room) (va_Pc [.ref m0, .int x] (fun U => U.heap.size = sz ∧ va_P (dC, dI) vwCl [(m0, .inr (14, [.int 0, .ref aS, .ref aI, .int 0, .int 0, .int 0, .int 0, .int 0, .int 0, .ref aB, .ref aT, .int 0, .int 0, .ref aG, .ref aO, .ref aN, .ref aD, .long bv, .ref aY, .int 0, .int 0, .int 0, .int 0])), (aS, .inl (cS, 901, .inl s0)), (aB, .inl (cB, 6, .inl fB))] U.heap ∧ va_K (dC, dI) vwCl [(cS, .int), (cB, .int)] U ∧ va_D (fun _ => True) [(m0, .inr (14, [.int 0, .ref aS, .ref aI, .int 0, .int 0, .int 0, .int 0, .int 0, .int 0, .ref aB, .ref aT, .int 0, .int 0, .ref aG, .ref aO, .ref aN, .ref aD, .long bv, .ref aY, .int 0, .int 0, .int 0, .int 0])), (aS, .inl (cS, 901, .inl s0)), (aB, .inl (cB, 6, .inl fB))])) (va_Qi (fun (r : Int32) (u : Unit) => match u with | () => r = f_cell x) (fun (u : Unit) (t : State) => match u with | () => True) (va_A [(m0, .inr (14, [.int 0, .ref aS, .ref aI, .int 0, .int 0, .int 0, .int 0, .int 0, .int 0, .ref aB, .ref aT, .int 0, .int 0, .ref aG, .ref aO, .ref aN, .ref aD, .long bv, .ref aY, .int 0, .int 0, .int 0, .int 0])), (aS, .inl (cS, 901, .inl s0)), (aB, .inl (cB, 6, .inl fB))] sz)) 0 0 (va_A [(m0, .inr (14, [.int 0, .ref aS, .ref aI, .int 0, .int 0, .int 0, .int 0, .int 0, .int 0, .ref aB, .ref aT, .int 0, .int 0, .ref aG, .ref aO, .ref aN, .ref aD, .long bv, .ref aY, .int 0, .int 0, .int 0, .int 0])), (aS, .inl (cS, 901, .inl s0)), (aB, .inl (cB, 6, .inl fB))] sz) := by
  refine met_ofQ (cc := cX12_drift) (maxL := 2) (ret := (some .int)) (by decide) rfl ?_
  intro p e s m args below meth c s₁ Q B hml hv hQ
  obtain ⟨rfl, hsz, hP, hK, hD0⟩ := hv
  have hx := B.exec
  have hb := B.bytes
  have hr := B.returns
  have hts := atoms_spec (ws := wsX12_drift) B.pre
  have hown : s.vm.findClass RX12 = some m.cls := findClass_of_methodNamed B.named
  have hlocks := B.notSynchronized
  subst hsz
  have hD := hD0.self (sz := s.heap.size)
  generalize hAe : va_A [(m0, .inr (14, [.int 0, .ref aS, .ref aI, .int 0, .int 0, .int 0, .int 0, .int 0, .int 0, .ref aB, .ref aT, .int 0, .int 0, .ref aG, .ref aO, .ref aN, .ref aD, .long bv, .ref aY, .int 0, .int 0, .int 0, .int 0])), (aS, .inl (cS, 901, .inl s0)), (aB, .inl (cB, 6, .inl fB))] s.heap.size = A at hD hQ ⊢
  have hA : ∀ q : Nat, s.heap.size ≤ q → A q := fun q h => by rw [← hAe]; exact Or.inr h
  have hS : va_S A s.heap s.heap [] := va_S.rf
  have hl := lv_entry [.ref m0, .int x] (n := 2) (Nat.le_of_ble_eq_true rfl)
  rw [lg_entry_eq]
  generalize (lg_sl [.ref m0, .int x] ++ List.replicate (2 - (lg_sl [.ref m0, .int x]).length) Slot.unset).toArray = ls at hl ⊢
  generalize hag : ([.ref m0, .int x] : List Value).toArray = args at hts hQ ⊢
  have hl : lv_has ls 2 [(0, .ref m0), (1, .int x)] := hl
  obtain ⟨H, hH⟩ : ∃ H : Heap, H = s.heap := ⟨_, rfl⟩
  rw [← hH] at hP
  rw [← hH]
  have hS : va_S A s.heap H [] := by rw [hH]; exact hS
  obtain ⟨locs, hlo⟩ : ∃ L : List Loc, L = [] := ⟨_, rfl⟩
  rw [← hlo] at hS
  rw [← hlo]
  clear hH hlo
  refine lv_iload_n hx hb dX12_drift_0 rfl (lv_at hl 1 rfl) ?_
  refine vp_callSi (va_runS (As := [.int x]) (rest := []) ⟨hx, hb, hml, hown, hts⟩ (c_mCell l dC dI x) (va_cwS 1 hts gX12_drift_X12_isCell rfl rfl rfl (by decide +kernel) ⟨Nat.le_of_ble_eq_true rfl, Nat.le_of_ble_eq_true rfl⟩) ⟨fun a U g mk q => ⟨q.1, trivial⟩, fun U hU hW => ⟨rfl, trivial⟩⟩ rfl rfl hl.1 rfl (lv_room (Nat.le_of_ble_eq_true rfl)) dX12_drift_1 ⟨Nat.le_of_ble_eq_true rfl, Nat.le_of_ble_eq_true rfl⟩).run (fun r_1 hw_2 => ?_)
  rcases hw_2 with ⟨rfl, h_3, h_4⟩ | ⟨rfl, h_5⟩
  · skip
    refine lv_if_eq (tgt := 15) hx hb dX12_drift_4 (by decide) (fun c_6 => absurd c_6 (by decide)) (fun _ => ?_)
    refine lv_aload_n hx hb dX12_drift_7 rfl (lv_at hl 0 rfl) ?_
    refine lv_iload_n hx hb dX12_drift_8 rfl (lv_at hl 1 rfl) ?_
    have hPc := hP.sub (ws' := [(m0, .inr (14, [.int 0, .ref aS, .ref aI, .int 0, .int 0, .int 0, .int 0, .int 0, .int 0, .ref aB, .ref aT, .int 0, .int 0, .ref aG, .ref aO, .ref aN, .ref aD, .long bv, .ref aY, .int 0, .int 0, .int 0, .int 0])), (aS, .inl (cS, 901, .inl s0)), (aB, .inl (cB, 6, .inl fB))]) [0, 1, 2] rfl
    have hDc := hD.sub (ws' := [(m0, .inr (14, [.int 0, .ref aS, .ref aI, .int 0, .int 0, .int 0, .int 0, .int 0, .int 0, .ref aB, .ref aT, .int 0, .int 0, .ref aG, .ref aO, .ref aN, .ref aD, .long bv, .ref aY, .int 0, .int 0, .int 0, .int 0])), (aS, .inl (cS, 901, .inl s0)), (aB, .inl (cB, 6, .inl fB))]) [0, 1, 2] (by decide) rfl
    have hKc := hK.sub (tys' := [(cS, .int), (cB, .int)]) [0, 1] rfl
    have hFc := va_free (wc := [(m0, .inr (14, [.int 0, .ref aS, .ref aI, .int 0, .int 0, .int 0, .int 0, .int 0, .int 0, .ref aB, .ref aT, .int 0, .int 0, .ref aG, .ref aO, .ref aN, .ref aD, .long bv, .ref aY, .int 0, .int 0, .int 0, .int 0])), (aS, .inl (cS, 901, .inl s0)), (aB, .inl (cB, 6, .inl fB))]) hD hS hA [0, 1, 2] rfl
    refine va_calli (va_runV (As := [.int x]) (rest := []) ⟨hx, hb, hml, hown, hts⟩ (c_driftOf0 l dC dI m0 aS aI aB aT aG aO aN aD aY bv cS cB (fB) (x) H.size) (cwV 1 hts gX12_drift_X12_driftOf rfl rfl rfl (by decide +kernel) ⟨Nat.le_of_ble_eq_true rfl, Nat.le_of_ble_eq_true rfl⟩) ⟨fun a U g mk q => by obtain ⟨q0, q1, qP, qK, qD⟩ := q; exact ⟨q0, q1, qP, va_K.moved (u := U) (U := U.calling g mk a) (Vm.Alike.refl U.vm) qK, qD⟩, va_recv hK hP (ci := 14) (q0 := 0) rfl rfl, fun U hU hW => ⟨rfl, by rw [hU], by rw [hU]; exact hPc, va_K.moved hW.alike hKc, hDc.weaken (fun _ _ _ _ => trivial)⟩⟩ rfl rfl hl.1 rfl (lv_room (Nat.le_of_ble_eq_true rfl)) dX12_drift_9 ⟨Nat.le_of_ble_eq_true rfl, Nat.le_of_ble_eq_true rfl⟩) hS (fun q _ h => hFc q h) hFc (fun r_7 u tC H1 locs htC hvm hw_8 hB hz1 hk1 hS => ?_)
    obtain ⟨fB2_9, rfl⟩ : ∃ z, z = u := ⟨_, rfl⟩
    try dsimp only at hw_8 hB
    obtain ⟨hP1, hK1, hD1⟩ := hB
    rw [htC] at hP1
    have hK1 := va_K.moved hvm.symm hK1
    obtain ⟨hP, hD⟩ := va_join (wr := []) (w1 := [(m0, .inr (14, [.int 0, .ref aS, .ref aI, .int 0, .int 0, .int 0, .int 0, .int 0, .int 0, .ref aB, .ref aT, .int 0, .int 0, .ref aG, .ref aO, .ref aN, .ref aD, .long bv, .ref aY, .int 0, .int 0, .int 0, .int 0])), (aS, .inl (cS, 901, .inl s0)), (aB, .inl (cB, 6, .inl fB2_9))]) hP hD [0, 1, 2] [] rfl rfl (by decide) (by decide) hk1 hFc hP1 hD1
    have hK := (hK.sub (tys' := []) [] rfl).app hK1
    generalize H1 = H at hP hS ⊢
    have hP : va_P (dC, dI) vwCl [(m0, .inr (14, [.int 0, .ref aS, .ref aI, .int 0, .int 0, .int 0, .int 0, .int 0, .int 0, .ref aB, .ref aT, .int 0, .int 0, .ref aG, .ref aO, .ref aN, .ref aD, .long bv, .ref aY, .int 0, .int 0, .int 0, .int 0])), (aS, .inl (cS, 901, .inl s0)), (aB, .inl (cB, 6, .inl fB2_9))] H := hP
    have hD : va_D A [(m0, .inr (14, [.int 0, .ref aS, .ref aI, .int 0, .int 0, .int 0, .int 0, .int 0, .int 0, .ref aB, .ref aT, .int 0, .int 0, .ref aG, .ref aO, .ref aN, .ref aD, .long bv, .ref aY, .int 0, .int 0, .int 0, .int 0])), (aS, .inl (cS, 901, .inl s0)), (aB, .inl (cB, 6, .inl fB2_9))] := hD
    have hK : va_K (dC, dI) vwCl [(cS, .int), (cB, .int)] s := hK
    refine qi_as (y := 0) (hw_8) ?_
    refine lv_goto (tgt := 16) hx hb dX12_drift_12 (by decide) ?_
    rw [hQ]
    exact W.iret (v := 0) hx hb hr (fun tQ htQ hWQ => ⟨⟨0, (), rfl, by simp only [f_cell]; (repeat' split) <;> simp_all, trivial⟩, hS.F htQ⟩) hS.2.2 dX12_drift_16
  · skip
    refine lv_if_eq (tgt := 15) hx hb dX12_drift_4 (by decide) (fun _ => ?_) (fun c_10 => absurd c_10 (by decide))
    refine lv_iconst (v := (-1)) hx hb dX12_drift_15 (by decide) ?_
    rw [hQ]
    exact W.iret (v := (-1)) hx hb hr (fun tQ htQ hWQ => ⟨⟨(-1), (), rfl, by simp only [f_cell]; (repeat' split) <;> simp_all, trivial⟩, hS.F htQ⟩) hS.2.2 dX12_drift_16

theorem kc_looksFor0_0 : ∀ w ∈ wsX120, w ∈ wsX12_looksForDrifts := by decide +kernel
theorem kc_looksFor0_1 : (.fieldLink RX12 35 "MistHeapsModel" "drifts" "[I" : Cond) ∈ wsX12_looksForDrifts := by decide +kernel
set_option maxHeartbeats 4000000 in
set_option maxRecDepth 100000 in
theorem c_looksFor0 (l : Launch) (dC : Nat → ClassId) (dI : Nat → Nat → Nat) (m0 aS aI aB aT aG aO aN aD aY : Nat) (bv : Int64) (cS cB cD : ClassId) (fB fD : Nat → Int32) (sz : Nat) : Met l yX12_looksForDrifts wsX12_looksForDrifts ({ frames := 2, cells := 0, slots := 0, locals := 52 } : Room) (va_Pc [.ref m0] (fun U => U.heap.size = sz ∧ va_P (dC, dI) vwCl [(m0, .inr (14, [.int 0, .ref aS, .ref aI, .int 0, .int 0, .int 0, .int 0, .int 0, .int 0, .ref aB, .ref aT, .int 0, .int 0, .ref aG, .ref aO, .ref aN, .ref aD, .long bv, .ref aY, .int 0, .int 0, .int 0, .int 0])), (aS, .inl (cS, 901, .inl s0)), (aB, .inl (cB, 6, .inl fB)), (aD, .inl (cD, 36, .inl fD))] U.heap ∧ va_K (dC, dI) vwCl [(cS, .int), (cB, .int), (cD, .int)] U ∧ va_D (fun _ => True) [(m0, .inr (14, [.int 0, .ref aS, .ref aI, .int 0, .int 0, .int 0, .int 0, .int 0, .int 0, .ref aB, .ref aT, .int 0, .int 0, .ref aG, .ref aO, .ref aN, .ref aD, .long bv, .ref aY, .int 0, .int 0, .int 0, .int 0])), (aS, .inl (cS, 901, .inl s0)), (aB, .inl (cB, 6, .inl fB)), (aD, .inl (cD, 36, .inl fD))])) (va_Qv (fun (u : (Nat → Int32) × (Nat → Int32)) => match u with | (fB2, fD2) => ∀ x, x < 36 → fD2 x = 0) (fun (u : (Nat → Int32) × (Nat → Int32)) (t : State) => match u with | (fB2, fD2) => va_P (dC, dI) vwCl [(m0, .inr (14, [.int 0, .ref aS, .ref aI, .int 0, .int 0, .int 0, .int 0, .int 0, .int 0, .ref aB, .ref aT, .int 0, .int 0, .ref aG, .ref aO, .ref aN, .ref aD, .long bv, .ref aY, .int 0, .int 0, .int 0, .int 0])), (aS, .inl (cS, 901, .inl s0)), (aB, .inl (cB, 6, .inl fB2)), (aD, .inl (cD, 36, .inl fD2))] t.heap ∧ va_K (dC, dI) vwCl [(cS, .int), (cB, .int), (cD, .int)] t ∧ va_D (va_A [(m0, .inr (14, [.int 0, .ref aS, .ref aI, .int 0, .int 0, .int 0, .int 0, .int 0, .int 0, .ref aB, .ref aT, .int 0, .int 0, .ref aG, .ref aO, .ref aN, .ref aD, .long bv, .ref aY, .int 0, .int 0, .int 0, .int 0])), (aS, .inl (cS, 901, .inl s0)), (aB, .inl (cB, 6, .inl fB)), (aD, .inl (cD, 36, .inl fD))] sz) [(m0, .inr (14, [.int 0, .ref aS, .ref aI, .int 0, .int 0, .int 0, .int 0, .int 0, .int 0, .ref aB, .ref aT, .int 0, .int 0, .ref aG, .ref aO, .ref aN, .ref aD, .long bv, .ref aY, .int 0, .int 0, .int 0, .int 0])), (aS, .inl (cS, 901, .inl s0)), (aB, .inl (cB, 6, .inl fB2)), (aD, .inl (cD, 36, .inl fD2))]) (va_A [(m0, .inr (14, [.int 0, .ref aS, .ref aI, .int 0, .int 0, .int 0, .int 0, .int 0, .int 0, .ref aB, .ref aT, .int 0, .int 0, .ref aG, .ref aO, .ref aN, .ref aD, .long bv, .ref aY, .int 0, .int 0, .int 0, .int 0])), (aS, .inl (cS, 901, .inl s0)), (aB, .inl (cB, 6, .inl fB)), (aD, .inl (cD, 36, .inl fD))] sz)) 0 0 (va_A [(m0, .inr (14, [.int 0, .ref aS, .ref aI, .int 0, .int 0, .int 0, .int 0, .int 0, .int 0, .ref aB, .ref aT, .int 0, .int 0, .ref aG, .ref aO, .ref aN, .ref aD, .long bv, .ref aY, .int 0, .int 0, .int 0, .int 0])), (aS, .inl (cS, 901, .inl s0)), (aB, .inl (cB, 6, .inl fB)), (aD, .inl (cD, 36, .inl fD))] sz) := by
  refine met_ofQ (cc := cX12_looksForDrifts) (maxL := 2) (ret := none) (by decide) rfl ?_
  intro p e s m args below meth c s₁ Q B hml hv hQ
  obtain ⟨rfl, hsz, hP, hK, hD0⟩ := hv
  have hx := B.exec
  have hb := B.bytes
  have hr := B.returns
  have hts := atoms_spec (ws := wsX12_looksForDrifts) B.pre
  have hown : s.vm.findClass RX12 = some m.cls := findClass_of_methodNamed B.named
  have hlocks := B.notSynchronized
  subst hsz
  have hD := hD0.self (sz := s.heap.size)
  generalize hAe : va_A [(m0, .inr (14, [.int 0, .ref aS, .ref aI, .int 0, .int 0, .int 0, .int 0, .int 0, .int 0, .ref aB, .ref aT, .int 0, .int 0, .ref aG, .ref aO, .ref aN, .ref aD, .long bv, .ref aY, .int 0, .int 0, .int 0, .int 0])), (aS, .inl (cS, 901, .inl s0)), (aB, .inl (cB, 6, .inl fB)), (aD, .inl (cD, 36, .inl fD))] s.heap.size = A at hD hQ ⊢
  have hA : ∀ q : Nat, s.heap.size ≤ q → A q := fun q h => by rw [← hAe]; exact Or.inr h
  have hS : va_S A s.heap s.heap [] := va_S.rf
  have hl := lv_entry [.ref m0] (n := 2) (Nat.le_of_ble_eq_true rfl)
  rw [lg_entry_eq]
  generalize (lg_sl [.ref m0] ++ List.replicate (2 - (lg_sl [.ref m0]).length) Slot.unset).toArray = ls at hl ⊢
  generalize hag : ([.ref m0] : List Value).toArray = args at hts hQ ⊢
  have hl : lv_has ls 2 [(0, .ref m0)] := hl
  obtain ⟨H, hH⟩ : ∃ H : Heap, H = s.heap := ⟨_, rfl⟩
  rw [← hH] at hP
  rw [← hH]
  have hS : va_S A s.heap H [] := by rw [hH]; exact hS
  obtain ⟨locs, hlo⟩ : ∃ L : List Loc, L = [] := ⟨_, rfl⟩
  rw [← hlo] at hS
  rw [← hlo]
  clear hH hlo
  refine lv_iconst (v := 0) hx hb dX12_looksForDrifts_0 (by decide) ?_
  refine lv_istore_n (lv' := [(1, .int 0), (0, .ref m0)]) hx hb dX12_looksForDrifts_1 rfl hl (by decide) rfl (fun ls hl => ?_)
  have L2 : ∀ (nF : Nat) (i : Nat) (g : Nat → Int32) (d : Nat → Int32), 36 - i < nF → (i ≤ 36) → (∀ x, x < i → d x = 0) → ∀ (H : Heap) (locs : List Loc), va_K (dC, dI) vwCl [(cS, .int), (cB, .int), (cD, .int)] s → va_P (dC, dI) vwCl [(m0, .inr (14, [.int 0, .ref aS, .ref aI, .int 0, .int 0, .int 0, .int 0, .int 0, .int 0, .ref aB, .ref aT, .int 0, .int 0, .ref aG, .ref aO, .ref aN, .ref aD, .long bv, .ref aY, .int 0, .int 0, .int 0, .int 0])), (aS, .inl (cS, 901, .inl s0)), (aB, .inl (cB, 6, .inl g)), (aD, .inl (cD, 36, .inl d))] H → va_D A [(m0, .inr (14, [.int 0, .ref aS, .ref aI, .int 0, .int 0, .int 0, .int 0, .int 0, .int 0, .ref aB, .ref aT, .int 0, .int 0, .ref aG, .ref aO, .ref aN, .ref aD, .long bv, .ref aY, .int 0, .int 0, .int 0, .int 0])), (aS, .inl (cS, 901, .inl s0)), (aB, .inl (cB, 6, .inl g)), (aD, .inl (cD, 36, .inl d))] → va_S A s.heap H locs → ∀ (ls : Array Slot), lv_has ls 2 [(0, .ref m0), (1, .int (nI i))] → W p l e ({ frames := 2, cells := 0, slots := 0, locals := 52 } : Room) s m args below meth c H locs 0 0 Q (F0 m 2 ls []) := by
    intro nF
    induction nF with
    | zero => intro i g d hm; exact absurd hm (Nat.not_lt_zero _)
    | succ nF ih2 =>
      intro i g d hm hi hd H locs hK hP hD hS ls hl
      refine lv_iload_n hx hb dX12_looksForDrifts_2 rfl (lv_at hl 1 rfl) ?_
      refine lv_bipush (v := 36) hx hb dX12_looksForDrifts_3 (by decide) ?_
      refine lv_icmp_ge (tgt := 25) hx hb dX12_looksForDrifts_5 (by decide) (fun c_1 => ?_) (fun c_1 => ?_)
      · skip
        have c_1 : 36 ≤ i := (nI_leI (a := 36) (b := i) (by omega) (by omega)).mp c_1
        rw [hQ]
        have hP9 := hP.sub (ws' := [(m0, .inr (14, [.int 0, .ref aS, .ref aI, .int 0, .int 0, .int 0, .int 0, .int 0, .int 0, .ref aB, .ref aT, .int 0, .int 0, .ref aG, .ref aO, .ref aN, .ref aD, .long bv, .ref aY, .int 0, .int 0, .int 0, .int 0])), (aS, .inl (cS, 901, .inl s0)), (aB, .inl (cB, 6, .inl g)), (aD, .inl (cD, 36, .inl d))]) [0, 1, 2, 3] rfl
        have hD9 := hD.sub (ws' := [(m0, .inr (14, [.int 0, .ref aS, .ref aI, .int 0, .int 0, .int 0, .int 0, .int 0, .int 0, .ref aB, .ref aT, .int 0, .int 0, .ref aG, .ref aO, .ref aN, .ref aD, .long bv, .ref aY, .int 0, .int 0, .int 0, .int 0])), (aS, .inl (cS, 901, .inl s0)), (aB, .inl (cB, 6, .inl g)), (aD, .inl (cD, 36, .inl d))]) [0, 1, 2, 3] (by decide) rfl
        have hK9 := hK.sub (tys' := [(cS, .int), (cB, .int), (cD, .int)]) [0, 1, 2] rfl
        exact W.vret hx hb hr (fun tQ htQ hWQ => ⟨⟨(g, d), rfl, (fun x hx => hd x (by omega)), by rw [htQ]; exact hP9, va_K.moved hWQ.alike hK9, hD9⟩, hS.F htQ⟩) hS.2.2 dX12_looksForDrifts_25
      · skip
        have c_1 : ¬ 36 ≤ i := fun q => c_1 ((nI_leI (a := 36) (b := i) (by omega) (by omega)).mpr q)
        refine lv_aload_n hx hb dX12_looksForDrifts_8 rfl (lv_at hl 0 rfl) ?_
        refine va_get (D := (dC, dI)) (ci := 14) (v := .ref aD) (C := RX12) (T := TX12) (N := 23) hx hb hts kc_looksFor0_0 hown hK hP 0 rfl rfl 16 (by decide) (hts (.fieldLink RX12 35 "MistHeapsModel" "drifts" "[I") kc_looksFor0_1) (fun _ h9 => h9) rfl dX12_looksForDrifts_9 ?_
        refine lv_iload_n hx hb dX12_looksForDrifts_12 rfl (lv_at hl 1 rfl) ?_
        refine lv_aload_n hx hb dX12_looksForDrifts_13 rfl (lv_at hl 0 rfl) ?_
        refine lv_iload_n hx hb dX12_looksForDrifts_14 rfl (lv_at hl 1 rfl) ?_
        have hPc := hP.sub (ws' := [(m0, .inr (14, [.int 0, .ref aS, .ref aI, .int 0, .int 0, .int 0, .int 0, .int 0, .int 0, .ref aB, .ref aT, .int 0, .int 0, .ref aG, .ref aO, .ref aN, .ref aD, .long bv, .ref aY, .int 0, .int 0, .int 0, .int 0])), (aS, .inl (cS, 901, .inl s0)), (aB, .inl (cB, 6, .inl g))]) [0, 1, 2] rfl
        have hDc := hD.sub (ws' := [(m0, .inr (14, [.int 0, .ref aS, .ref aI, .int 0, .int 0, .int 0, .int 0, .int 0, .int 0, .ref aB, .ref aT, .int 0, .int 0, .ref aG, .ref aO, .ref aN, .ref aD, .long bv, .ref aY, .int 0, .int 0, .int 0, .int 0])), (aS, .inl (cS, 901, .inl s0)), (aB, .inl (cB, 6, .inl g))]) [0, 1, 2] (by decide) rfl
        have hKc := hK.sub (tys' := [(cS, .int), (cB, .int)]) [0, 1] rfl
        have hFc := va_free (wc := [(m0, .inr (14, [.int 0, .ref aS, .ref aI, .int 0, .int 0, .int 0, .int 0, .int 0, .int 0, .ref aB, .ref aT, .int 0, .int 0, .ref aG, .ref aO, .ref aN, .ref aD, .long bv, .ref aY, .int 0, .int 0, .int 0, .int 0])), (aS, .inl (cS, 901, .inl s0)), (aB, .inl (cB, 6, .inl g))]) hD hS hA [0, 1, 2] rfl
        refine va_calli (va_runV (As := [.int (nI i)]) (rest := [.int (nI i), .ref aD]) ⟨hx, hb, hml, hown, hts⟩ (c_driftOf0 l dC dI m0 aS aI aB aT aG aO aN aD aY bv cS cB (g) (nI i) H.size) (cwV 1 hts gX12_looksForDrifts_X12_driftOf rfl rfl rfl (by decide +kernel) ⟨Nat.le_of_ble_eq_true rfl, Nat.le_of_ble_eq_true rfl⟩) ⟨fun a U g mk q => by obtain ⟨q0, q1, qP, qK, qD⟩ := q; exact ⟨q0, q1, qP, va_K.moved (u := U) (U := U.calling g mk a) (Vm.Alike.refl U.vm) qK, qD⟩, va_recv hK hP (ci := 14) (q0 := 0) rfl rfl, fun U hU hW => ⟨rfl, by rw [hU], by rw [hU]; exact hPc, va_K.moved hW.alike hKc, hDc.weaken (fun _ _ _ _ => trivial)⟩⟩ rfl rfl hl.1 rfl (lv_room (Nat.le_of_ble_eq_true rfl)) dX12_looksForDrifts_15 ⟨Nat.le_of_ble_eq_true rfl, Nat.le_of_ble_eq_true rfl⟩) hS (fun q _ h => hFc q h) hFc (fun r_2 u tC H1 locs htC hvm hw_3 hB hz1 hk1 hS => ?_)
        obtain ⟨fB2_4, rfl⟩ : ∃ z, z = u := ⟨_, rfl⟩
        try dsimp only at hw_3 hB
        obtain ⟨hP1, hK1, hD1⟩ := hB
        rw [htC] at hP1
        have hK1 := va_K.moved hvm.symm hK1
        obtain ⟨hP, hD⟩ := va_join (wr := [(aD, .inl (cD, 36, .inl d))]) (w1 := [(m0, .inr (14, [.int 0, .ref aS, .ref aI, .int 0, .int 0, .int 0, .int 0, .int 0, .int 0, .ref aB, .ref aT, .int 0, .int 0, .ref aG, .ref aO, .ref aN, .ref aD, .long bv, .ref aY, .int 0, .int 0, .int 0, .int 0])), (aS, .inl (cS, 901, .inl s0)), (aB, .inl (cB, 6, .inl fB2_4))]) hP hD [0, 1, 2] [3] rfl rfl (by decide) (by decide) hk1 hFc hP1 hD1
        have hK := (hK.sub (tys' := [(cD, .int)]) [2] rfl).app hK1
        generalize H1 = H at hP hS ⊢
        have hP : va_P (dC, dI) vwCl [(aD, .inl (cD, 36, .inl d)), (m0, .inr (14, [.int 0, .ref aS, .ref aI, .int 0, .int 0, .int 0, .int 0, .int 0, .int 0, .ref aB, .ref aT, .int 0, .int 0, .ref aG, .ref aO, .ref aN, .ref aD, .long bv, .ref aY, .int 0, .int 0, .int 0, .int 0])), (aS, .inl (cS, 901, .inl s0)), (aB, .inl (cB, 6, .inl fB2_4))] H := hP
        have hD : va_D A [(aD, .inl (cD, 36, .inl d)), (m0, .inr (14, [.int 0, .ref aS, .ref aI, .int 0, .int 0, .int 0, .int 0, .int 0, .int 0, .ref aB, .ref aT, .int 0, .int 0, .ref aG, .ref aO, .ref aN, .ref aD, .long bv, .ref aY, .int 0, .int 0, .int 0, .int 0])), (aS, .inl (cS, 901, .inl s0)), (aB, .inl (cB, 6, .inl fB2_4))] := hD
        have hK : va_K (dC, dI) vwCl [(cD, .int), (cS, .int), (cB, .int)] s := hK
        refine qi_as (y := 0) (hw_3) ?_
        refine va_iast hx hb hK hP hD hS 0 0 rfl rfl (vp_in_nI (n := i) (N := 36) (by omega) (by omega)) dX12_looksForDrifts_18 (fun H locs hP hD hS => ?_)
        rw [nI_clamp (n := i) (by omega)] at hP hD
        have hP : va_P (dC, dI) vwCl [(aD, .inl (cD, 36, .inl (upd d i 0))), (m0, .inr (14, [.int 0, .ref aS, .ref aI, .int 0, .int 0, .int 0, .int 0, .int 0, .int 0, .ref aB, .ref aT, .int 0, .int 0, .ref aG, .ref aO, .ref aN, .ref aD, .long bv, .ref aY, .int 0, .int 0, .int 0, .int 0])), (aS, .inl (cS, 901, .inl s0)), (aB, .inl (cB, 6, .inl fB2_4))] H := hP
        have hD : va_D A [(aD, .inl (cD, 36, .inl (upd d i 0))), (m0, .inr (14, [.int 0, .ref aS, .ref aI, .int 0, .int 0, .int 0, .int 0, .int 0, .int 0, .ref aB, .ref aT, .int 0, .int 0, .ref aG, .ref aO, .ref aN, .ref aD, .long bv, .ref aY, .int 0, .int 0, .int 0, .int 0])), (aS, .inl (cS, 901, .inl s0)), (aB, .inl (cB, 6, .inl fB2_4))] := hD
        refine lv_iinc (v := nI (i + 1)) (lv' := [(1, .int (nI (i + 1))), (0, .ref m0)]) hx hb dX12_looksForDrifts_19 hl (k := 1) rfl (nI_add i 1) (by decide) rfl (fun ls hl => ?_)
        refine lv_goto (tgt := 2) hx hb dX12_looksForDrifts_22 (by decide) ?_
        exact ih2 _ _ _ (by omega) (by omega) (upd_fill (v := fun _ => 0) hd rfl) _ _ (hK.sub [1, 2, 0] rfl) (hP.sub [1, 2, 3, 0] rfl) (hD.sub [1, 2, 3, 0] (by decide) rfl) hS ls (lv_sub hl [1, 0] rfl)
  exact L2 _ (0) _ _ (Nat.lt_succ_self _) (by omega) (fun x h => absurd h (Nat.not_lt_zero x)) _ _ (hK.sub [0, 1, 2] rfl) (hP.sub [0, 1, 2, 3] rfl) (hD.sub [0, 1, 2, 3] (by decide) rfl) hS ls (lv_sub hl [1, 0] rfl)

theorem kc_begins_0 : ∀ w ∈ wsX120, w ∈ wsX12_begins := by decide +kernel
theorem kc_begins_1 : (.fieldLink RX12 28 "MistHeapsModel" "often" "[J" : Cond) ∈ wsX12_begins := by decide +kernel
set_option maxHeartbeats 4000000 in
set_option maxRecDepth 100000 in
theorem c_begins (l : Launch) (dC : Nat → ClassId) (dI : Nat → Nat → Nat) (m0 aS aI aB aT aG aO aN aD aY : Nat) (bv : Int64) (cO : ClassId) (fO : Nat → Int64) (j : Nat) (sz : Nat) (zj : j < 36) : Met l yX12_begins wsX12_begins ({ frames := 0, cells := 0, slots := 0, locals := 0 } : Room) (va_Pc [.ref m0, .int (nI j)] (fun U => U.heap.size = sz ∧ va_P (dC, dI) vwCl [(m0, .inr (14, [.int 0, .ref aS, .ref aI, .int 0, .int 0, .int 0, .int 0, .int 0, .int 0, .ref aB, .ref aT, .int 0, .int 0, .ref aG, .ref aO, .ref aN, .ref aD, .long bv, .ref aY, .int 0, .int 0, .int 0, .int 0])), (aO, .inl (cO, 36, .inr (.inl fO)))] U.heap ∧ va_K (dC, dI) vwCl [(cO, .long)] U ∧ va_D (fun _ => True) [(m0, .inr (14, [.int 0, .ref aS, .ref aI, .int 0, .int 0, .int 0, .int 0, .int 0, .int 0, .ref aB, .ref aT, .int 0, .int 0, .ref aG, .ref aO, .ref aN, .ref aD, .long bv, .ref aY, .int 0, .int 0, .int 0, .int 0])), (aO, .inl (cO, 36, .inr (.inl fO)))])) (va_Qv (fun (u : Nat → Int64) => match u with | fO2 => ∀ x, x < 36 → fO2 x = ind j 0 x) (fun (u : Nat → Int64) (t : State) => match u with | fO2 => va_P (dC, dI) vwCl [(m0, .inr (14, [.int 0, .ref aS, .ref aI, .int 0, .int 0, .int 0, .int 0, .int 0, .int 0, .ref aB, .ref aT, .int 0, .int 0, .ref aG, .ref aO, .ref aN, .ref aD, .long bv, .ref aY, .int 0, .int 0, .int 0, .int 0])), (aO, .inl (cO, 36, .inr (.inl fO2)))] t.heap ∧ va_K (dC, dI) vwCl [(cO, .long)] t ∧ va_D (va_A [(m0, .inr (14, [.int 0, .ref aS, .ref aI, .int 0, .int 0, .int 0, .int 0, .int 0, .int 0, .ref aB, .ref aT, .int 0, .int 0, .ref aG, .ref aO, .ref aN, .ref aD, .long bv, .ref aY, .int 0, .int 0, .int 0, .int 0])), (aO, .inl (cO, 36, .inr (.inl fO)))] sz) [(m0, .inr (14, [.int 0, .ref aS, .ref aI, .int 0, .int 0, .int 0, .int 0, .int 0, .int 0, .ref aB, .ref aT, .int 0, .int 0, .ref aG, .ref aO, .ref aN, .ref aD, .long bv, .ref aY, .int 0, .int 0, .int 0, .int 0])), (aO, .inl (cO, 36, .inr (.inl fO2)))]) (va_A [(m0, .inr (14, [.int 0, .ref aS, .ref aI, .int 0, .int 0, .int 0, .int 0, .int 0, .int 0, .ref aB, .ref aT, .int 0, .int 0, .ref aG, .ref aO, .ref aN, .ref aD, .long bv, .ref aY, .int 0, .int 0, .int 0, .int 0])), (aO, .inl (cO, 36, .inr (.inl fO)))] sz)) 0 0 (va_A [(m0, .inr (14, [.int 0, .ref aS, .ref aI, .int 0, .int 0, .int 0, .int 0, .int 0, .int 0, .ref aB, .ref aT, .int 0, .int 0, .ref aG, .ref aO, .ref aN, .ref aD, .long bv, .ref aY, .int 0, .int 0, .int 0, .int 0])), (aO, .inl (cO, 36, .inr (.inl fO)))] sz) := by
  refine met_ofQ (cc := cX12_begins) (maxL := 3) (ret := none) (by decide) rfl ?_
  intro p e s m args below meth c s₁ Q B hml hv hQ
  obtain ⟨rfl, hsz, hP, hK, hD0⟩ := hv
  have hx := B.exec
  have hb := B.bytes
  have hr := B.returns
  have hts := atoms_spec (ws := wsX12_begins) B.pre
  have hown : s.vm.findClass RX12 = some m.cls := findClass_of_methodNamed B.named
  have hlocks := B.notSynchronized
  subst hsz
  have hD := hD0.self (sz := s.heap.size)
  generalize hAe : va_A [(m0, .inr (14, [.int 0, .ref aS, .ref aI, .int 0, .int 0, .int 0, .int 0, .int 0, .int 0, .ref aB, .ref aT, .int 0, .int 0, .ref aG, .ref aO, .ref aN, .ref aD, .long bv, .ref aY, .int 0, .int 0, .int 0, .int 0])), (aO, .inl (cO, 36, .inr (.inl fO)))] s.heap.size = A at hD hQ ⊢
  have hA : ∀ q : Nat, s.heap.size ≤ q → A q := fun q h => by rw [← hAe]; exact Or.inr h
  have hS : va_S A s.heap s.heap [] := va_S.rf
  have hl := lv_entry [.ref m0, .int (nI j)] (n := 3) (Nat.le_of_ble_eq_true rfl)
  rw [lg_entry_eq]
  generalize (lg_sl [.ref m0, .int (nI j)] ++ List.replicate (3 - (lg_sl [.ref m0, .int (nI j)]).length) Slot.unset).toArray = ls at hl ⊢
  generalize hag : ([.ref m0, .int (nI j)] : List Value).toArray = args at hts hQ ⊢
  have hl : lv_has ls 3 [(0, .ref m0), (1, .int (nI j))] := hl
  obtain ⟨H, hH⟩ : ∃ H : Heap, H = s.heap := ⟨_, rfl⟩
  rw [← hH] at hP
  rw [← hH]
  have hS : va_S A s.heap H [] := by rw [hH]; exact hS
  obtain ⟨locs, hlo⟩ : ∃ L : List Loc, L = [] := ⟨_, rfl⟩
  rw [← hlo] at hS
  rw [← hlo]
  clear hH hlo
  refine lv_iconst (v := 0) hx hb dX12_begins_0 (by decide) ?_
  refine lv_istore_n (lv' := [(2, .int 0), (0, .ref m0), (1, .int (nI j))]) hx hb dX12_begins_1 rfl hl (by decide) rfl (fun ls hl => ?_)
  have L2 : ∀ (nF : Nat) (i : Nat) (f : Nat → Int64), 36 - i < nF → (i ≤ 36) → (∀ x, x < i → f x = ind j 0 x) → ∀ (H : Heap) (locs : List Loc), va_K (dC, dI) vwCl [(cO, .long)] s → va_P (dC, dI) vwCl [(m0, .inr (14, [.int 0, .ref aS, .ref aI, .int 0, .int 0, .int 0, .int 0, .int 0, .int 0, .ref aB, .ref aT, .int 0, .int 0, .ref aG, .ref aO, .ref aN, .ref aD, .long bv, .ref aY, .int 0, .int 0, .int 0, .int 0])), (aO, .inl (cO, 36, .inr (.inl f)))] H → va_D A [(m0, .inr (14, [.int 0, .ref aS, .ref aI, .int 0, .int 0, .int 0, .int 0, .int 0, .int 0, .ref aB, .ref aT, .int 0, .int 0, .ref aG, .ref aO, .ref aN, .ref aD, .long bv, .ref aY, .int 0, .int 0, .int 0, .int 0])), (aO, .inl (cO, 36, .inr (.inl f)))] → va_S A s.heap H locs → ∀ (ls : Array Slot), lv_has ls 3 [(0, .ref m0), (1, .int (nI j)), (2, .int (nI i))] → W p l e ({ frames := 0, cells := 0, slots := 0, locals := 0 } : Room) s m args below meth c H locs 0 0 Q (F0 m 2 ls []) := by
    intro nF
    induction nF with
    | zero => intro i f hm; exact absurd hm (Nat.not_lt_zero _)
    | succ nF ih2 =>
      intro i f hm hi hf H locs hK hP hD hS ls hl
      refine lv_iload_n hx hb dX12_begins_2 rfl (lv_at hl 2 rfl) ?_
      refine lv_bipush (v := 36) hx hb dX12_begins_3 (by decide) ?_
      refine lv_icmp_ge (tgt := 30) hx hb dX12_begins_5 (by decide) (fun c_1 => ?_) (fun c_1 => ?_)
      · skip
        have c_1 : 36 ≤ i := (nI_leI (a := 36) (b := i) (by omega) (by omega)).mp c_1
        rw [hQ]
        have hP9 := hP.sub (ws' := [(m0, .inr (14, [.int 0, .ref aS, .ref aI, .int 0, .int 0, .int 0, .int 0, .int 0, .int 0, .ref aB, .ref aT, .int 0, .int 0, .ref aG, .ref aO, .ref aN, .ref aD, .long bv, .ref aY, .int 0, .int 0, .int 0, .int 0])), (aO, .inl (cO, 36, .inr (.inl f)))]) [0, 1] rfl
        have hD9 := hD.sub (ws' := [(m0, .inr (14, [.int 0, .ref aS, .ref aI, .int 0, .int 0, .int 0, .int 0, .int 0, .int 0, .ref aB, .ref aT, .int 0, .int 0, .ref aG, .ref aO, .ref aN, .ref aD, .long bv, .ref aY, .int 0, .int 0, .int 0, .int 0])), (aO, .inl (cO, 36, .inr (.inl f)))]) [0, 1] (by decide) rfl
        have hK9 := hK.sub (tys' := [(cO, .long)]) [0] rfl
        exact W.vret hx hb hr (fun tQ htQ hWQ => ⟨⟨f, rfl, (fun x hx => hf x (by omega)), by rw [htQ]; exact hP9, va_K.moved hWQ.alike hK9, hD9⟩, hS.F htQ⟩) hS.2.2 dX12_begins_30
      · skip
        have c_1 : ¬ 36 ≤ i := fun q => c_1 ((nI_leI (a := 36) (b := i) (by omega) (by omega)).mpr q)
        refine lv_aload_n hx hb dX12_begins_8 rfl (lv_at hl 0 rfl) ?_
        refine va_get (D := (dC, dI)) (ci := 14) (v := .ref aO) (C := RX12) (T := TX12) (N := 23) hx hb hts kc_begins_0 hown hK hP 0 rfl rfl 14 (by decide) (hts (.fieldLink RX12 28 "MistHeapsModel" "often" "[J") kc_begins_1) (fun _ h9 => h9) rfl dX12_begins_9 ?_
        refine lv_iload_n hx hb dX12_begins_12 rfl (lv_at hl 2 rfl) ?_
        refine lv_iload_n hx hb dX12_begins_13 rfl (lv_at hl 2 rfl) ?_
        refine lv_iload_n hx hb dX12_begins_14 rfl (lv_at hl 1 rfl) ?_
        refine lv_icmp_ne (tgt := 22) hx hb dX12_begins_15 (by decide) (fun c_2 => ?_) (fun c_2 => ?_)
        · skip
          have c_2 : ¬ i = j := fun q => c_2 ((nI_eq (a := i) (b := j) (by omega) (by omega)).mpr q)
          refine lv_lconst (v := 0) hx hb dX12_begins_22 (by decide) ?_
          refine va_last hx hb hK hP hD hS 1 0 rfl rfl (vp_in_nI (n := i) (N := 36) (by omega) (by omega)) dX12_begins_23 (fun H locs hP hD hS => ?_)
          rw [nI_clamp (n := i) (by omega)] at hP hD
          have hP : va_P (dC, dI) vwCl [(m0, .inr (14, [.int 0, .ref aS, .ref aI, .int 0, .int 0, .int 0, .int 0, .int 0, .int 0, .ref aB, .ref aT, .int 0, .int 0, .ref aG, .ref aO, .ref aN, .ref aD, .long bv, .ref aY, .int 0, .int 0, .int 0, .int 0])), (aO, .inl (cO, 36, .inr (.inl (vp_updL f i 0))))] H := hP
          have hD : va_D A [(m0, .inr (14, [.int 0, .ref aS, .ref aI, .int 0, .int 0, .int 0, .int 0, .int 0, .int 0, .ref aB, .ref aT, .int 0, .int 0, .ref aG, .ref aO, .ref aN, .ref aD, .long bv, .ref aY, .int 0, .int 0, .int 0, .int 0])), (aO, .inl (cO, 36, .inr (.inl (vp_updL f i 0))))] := hD
          refine lv_iinc (v := nI (i + 1)) (lv' := [(2, .int (nI (i + 1))), (0, .ref m0), (1, .int (nI j))]) hx hb dX12_begins_24 hl (k := 2) rfl (nI_add i 1) (by decide) rfl (fun ls hl => ?_)
          refine lv_goto (tgt := 2) hx hb dX12_begins_27 (by decide) ?_
          exact ih2 _ _ (by omega) (by omega) (updL_fill (v := ind j 0) hf (by unfold ind; simp_all <;> rfl)) _ _ (hK.sub [0] rfl) (hP.sub [0, 1] rfl) (hD.sub [0, 1] (by decide) rfl) hS ls (lv_sub hl [1, 2, 0] rfl)
        · skip
          have c_2 : i = j := (nI_eq (a := i) (b := j) (by omega) (by omega)).mp c_2
          refine lv_lconst (v := 1) hx hb dX12_begins_18 (by decide) ?_
          refine lv_goto (tgt := 23) hx hb dX12_begins_19 (by decide) ?_
          refine va_last hx hb hK hP hD hS 1 0 rfl rfl (vp_in_nI (n := i) (N := 36) (by omega) (by omega)) dX12_begins_23 (fun H locs hP hD hS => ?_)
          rw [nI_clamp (n := i) (by omega)] at hP hD
          have hP : va_P (dC, dI) vwCl [(m0, .inr (14, [.int 0, .ref aS, .ref aI, .int 0, .int 0, .int 0, .int 0, .int 0, .int 0, .ref aB, .ref aT, .int 0, .int 0, .ref aG, .ref aO, .ref aN, .ref aD, .long bv, .ref aY, .int 0, .int 0, .int 0, .int 0])), (aO, .inl (cO, 36, .inr (.inl (vp_updL f i 1))))] H := hP
          have hD : va_D A [(m0, .inr (14, [.int 0, .ref aS, .ref aI, .int 0, .int 0, .int 0, .int 0, .int 0, .int 0, .ref aB, .ref aT, .int 0, .int 0, .ref aG, .ref aO, .ref aN, .ref aD, .long bv, .ref aY, .int 0, .int 0, .int 0, .int 0])), (aO, .inl (cO, 36, .inr (.inl (vp_updL f i 1))))] := hD
          refine lv_iinc (v := nI (i + 1)) (lv' := [(2, .int (nI (i + 1))), (0, .ref m0), (1, .int (nI j))]) hx hb dX12_begins_24 hl (k := 2) rfl (nI_add i 1) (by decide) rfl (fun ls hl => ?_)
          refine lv_goto (tgt := 2) hx hb dX12_begins_27 (by decide) ?_
          exact ih2 _ _ (by omega) (by omega) (updL_fill (v := ind j 0) hf (by unfold ind; simp_all <;> rfl)) _ _ (hK.sub [0] rfl) (hP.sub [0, 1] rfl) (hD.sub [0, 1] (by decide) rfl) hS ls (lv_sub hl [1, 2, 0] rfl)
  exact L2 _ (0) _ (Nat.lt_succ_self _) (by omega) (fun x h => absurd h (Nat.not_lt_zero x)) _ _ (hK.sub [0] rfl) (hP.sub [0, 1] rfl) (hD.sub [0, 1] (by decide) rfl) hS ls (lv_sub hl [1, 2, 0] rfl)

theorem kc_goesOn_0 : ∀ w ∈ wsX120, w ∈ wsX12_goesOn := by decide +kernel
theorem kc_goesOn_1 : (.fieldLink RX12 28 "MistHeapsModel" "often" "[J" : Cond) ∈ wsX12_goesOn := by decide +kernel
theorem kc_goesOn_2 : (.fieldLink RX12 32 "MistHeapsModel" "then" "[J" : Cond) ∈ wsX12_goesOn := by decide +kernel
theorem kc_goesOn_3 : (.fieldLink RX12 9 "MistHeapsModel" "s" "[I" : Cond) ∈ wsX12_goesOn := by decide +kernel
theorem kc_goesOn_4 : (.fieldLink RX12 35 "MistHeapsModel" "drifts" "[I" : Cond) ∈ wsX12_goesOn := by decide +kernel
set_option maxHeartbeats 4000000 in
set_option maxRecDepth 100000 in
theorem c_goesOn (l : Launch) (dC : Nat → ClassId) (dI : Nat → Nat → Nat) (m0 aS aI aB aT aG aO aN aD aY : Nat) (bv : Int64) (cS cO cN cD : ClassId) (fO fN : Nat → Int64) (fD : Nat → Int32) (j k w : Nat) (sz : Nat) (zj : j < 36) (zk : k ≤ 2) (zw : w < 8) (zO : ∀ x, x < 36 → fO x = ind j k x) (zD : ∀ x, x < 36 → fD x = 0) : Met l yX12_goesOn wsX12_goesOn ({ frames := 3, cells := 0, slots := 0, locals := 65 } : Room) (va_Pc [.ref m0, .int (nI w)] (fun U => U.heap.size = sz ∧ va_P (dC, dI) vwCl [(m0, .inr (14, [.int 0, .ref aS, .ref aI, .int 0, .int 0, .int 0, .int 0, .int 0, .int 0, .ref aB, .ref aT, .int 0, .int 0, .ref aG, .ref aO, .ref aN, .ref aD, .long bv, .ref aY, .int 0, .int 0, .int 0, .int 0])), (aS, .inl (cS, 901, .inl s0)), (aO, .inl (cO, 36, .inr (.inl fO))), (aN, .inl (cN, 36, .inr (.inl fN))), (aD, .inl (cD, 36, .inl fD))] U.heap ∧ va_K (dC, dI) vwCl [(cS, .int), (cO, .long), (cN, .long), (cD, .int)] U ∧ va_D (fun _ => True) [(m0, .inr (14, [.int 0, .ref aS, .ref aI, .int 0, .int 0, .int 0, .int 0, .int 0, .int 0, .ref aB, .ref aT, .int 0, .int 0, .ref aG, .ref aO, .ref aN, .ref aD, .long bv, .ref aY, .int 0, .int 0, .int 0, .int 0])), (aS, .inl (cS, 901, .inl s0)), (aO, .inl (cO, 36, .inr (.inl fO))), (aN, .inl (cN, 36, .inr (.inl fN))), (aD, .inl (cD, 36, .inl fD))])) (va_Qv (fun (u : (Nat → Int64) × (Nat → Int64)) => match u with | (fO2, fN2) => ∀ x, x < 36 → fO2 x = ind (nb j w) (k + 1) x) (fun (u : (Nat → Int64) × (Nat → Int64)) (t : State) => match u with | (fO2, fN2) => va_P (dC, dI) vwCl [(m0, .inr (14, [.int 0, .ref aS, .ref aI, .int 0, .int 0, .int 0, .int 0, .int 0, .int 0, .ref aB, .ref aT, .int 0, .int 0, .ref aG, .ref aO, .ref aN, .ref aD, .long bv, .ref aY, .int 0, .int 0, .int 0, .int 0])), (aS, .inl (cS, 901, .inl s0)), (aO, .inl (cO, 36, .inr (.inl fO2))), (aN, .inl (cN, 36, .inr (.inl fN2))), (aD, .inl (cD, 36, .inl fD))] t.heap ∧ va_K (dC, dI) vwCl [(cS, .int), (cO, .long), (cN, .long), (cD, .int)] t ∧ va_D (va_A [(m0, .inr (14, [.int 0, .ref aS, .ref aI, .int 0, .int 0, .int 0, .int 0, .int 0, .int 0, .ref aB, .ref aT, .int 0, .int 0, .ref aG, .ref aO, .ref aN, .ref aD, .long bv, .ref aY, .int 0, .int 0, .int 0, .int 0])), (aS, .inl (cS, 901, .inl s0)), (aO, .inl (cO, 36, .inr (.inl fO))), (aN, .inl (cN, 36, .inr (.inl fN))), (aD, .inl (cD, 36, .inl fD))] sz) [(m0, .inr (14, [.int 0, .ref aS, .ref aI, .int 0, .int 0, .int 0, .int 0, .int 0, .int 0, .ref aB, .ref aT, .int 0, .int 0, .ref aG, .ref aO, .ref aN, .ref aD, .long bv, .ref aY, .int 0, .int 0, .int 0, .int 0])), (aS, .inl (cS, 901, .inl s0)), (aO, .inl (cO, 36, .inr (.inl fO2))), (aN, .inl (cN, 36, .inr (.inl fN2))), (aD, .inl (cD, 36, .inl fD))]) (va_A [(m0, .inr (14, [.int 0, .ref aS, .ref aI, .int 0, .int 0, .int 0, .int 0, .int 0, .int 0, .ref aB, .ref aT, .int 0, .int 0, .ref aG, .ref aO, .ref aN, .ref aD, .long bv, .ref aY, .int 0, .int 0, .int 0, .int 0])), (aS, .inl (cS, 901, .inl s0)), (aO, .inl (cO, 36, .inr (.inl fO))), (aN, .inl (cN, 36, .inr (.inl fN))), (aD, .inl (cD, 36, .inl fD))] sz)) 0 0 (va_A [(m0, .inr (14, [.int 0, .ref aS, .ref aI, .int 0, .int 0, .int 0, .int 0, .int 0, .int 0, .ref aB, .ref aT, .int 0, .int 0, .ref aG, .ref aO, .ref aN, .ref aD, .long bv, .ref aY, .int 0, .int 0, .int 0, .int 0])), (aS, .inl (cS, 901, .inl s0)), (aO, .inl (cO, 36, .inr (.inl fO))), (aN, .inl (cN, 36, .inr (.inl fN))), (aD, .inl (cD, 36, .inl fD))] sz) := by
  refine met_ofQ (cc := cX12_goesOn) (maxL := 4) (ret := none) (by decide) rfl ?_
  intro p e s m args below meth c s₁ Q B hml hv hQ
  obtain ⟨rfl, hsz, hP, hK, hD0⟩ := hv
  have hx := B.exec
  have hb := B.bytes
  have hr := B.returns
  have hts := atoms_spec (ws := wsX12_goesOn) B.pre
  have hown : s.vm.findClass RX12 = some m.cls := findClass_of_methodNamed B.named
  have hlocks := B.notSynchronized
  subst hsz
  have hD := hD0.self (sz := s.heap.size)
  generalize hAe : va_A [(m0, .inr (14, [.int 0, .ref aS, .ref aI, .int 0, .int 0, .int 0, .int 0, .int 0, .int 0, .ref aB, .ref aT, .int 0, .int 0, .ref aG, .ref aO, .ref aN, .ref aD, .long bv, .ref aY, .int 0, .int 0, .int 0, .int 0])), (aS, .inl (cS, 901, .inl s0)), (aO, .inl (cO, 36, .inr (.inl fO))), (aN, .inl (cN, 36, .inr (.inl fN))), (aD, .inl (cD, 36, .inl fD))] s.heap.size = A at hD hQ ⊢
  have hA : ∀ q : Nat, s.heap.size ≤ q → A q := fun q h => by rw [← hAe]; exact Or.inr h
  have hS : va_S A s.heap s.heap [] := va_S.rf
  have hl := lv_entry [.ref m0, .int (nI w)] (n := 4) (Nat.le_of_ble_eq_true rfl)
  rw [lg_entry_eq]
  generalize (lg_sl [.ref m0, .int (nI w)] ++ List.replicate (4 - (lg_sl [.ref m0, .int (nI w)]).length) Slot.unset).toArray = ls at hl ⊢
  generalize hag : ([.ref m0, .int (nI w)] : List Value).toArray = args at hts hQ ⊢
  have hl : lv_has ls 4 [(0, .ref m0), (1, .int (nI w))] := hl
  obtain ⟨H, hH⟩ : ∃ H : Heap, H = s.heap := ⟨_, rfl⟩
  rw [← hH] at hP
  rw [← hH]
  have hS : va_S A s.heap H [] := by rw [hH]; exact hS
  obtain ⟨locs, hlo⟩ : ∃ L : List Loc, L = [] := ⟨_, rfl⟩
  rw [← hlo] at hS
  rw [← hlo]
  clear hH hlo
  refine lv_iconst (v := 0) hx hb dX12_goesOn_0 (by decide) ?_
  refine lv_istore_n (lv' := [(2, .int 0), (0, .ref m0), (1, .int (nI w))]) hx hb dX12_goesOn_1 rfl hl (by decide) rfl (fun ls hl => ?_)
  have L2 : ∀ (nF : Nat) (i : Nat) (t : Nat → Int64), 36 - i < nF → (i ≤ 36) → (∀ x, x < i → t x = 0) → ∀ (H : Heap) (locs : List Loc), va_K (dC, dI) vwCl [(cS, .int), (cO, .long), (cN, .long), (cD, .int)] s → va_P (dC, dI) vwCl [(m0, .inr (14, [.int 0, .ref aS, .ref aI, .int 0, .int 0, .int 0, .int 0, .int 0, .int 0, .ref aB, .ref aT, .int 0, .int 0, .ref aG, .ref aO, .ref aN, .ref aD, .long bv, .ref aY, .int 0, .int 0, .int 0, .int 0])), (aS, .inl (cS, 901, .inl s0)), (aO, .inl (cO, 36, .inr (.inl fO))), (aN, .inl (cN, 36, .inr (.inl t))), (aD, .inl (cD, 36, .inl fD))] H → va_D A [(m0, .inr (14, [.int 0, .ref aS, .ref aI, .int 0, .int 0, .int 0, .int 0, .int 0, .int 0, .ref aB, .ref aT, .int 0, .int 0, .ref aG, .ref aO, .ref aN, .ref aD, .long bv, .ref aY, .int 0, .int 0, .int 0, .int 0])), (aS, .inl (cS, 901, .inl s0)), (aO, .inl (cO, 36, .inr (.inl fO))), (aN, .inl (cN, 36, .inr (.inl t))), (aD, .inl (cD, 36, .inl fD))] → va_S A s.heap H locs → ∀ (ls : Array Slot), lv_has ls 4 [(0, .ref m0), (1, .int (nI w)), (2, .int (nI i))] → W p l e ({ frames := 3, cells := 0, slots := 0, locals := 65 } : Room) s m args below meth c H locs 0 0 Q (F0 m 2 ls []) := by
    intro nF
    induction nF with
    | zero => intro i t hm; exact absurd hm (Nat.not_lt_zero _)
    | succ nF ih2 =>
      intro i t hm hi ht H locs hK hP hD hS ls hl
      refine lv_iload_n hx hb dX12_goesOn_2 rfl (lv_at hl 2 rfl) ?_
      refine lv_bipush (v := 36) hx hb dX12_goesOn_3 (by decide) ?_
      refine lv_icmp_ge (tgt := 21) hx hb dX12_goesOn_5 (by decide) (fun c_1 => ?_) (fun c_1 => ?_)
      · skip
        have c_1 : 36 ≤ i := (nI_leI (a := 36) (b := i) (by omega) (by omega)).mp c_1
        refine lv_iconst (v := 0) hx hb dX12_goesOn_21 (by decide) ?_
        refine lv_istore_n (lv' := [(2, .int 0), (0, .ref m0), (1, .int (nI w))]) hx hb dX12_goesOn_22 rfl hl (by decide) rfl (fun ls hl => ?_)
        have L23 : ∀ (nF : Nat) (i : Nat) (t : Nat → Int64), 36 - i < nF → (i ≤ 36) → (∀ x, x < 36 → t x = if j < i then ind (nb j w) (k + 1) x else 0) → ∀ (H : Heap) (locs : List Loc), va_K (dC, dI) vwCl [(cS, .int), (cO, .long), (cN, .long), (cD, .int)] s → va_P (dC, dI) vwCl [(m0, .inr (14, [.int 0, .ref aS, .ref aI, .int 0, .int 0, .int 0, .int 0, .int 0, .int 0, .ref aB, .ref aT, .int 0, .int 0, .ref aG, .ref aO, .ref aN, .ref aD, .long bv, .ref aY, .int 0, .int 0, .int 0, .int 0])), (aS, .inl (cS, 901, .inl s0)), (aO, .inl (cO, 36, .inr (.inl fO))), (aN, .inl (cN, 36, .inr (.inl t))), (aD, .inl (cD, 36, .inl fD))] H → va_D A [(m0, .inr (14, [.int 0, .ref aS, .ref aI, .int 0, .int 0, .int 0, .int 0, .int 0, .int 0, .ref aB, .ref aT, .int 0, .int 0, .ref aG, .ref aO, .ref aN, .ref aD, .long bv, .ref aY, .int 0, .int 0, .int 0, .int 0])), (aS, .inl (cS, 901, .inl s0)), (aO, .inl (cO, 36, .inr (.inl fO))), (aN, .inl (cN, 36, .inr (.inl t))), (aD, .inl (cD, 36, .inl fD))] → va_S A s.heap H locs → ∀ (ls : Array Slot), lv_has ls 4 [(0, .ref m0), (1, .int (nI w)), (2, .int (nI i))] → W p l e ({ frames := 3, cells := 0, slots := 0, locals := 65 } : Room) s m args below meth c H locs 0 0 Q (F0 m 23 ls []) := by
          intro nF
          induction nF with
          | zero => intro i t hm; exact absurd hm (Nat.not_lt_zero _)
          | succ nF ih23 =>
            intro i t hm hi ht H locs hK hP hD hS ls hl
            refine lv_iload_n hx hb dX12_goesOn_23 rfl (lv_at hl 2 rfl) ?_
            refine lv_bipush (v := 36) hx hb dX12_goesOn_24 (by decide) ?_
            refine lv_icmp_ge (tgt := 181) hx hb dX12_goesOn_26 (by decide) (fun c_2 => ?_) (fun c_2 => ?_)
            · skip
              have c_2 : 36 ≤ i := (nI_leI (a := 36) (b := i) (by omega) (by omega)).mp c_2
              refine lv_iconst (v := 0) hx hb dX12_goesOn_181 (by decide) ?_
              refine lv_istore_n (lv' := [(2, .int 0), (0, .ref m0), (1, .int (nI w))]) hx hb dX12_goesOn_182 rfl hl (by decide) rfl (fun ls hl => ?_)
              have L183 : ∀ (nF : Nat) (i : Nat) (f : Nat → Int64), 36 - i < nF → (i ≤ 36) → (∀ x, x < i → f x = t x) → ∀ (H : Heap) (locs : List Loc), va_K (dC, dI) vwCl [(cS, .int), (cO, .long), (cN, .long), (cD, .int)] s → va_P (dC, dI) vwCl [(m0, .inr (14, [.int 0, .ref aS, .ref aI, .int 0, .int 0, .int 0, .int 0, .int 0, .int 0, .ref aB, .ref aT, .int 0, .int 0, .ref aG, .ref aO, .ref aN, .ref aD, .long bv, .ref aY, .int 0, .int 0, .int 0, .int 0])), (aS, .inl (cS, 901, .inl s0)), (aO, .inl (cO, 36, .inr (.inl f))), (aN, .inl (cN, 36, .inr (.inl t))), (aD, .inl (cD, 36, .inl fD))] H → va_D A [(m0, .inr (14, [.int 0, .ref aS, .ref aI, .int 0, .int 0, .int 0, .int 0, .int 0, .int 0, .ref aB, .ref aT, .int 0, .int 0, .ref aG, .ref aO, .ref aN, .ref aD, .long bv, .ref aY, .int 0, .int 0, .int 0, .int 0])), (aS, .inl (cS, 901, .inl s0)), (aO, .inl (cO, 36, .inr (.inl f))), (aN, .inl (cN, 36, .inr (.inl t))), (aD, .inl (cD, 36, .inl fD))] → va_S A s.heap H locs → ∀ (ls : Array Slot), lv_has ls 4 [(0, .ref m0), (2, .int (nI i))] → W p l e ({ frames := 3, cells := 0, slots := 0, locals := 65 } : Room) s m args below meth c H locs 0 0 Q (F0 m 183 ls []) := by
                intro nF
                induction nF with
                | zero => intro i f hm; exact absurd hm (Nat.not_lt_zero _)
                | succ nF ih183 =>
                  intro i f hm hi3 hf H locs hK hP hD hS ls hl
                  refine lv_iload_n hx hb dX12_goesOn_183 rfl (lv_at hl 1 rfl) ?_
                  refine lv_bipush (v := 36) hx hb dX12_goesOn_184 (by decide) ?_
                  refine lv_icmp_ge (tgt := 207) hx hb dX12_goesOn_186 (by decide) (fun c_3 => ?_) (fun c_3 => ?_)
                  · skip
                    have c_3 : 36 ≤ i := (nI_leI (a := 36) (b := i) (by omega) (by omega)).mp c_3
                    rw [hQ]
                    have hP9 := hP.sub (ws' := [(m0, .inr (14, [.int 0, .ref aS, .ref aI, .int 0, .int 0, .int 0, .int 0, .int 0, .int 0, .ref aB, .ref aT, .int 0, .int 0, .ref aG, .ref aO, .ref aN, .ref aD, .long bv, .ref aY, .int 0, .int 0, .int 0, .int 0])), (aS, .inl (cS, 901, .inl s0)), (aO, .inl (cO, 36, .inr (.inl f))), (aN, .inl (cN, 36, .inr (.inl t))), (aD, .inl (cD, 36, .inl fD))]) [0, 1, 2, 3, 4] rfl
                    have hD9 := hD.sub (ws' := [(m0, .inr (14, [.int 0, .ref aS, .ref aI, .int 0, .int 0, .int 0, .int 0, .int 0, .int 0, .ref aB, .ref aT, .int 0, .int 0, .ref aG, .ref aO, .ref aN, .ref aD, .long bv, .ref aY, .int 0, .int 0, .int 0, .int 0])), (aS, .inl (cS, 901, .inl s0)), (aO, .inl (cO, 36, .inr (.inl f))), (aN, .inl (cN, 36, .inr (.inl t))), (aD, .inl (cD, 36, .inl fD))]) [0, 1, 2, 3, 4] (by decide) rfl
                    have hK9 := hK.sub (tys' := [(cS, .int), (cO, .long), (cN, .long), (cD, .int)]) [0, 1, 2, 3] rfl
                    exact W.vret hx hb hr (fun tQ htQ hWQ => ⟨⟨(f, t), rfl, (fun x hx => by rw [hf x (by omega), ht x (by omega), if_pos (by omega)]), by rw [htQ]; exact hP9, va_K.moved hWQ.alike hK9, hD9⟩, hS.F htQ⟩) hS.2.2 dX12_goesOn_207
                  · skip
                    have c_3 : ¬ 36 ≤ i := fun q => c_3 ((nI_leI (a := 36) (b := i) (by omega) (by omega)).mpr q)
                    refine lv_aload_n hx hb dX12_goesOn_189 rfl (lv_at hl 0 rfl) ?_
                    refine va_get (D := (dC, dI)) (ci := 14) (v := .ref aO) (C := RX12) (T := TX12) (N := 23) hx hb hts kc_goesOn_0 hown hK hP 0 rfl rfl 14 (by decide) (hts (.fieldLink RX12 28 "MistHeapsModel" "often" "[J") kc_goesOn_1) (fun _ h9 => h9) rfl dX12_goesOn_190 ?_
                    refine lv_iload_n hx hb dX12_goesOn_193 rfl (lv_at hl 1 rfl) ?_
                    refine lv_aload_n hx hb dX12_goesOn_194 rfl (lv_at hl 0 rfl) ?_
                    refine va_get (D := (dC, dI)) (ci := 14) (v := .ref aN) (C := RX12) (T := TX12) (N := 23) hx hb hts kc_goesOn_0 hown hK hP 0 rfl rfl 15 (by decide) (hts (.fieldLink RX12 32 "MistHeapsModel" "then" "[J") kc_goesOn_2) (fun _ h9 => h9) rfl dX12_goesOn_195 ?_
                    refine lv_iload_n hx hb dX12_goesOn_198 rfl (lv_at hl 1 rfl) ?_
                    refine va_lald hx hb hK hP 3 2 rfl rfl (vp_in_nI (n := i) (N := 36) (by omega) (by omega)) dX12_goesOn_199 ?_
                    refine ql_as (y := t i) (by rw [nI_clamp (by omega)]) ?_
                    refine va_last hx hb hK hP hD hS 2 1 rfl rfl (vp_in_nI (n := i) (N := 36) (by omega) (by omega)) dX12_goesOn_200 (fun H locs hP hD hS => ?_)
                    rw [nI_clamp (n := i) (by omega)] at hP hD
                    have hP : va_P (dC, dI) vwCl [(m0, .inr (14, [.int 0, .ref aS, .ref aI, .int 0, .int 0, .int 0, .int 0, .int 0, .int 0, .ref aB, .ref aT, .int 0, .int 0, .ref aG, .ref aO, .ref aN, .ref aD, .long bv, .ref aY, .int 0, .int 0, .int 0, .int 0])), (aS, .inl (cS, 901, .inl s0)), (aO, .inl (cO, 36, .inr (.inl (vp_updL f i (t i))))), (aN, .inl (cN, 36, .inr (.inl t))), (aD, .inl (cD, 36, .inl fD))] H := hP
                    have hD : va_D A [(m0, .inr (14, [.int 0, .ref aS, .ref aI, .int 0, .int 0, .int 0, .int 0, .int 0, .int 0, .ref aB, .ref aT, .int 0, .int 0, .ref aG, .ref aO, .ref aN, .ref aD, .long bv, .ref aY, .int 0, .int 0, .int 0, .int 0])), (aS, .inl (cS, 901, .inl s0)), (aO, .inl (cO, 36, .inr (.inl (vp_updL f i (t i))))), (aN, .inl (cN, 36, .inr (.inl t))), (aD, .inl (cD, 36, .inl fD))] := hD
                    refine lv_iinc (v := nI (i + 1)) (lv' := [(2, .int (nI (i + 1))), (0, .ref m0)]) hx hb dX12_goesOn_201 hl (k := 1) rfl (nI_add i 1) (by decide) rfl (fun ls hl => ?_)
                    refine lv_goto (tgt := 183) hx hb dX12_goesOn_204 (by decide) ?_
                    exact ih183 _ _ (by omega) (by omega) (updL_fill (v := t) hf rfl) _ _ (hK.sub [0, 1, 2, 3] rfl) (hP.sub [0, 1, 2, 3, 4] rfl) (hD.sub [0, 1, 2, 3, 4] (by decide) rfl) hS ls (lv_sub hl [1, 0] rfl)
              exact L183 _ (0) _ (Nat.lt_succ_self _) (by omega) (fun x h => absurd h (Nat.not_lt_zero x)) _ _ (hK.sub [0, 1, 2, 3] rfl) (hP.sub [0, 1, 2, 3, 4] rfl) (hD.sub [0, 1, 2, 3, 4] (by decide) rfl) hS ls (lv_sub hl [1, 0] rfl)
            · skip
              have c_2 : ¬ 36 ≤ i := fun q => c_2 ((nI_leI (a := 36) (b := i) (by omega) (by omega)).mpr q)
              by_cases hij : i = j
              · skip
                refine lv_aload_n hx hb dX12_goesOn_29 rfl (lv_at hl 0 rfl) ?_
                refine va_get (D := (dC, dI)) (ci := 14) (v := .ref aO) (C := RX12) (T := TX12) (N := 23) hx hb hts kc_goesOn_0 hown hK hP 0 rfl rfl 14 (by decide) (hts (.fieldLink RX12 28 "MistHeapsModel" "often" "[J") kc_goesOn_1) (fun _ h9 => h9) rfl dX12_goesOn_30 ?_
                refine lv_iload_n hx hb dX12_goesOn_33 rfl (lv_at hl 2 rfl) ?_
                refine va_lald hx hb hK hP 2 1 rfl rfl (vp_in_nI (n := i) (N := 36) (by omega) (by omega)) dX12_goesOn_34 ?_
                refine ql_as (y := lN (20 ^ k)) ((show fO (nI i).toNatClampNeg = fO i from by rw [nI_clamp (by omega)]).trans (by rw [zO i (by omega), ind, if_pos hij])) ?_
                refine lv_lconst (v := 0) hx hb dX12_goesOn_35 (by decide) ?_
                refine W.lcmp hx hb dX12_goesOn_36 ?_
                refine lv_if_le (tgt := 75) hx hb dX12_goesOn_37 (by decide) (fun c_4 => absurd c_4 (fun q => pos20 (k := k) (by omega) ((lg_cmp_le _ _).mp q))) (fun c_4 => ?_)
                refine lv_aload_n hx hb dX12_goesOn_40 rfl (lv_at hl 0 rfl) ?_
                refine va_get (D := (dC, dI)) (ci := 14) (v := .ref aS) (C := RX12) (T := TX12) (N := 23) hx hb hts kc_goesOn_0 hown hK hP 0 rfl rfl 1 (by decide) (hts (.fieldLink RX12 9 "MistHeapsModel" "s" "[I") kc_goesOn_3) (fun _ h9 => h9) rfl dX12_goesOn_41 ?_
                refine lv_bipush (v := 37) hx hb dX12_goesOn_44 (by decide) ?_
                refine lv_iload_n hx hb dX12_goesOn_46 rfl (lv_at hl 2 rfl) ?_
                refine lv_iadd hx hb dX12_goesOn_47 ?_
                refine qi_as (y := nI (37 + i)) (nI_add 37 i) ?_
                refine va_iald hx hb hK hP 1 0 rfl rfl (vp_in_nI (n := 37 + i) (N := 901) (by omega) (by omega)) dX12_goesOn_48 ?_
                refine qi_as (y := 0) ((show s0 (nI (37 + i)).toNatClampNeg = s0 (37 + i) from by rw [nI_clamp (by omega)]).trans (s0_ne (by omega))) ?_
                refine lv_iconst (v := 1) hx hb dX12_goesOn_49 (by decide) ?_
                refine lv_icmp_ne (tgt := 75) hx hb dX12_goesOn_50 (by decide) (fun _ => ?_) (fun c_5 => absurd c_5 (by decide))
                refine lv_aload_n hx hb dX12_goesOn_75 rfl (lv_at hl 0 rfl) ?_
                refine va_get (D := (dC, dI)) (ci := 14) (v := .ref aO) (C := RX12) (T := TX12) (N := 23) hx hb hts kc_goesOn_0 hown hK hP 0 rfl rfl 14 (by decide) (hts (.fieldLink RX12 28 "MistHeapsModel" "often" "[J") kc_goesOn_1) (fun _ h9 => h9) rfl dX12_goesOn_76 ?_
                refine lv_iload_n hx hb dX12_goesOn_79 rfl (lv_at hl 2 rfl) ?_
                refine va_lald hx hb hK hP 2 1 rfl rfl (vp_in_nI (n := i) (N := 36) (by omega) (by omega)) dX12_goesOn_80 ?_
                refine ql_as (y := lN (20 ^ k)) ((show fO (nI i).toNatClampNeg = fO i from by rw [nI_clamp (by omega)]).trans (by rw [zO i (by omega), ind, if_pos hij])) ?_
                refine lv_lconst (v := 0) hx hb dX12_goesOn_81 (by decide) ?_
                refine W.lcmp hx hb dX12_goesOn_82 ?_
                refine lv_if_le (tgt := 175) hx hb dX12_goesOn_83 (by decide) (fun c_6 => absurd c_6 (fun q => pos20 (k := k) (by omega) ((lg_cmp_le _ _).mp q))) (fun c_6 => ?_)
                refine lv_aload_n hx hb dX12_goesOn_86 rfl (lv_at hl 0 rfl) ?_
                refine va_get (D := (dC, dI)) (ci := 14) (v := .ref aD) (C := RX12) (T := TX12) (N := 23) hx hb hts kc_goesOn_0 hown hK hP 0 rfl rfl 16 (by decide) (hts (.fieldLink RX12 35 "MistHeapsModel" "drifts" "[I") kc_goesOn_4) (fun _ h9 => h9) rfl dX12_goesOn_87 ?_
                refine lv_iload_n hx hb dX12_goesOn_90 rfl (lv_at hl 2 rfl) ?_
                refine va_iald hx hb hK hP 4 3 rfl rfl (vp_in_nI (n := i) (N := 36) (by omega) (by omega)) dX12_goesOn_91 ?_
                refine qi_as (y := 0) ((show fD (nI i).toNatClampNeg = fD i from by rw [nI_clamp (by omega)]).trans (zD i (by omega))) ?_
                refine lv_istore_n (lv' := [(3, .int 0), (0, .ref m0), (1, .int (nI w)), (2, .int (nI i))]) hx hb dX12_goesOn_92 rfl hl (by decide) rfl (fun ls hl => ?_)
                refine lv_aload_n hx hb dX12_goesOn_93 rfl (lv_at hl 1 rfl) ?_
                refine va_get (D := (dC, dI)) (ci := 14) (v := .ref aN) (C := RX12) (T := TX12) (N := 23) hx hb hts kc_goesOn_0 hown hK hP 0 rfl rfl 15 (by decide) (hts (.fieldLink RX12 32 "MistHeapsModel" "then" "[J") kc_goesOn_2) (fun _ h9 => h9) rfl dX12_goesOn_94 ?_
                refine lv_iload_n hx hb dX12_goesOn_97 rfl (lv_at hl 3 rfl) ?_
                refine lv_iload_n hx hb dX12_goesOn_98 rfl (lv_at hl 2 rfl) ?_
                refine vp_callSi (va_runS (As := [.int (nI i), .int (nI w)]) (rest := [.ref aN]) ⟨hx, hb, hml, hown, hts⟩ (c_nextTo l dC dI i (w) (by omega) (by omega)) (va_cwS 2 hts gX12_goesOn_X12_nextTo rfl rfl rfl (by decide +kernel) ⟨Nat.le_of_ble_eq_true rfl, Nat.le_of_ble_eq_true rfl⟩) ⟨fun a U g mk q => ⟨q.1, trivial⟩, fun U hU hW => ⟨rfl, trivial⟩⟩ rfl rfl hl.1 rfl (lv_room (Nat.le_of_ble_eq_true rfl)) dX12_goesOn_99 ⟨Nat.le_of_ble_eq_true rfl, Nat.le_of_ble_eq_true rfl⟩).run (fun r_7 hw_8 => ?_)
                refine qi_as (y := nI (nb i w)) (hw_8) ?_
                have hn_9 : nb i w < 36 := nb_lt (by omega) (by omega)
                refine lv_dup2_11 hx hb dX12_goesOn_102 rfl rfl ?_
                refine va_lald hx hb hK hP 3 2 rfl rfl (vp_in_nI (n := nb i w) (N := 36) (by omega) (by omega)) dX12_goesOn_103 ?_
                refine ql_as (y := 0) ((show t (nI (nb i w)).toNatClampNeg = t (nb i w) from by rw [nI_clamp (by omega)]).trans (by rw [ht _ (by omega), if_neg (by omega)])) ?_
                refine lv_bipush (v := 20) hx hb dX12_goesOn_104 (by decide) ?_
                refine lv_iconst (v := 2) hx hb dX12_goesOn_106 (by decide) ?_
                refine lv_iload_n hx hb dX12_goesOn_107 rfl (lv_at hl 0 rfl) ?_
                refine lv_imul hx hb dX12_goesOn_108 ?_
                refine qi_as (y := 0) (by decide) ?_
                refine lv_isub hx hb dX12_goesOn_109 ?_
                refine qi_as (y := 20) (by decide) ?_
                refine lv_i2l (v := 20) hx hb dX12_goesOn_110 (by decide) ?_
                refine lv_aload_n hx hb dX12_goesOn_111 rfl (lv_at hl 1 rfl) ?_
                refine va_get (D := (dC, dI)) (ci := 14) (v := .ref aO) (C := RX12) (T := TX12) (N := 23) hx hb hts kc_goesOn_0 hown hK hP 0 rfl rfl 14 (by decide) (hts (.fieldLink RX12 28 "MistHeapsModel" "often" "[J") kc_goesOn_1) (fun _ h9 => h9) rfl dX12_goesOn_112 ?_
                refine lv_iload_n hx hb dX12_goesOn_115 rfl (lv_at hl 3 rfl) ?_
                refine va_lald hx hb hK hP 2 1 rfl rfl (vp_in_nI (n := i) (N := 36) (by omega) (by omega)) dX12_goesOn_116 ?_
                refine ql_as (y := lN (20 ^ k)) ((show fO (nI i).toNatClampNeg = fO i from by rw [nI_clamp (by omega)]).trans (by rw [zO i (by omega), ind, if_pos hij])) ?_
                refine lv_lmul hx hb dX12_goesOn_117 ?_
                refine ql_as (y := lN (20 ^ (k + 1))) (mul20 k) ?_
                refine lv_ladd hx hb dX12_goesOn_118 ?_
                refine ql_as (y := lN (20 ^ (k + 1))) (Int64.zero_add _) ?_
                refine va_last hx hb hK hP hD hS 3 2 rfl rfl (vp_in_nI (n := nb i w) (N := 36) (by omega) (by omega)) dX12_goesOn_119 (fun H locs hP hD hS => ?_)
                rw [nI_clamp (n := nb i w) (by omega)] at hP hD
                have hP : va_P (dC, dI) vwCl [(m0, .inr (14, [.int 0, .ref aS, .ref aI, .int 0, .int 0, .int 0, .int 0, .int 0, .int 0, .ref aB, .ref aT, .int 0, .int 0, .ref aG, .ref aO, .ref aN, .ref aD, .long bv, .ref aY, .int 0, .int 0, .int 0, .int 0])), (aS, .inl (cS, 901, .inl s0)), (aO, .inl (cO, 36, .inr (.inl fO))), (aN, .inl (cN, 36, .inr (.inl (vp_updL t (nb i w) (lN (20 ^ (k + 1))))))), (aD, .inl (cD, 36, .inl fD))] H := hP
                have hD : va_D A [(m0, .inr (14, [.int 0, .ref aS, .ref aI, .int 0, .int 0, .int 0, .int 0, .int 0, .int 0, .ref aB, .ref aT, .int 0, .int 0, .ref aG, .ref aO, .ref aN, .ref aD, .long bv, .ref aY, .int 0, .int 0, .int 0, .int 0])), (aS, .inl (cS, 901, .inl s0)), (aO, .inl (cO, 36, .inr (.inl fO))), (aN, .inl (cN, 36, .inr (.inl (vp_updL t (nb i w) (lN (20 ^ (k + 1))))))), (aD, .inl (cD, 36, .inl fD))] := hD
                refine lv_aload_n hx hb dX12_goesOn_120 rfl (lv_at hl 1 rfl) ?_
                refine va_get (D := (dC, dI)) (ci := 14) (v := .ref aN) (C := RX12) (T := TX12) (N := 23) hx hb hts kc_goesOn_0 hown hK hP 0 rfl rfl 15 (by decide) (hts (.fieldLink RX12 32 "MistHeapsModel" "then" "[J") kc_goesOn_2) (fun _ h9 => h9) rfl dX12_goesOn_121 ?_
                refine lv_iload_n hx hb dX12_goesOn_124 rfl (lv_at hl 3 rfl) ?_
                refine lv_iload_n hx hb dX12_goesOn_125 rfl (lv_at hl 2 rfl) ?_
                refine lv_bipush (v := 7) hx hb dX12_goesOn_126 (by decide) ?_
                refine lv_iadd hx hb dX12_goesOn_128 ?_
                refine qi_as (y := nI (w + 7)) (nI_add w 7) ?_
                refine lv_bipush (v := 8) hx hb dX12_goesOn_129 (by decide) ?_
                refine lv_irem hx hb dX12_goesOn_131 (by decide) ?_
                refine qi_as (y := nI ((w + 7) % 8)) (pk_rem (a := w + 7) (d := 8) (by omega) (by omega) (by omega)) ?_
                refine vp_callSi (va_runS (As := [.int (nI i), .int (nI ((w + 7) % 8))]) (rest := [.ref aN]) ⟨hx, hb, hml, hown, hts⟩ (c_nextTo l dC dI i ((w + 7) % 8) (by omega) (by omega)) (va_cwS 2 hts gX12_goesOn_X12_nextTo rfl rfl rfl (by decide +kernel) ⟨Nat.le_of_ble_eq_true rfl, Nat.le_of_ble_eq_true rfl⟩) ⟨fun a U g mk q => ⟨q.1, trivial⟩, fun U hU hW => ⟨rfl, trivial⟩⟩ rfl rfl hl.1 rfl (lv_room (Nat.le_of_ble_eq_true rfl)) dX12_goesOn_132 ⟨Nat.le_of_ble_eq_true rfl, Nat.le_of_ble_eq_true rfl⟩).run (fun r_10 hw_11 => ?_)
                refine qi_as (y := nI (nb i ((w + 7) % 8))) (hw_11) ?_
                have hn_12 : nb i ((w + 7) % 8) < 36 := nb_lt (by omega) (by omega)
                refine lv_dup2_11 hx hb dX12_goesOn_135 rfl rfl ?_
                refine va_lald hx hb hK hP 3 2 rfl rfl (vp_in_nI (n := nb i ((w + 7) % 8)) (N := 36) (by omega) (by omega)) dX12_goesOn_136 ?_
                refine ql_as (y := (vp_updL t (nb i w) (lN (20 ^ (k + 1)))) (nb i ((w + 7) % 8))) (by rw [nI_clamp (by omega)]) ?_
                refine lv_iload_n hx hb dX12_goesOn_137 rfl (lv_at hl 0 rfl) ?_
                refine lv_i2l (v := 0) hx hb dX12_goesOn_138 (by decide) ?_
                refine lv_aload_n hx hb dX12_goesOn_139 rfl (lv_at hl 1 rfl) ?_
                refine va_get (D := (dC, dI)) (ci := 14) (v := .ref aO) (C := RX12) (T := TX12) (N := 23) hx hb hts kc_goesOn_0 hown hK hP 0 rfl rfl 14 (by decide) (hts (.fieldLink RX12 28 "MistHeapsModel" "often" "[J") kc_goesOn_1) (fun _ h9 => h9) rfl dX12_goesOn_140 ?_
                refine lv_iload_n hx hb dX12_goesOn_143 rfl (lv_at hl 3 rfl) ?_
                refine va_lald hx hb hK hP 2 1 rfl rfl (vp_in_nI (n := i) (N := 36) (by omega) (by omega)) dX12_goesOn_144 ?_
                refine ql_as (y := lN (20 ^ k)) ((show fO (nI i).toNatClampNeg = fO i from by rw [nI_clamp (by omega)]).trans (by rw [zO i (by omega), ind, if_pos hij])) ?_
                refine lv_lmul hx hb dX12_goesOn_145 ?_
                refine ql_as (y := 0) (Int64.zero_mul) ?_
                refine lv_ladd hx hb dX12_goesOn_146 ?_
                refine ql_as (y := ((vp_updL t (nb i w) (lN (20 ^ (k + 1)))) (nb i ((w + 7) % 8)))) (Int64.add_zero _) ?_
                refine va_last hx hb hK hP hD hS 3 2 rfl rfl (vp_in_nI (n := nb i ((w + 7) % 8)) (N := 36) (by omega) (by omega)) dX12_goesOn_147 (fun H locs hP hD hS => ?_)
                rw [nI_clamp (n := nb i ((w + 7) % 8)) (by omega)] at hP hD
                have hP : va_P (dC, dI) vwCl [(m0, .inr (14, [.int 0, .ref aS, .ref aI, .int 0, .int 0, .int 0, .int 0, .int 0, .int 0, .ref aB, .ref aT, .int 0, .int 0, .ref aG, .ref aO, .ref aN, .ref aD, .long bv, .ref aY, .int 0, .int 0, .int 0, .int 0])), (aS, .inl (cS, 901, .inl s0)), (aO, .inl (cO, 36, .inr (.inl fO))), (aN, .inl (cN, 36, .inr (.inl (vp_updL (vp_updL t (nb i w) (lN (20 ^ (k + 1)))) (nb i ((w + 7) % 8)) ((vp_updL t (nb i w) (lN (20 ^ (k + 1)))) (nb i ((w + 7) % 8))))))), (aD, .inl (cD, 36, .inl fD))] H := hP
                have hD : va_D A [(m0, .inr (14, [.int 0, .ref aS, .ref aI, .int 0, .int 0, .int 0, .int 0, .int 0, .int 0, .ref aB, .ref aT, .int 0, .int 0, .ref aG, .ref aO, .ref aN, .ref aD, .long bv, .ref aY, .int 0, .int 0, .int 0, .int 0])), (aS, .inl (cS, 901, .inl s0)), (aO, .inl (cO, 36, .inr (.inl fO))), (aN, .inl (cN, 36, .inr (.inl (vp_updL (vp_updL t (nb i w) (lN (20 ^ (k + 1)))) (nb i ((w + 7) % 8)) ((vp_updL t (nb i w) (lN (20 ^ (k + 1)))) (nb i ((w + 7) % 8))))))), (aD, .inl (cD, 36, .inl fD))] := hD
                rw [show vp_updL (vp_updL t (nb i w) (lN (20 ^ (k + 1)))) (nb i ((w + 7) % 8)) ((vp_updL t (nb i w) (lN (20 ^ (k + 1)))) (nb i ((w + 7) % 8))) = vp_updL t (nb i w) (lN (20 ^ (k + 1))) from updL_self _ _] at hP hD
                have hP : va_P (dC, dI) vwCl [(m0, .inr (14, [.int 0, .ref aS, .ref aI, .int 0, .int 0, .int 0, .int 0, .int 0, .int 0, .ref aB, .ref aT, .int 0, .int 0, .ref aG, .ref aO, .ref aN, .ref aD, .long bv, .ref aY, .int 0, .int 0, .int 0, .int 0])), (aS, .inl (cS, 901, .inl s0)), (aO, .inl (cO, 36, .inr (.inl fO))), (aN, .inl (cN, 36, .inr (.inl (vp_updL t (nb i w) (lN (20 ^ (k + 1))))))), (aD, .inl (cD, 36, .inl fD))] H := hP
                have hD : va_D A [(m0, .inr (14, [.int 0, .ref aS, .ref aI, .int 0, .int 0, .int 0, .int 0, .int 0, .int 0, .ref aB, .ref aT, .int 0, .int 0, .ref aG, .ref aO, .ref aN, .ref aD, .long bv, .ref aY, .int 0, .int 0, .int 0, .int 0])), (aS, .inl (cS, 901, .inl s0)), (aO, .inl (cO, 36, .inr (.inl fO))), (aN, .inl (cN, 36, .inr (.inl (vp_updL t (nb i w) (lN (20 ^ (k + 1))))))), (aD, .inl (cD, 36, .inl fD))] := hD
                refine lv_aload_n hx hb dX12_goesOn_148 rfl (lv_at hl 1 rfl) ?_
                refine va_get (D := (dC, dI)) (ci := 14) (v := .ref aN) (C := RX12) (T := TX12) (N := 23) hx hb hts kc_goesOn_0 hown hK hP 0 rfl rfl 15 (by decide) (hts (.fieldLink RX12 32 "MistHeapsModel" "then" "[J") kc_goesOn_2) (fun _ h9 => h9) rfl dX12_goesOn_149 ?_
                refine lv_iload_n hx hb dX12_goesOn_152 rfl (lv_at hl 3 rfl) ?_
                refine lv_iload_n hx hb dX12_goesOn_153 rfl (lv_at hl 2 rfl) ?_
                refine lv_iconst (v := 1) hx hb dX12_goesOn_154 (by decide) ?_
                refine lv_iadd hx hb dX12_goesOn_155 ?_
                refine qi_as (y := nI (w + 1)) (nI_add w 1) ?_
                refine lv_bipush (v := 8) hx hb dX12_goesOn_156 (by decide) ?_
                refine lv_irem hx hb dX12_goesOn_158 (by decide) ?_
                refine qi_as (y := nI ((w + 1) % 8)) (pk_rem (a := w + 1) (d := 8) (by omega) (by omega) (by omega)) ?_
                refine vp_callSi (va_runS (As := [.int (nI i), .int (nI ((w + 1) % 8))]) (rest := [.ref aN]) ⟨hx, hb, hml, hown, hts⟩ (c_nextTo l dC dI i ((w + 1) % 8) (by omega) (by omega)) (va_cwS 2 hts gX12_goesOn_X12_nextTo rfl rfl rfl (by decide +kernel) ⟨Nat.le_of_ble_eq_true rfl, Nat.le_of_ble_eq_true rfl⟩) ⟨fun a U g mk q => ⟨q.1, trivial⟩, fun U hU hW => ⟨rfl, trivial⟩⟩ rfl rfl hl.1 rfl (lv_room (Nat.le_of_ble_eq_true rfl)) dX12_goesOn_159 ⟨Nat.le_of_ble_eq_true rfl, Nat.le_of_ble_eq_true rfl⟩).run (fun r_13 hw_14 => ?_)
                refine qi_as (y := nI (nb i ((w + 1) % 8))) (hw_14) ?_
                have hn_15 : nb i ((w + 1) % 8) < 36 := nb_lt (by omega) (by omega)
                refine lv_dup2_11 hx hb dX12_goesOn_162 rfl rfl ?_
                refine va_lald hx hb hK hP 3 2 rfl rfl (vp_in_nI (n := nb i ((w + 1) % 8)) (N := 36) (by omega) (by omega)) dX12_goesOn_163 ?_
                refine ql_as (y := (vp_updL t (nb i w) (lN (20 ^ (k + 1)))) (nb i ((w + 1) % 8))) (by rw [nI_clamp (by omega)]) ?_
                refine lv_iload_n hx hb dX12_goesOn_164 rfl (lv_at hl 0 rfl) ?_
                refine lv_i2l (v := 0) hx hb dX12_goesOn_165 (by decide) ?_
                refine lv_aload_n hx hb dX12_goesOn_166 rfl (lv_at hl 1 rfl) ?_
                refine va_get (D := (dC, dI)) (ci := 14) (v := .ref aO) (C := RX12) (T := TX12) (N := 23) hx hb hts kc_goesOn_0 hown hK hP 0 rfl rfl 14 (by decide) (hts (.fieldLink RX12 28 "MistHeapsModel" "often" "[J") kc_goesOn_1) (fun _ h9 => h9) rfl dX12_goesOn_167 ?_
                refine lv_iload_n hx hb dX12_goesOn_170 rfl (lv_at hl 3 rfl) ?_
                refine va_lald hx hb hK hP 2 1 rfl rfl (vp_in_nI (n := i) (N := 36) (by omega) (by omega)) dX12_goesOn_171 ?_
                refine ql_as (y := lN (20 ^ k)) ((show fO (nI i).toNatClampNeg = fO i from by rw [nI_clamp (by omega)]).trans (by rw [zO i (by omega), ind, if_pos hij])) ?_
                refine lv_lmul hx hb dX12_goesOn_172 ?_
                refine ql_as (y := 0) (Int64.zero_mul) ?_
                refine lv_ladd hx hb dX12_goesOn_173 ?_
                refine ql_as (y := ((vp_updL t (nb i w) (lN (20 ^ (k + 1)))) (nb i ((w + 1) % 8)))) (Int64.add_zero _) ?_
                refine va_last hx hb hK hP hD hS 3 2 rfl rfl (vp_in_nI (n := nb i ((w + 1) % 8)) (N := 36) (by omega) (by omega)) dX12_goesOn_174 (fun H locs hP hD hS => ?_)
                rw [nI_clamp (n := nb i ((w + 1) % 8)) (by omega)] at hP hD
                have hP : va_P (dC, dI) vwCl [(m0, .inr (14, [.int 0, .ref aS, .ref aI, .int 0, .int 0, .int 0, .int 0, .int 0, .int 0, .ref aB, .ref aT, .int 0, .int 0, .ref aG, .ref aO, .ref aN, .ref aD, .long bv, .ref aY, .int 0, .int 0, .int 0, .int 0])), (aS, .inl (cS, 901, .inl s0)), (aO, .inl (cO, 36, .inr (.inl fO))), (aN, .inl (cN, 36, .inr (.inl (vp_updL (vp_updL t (nb i w) (lN (20 ^ (k + 1)))) (nb i ((w + 1) % 8)) ((vp_updL t (nb i w) (lN (20 ^ (k + 1)))) (nb i ((w + 1) % 8))))))), (aD, .inl (cD, 36, .inl fD))] H := hP
                have hD : va_D A [(m0, .inr (14, [.int 0, .ref aS, .ref aI, .int 0, .int 0, .int 0, .int 0, .int 0, .int 0, .ref aB, .ref aT, .int 0, .int 0, .ref aG, .ref aO, .ref aN, .ref aD, .long bv, .ref aY, .int 0, .int 0, .int 0, .int 0])), (aS, .inl (cS, 901, .inl s0)), (aO, .inl (cO, 36, .inr (.inl fO))), (aN, .inl (cN, 36, .inr (.inl (vp_updL (vp_updL t (nb i w) (lN (20 ^ (k + 1)))) (nb i ((w + 1) % 8)) ((vp_updL t (nb i w) (lN (20 ^ (k + 1)))) (nb i ((w + 1) % 8))))))), (aD, .inl (cD, 36, .inl fD))] := hD
                rw [show vp_updL (vp_updL t (nb i w) (lN (20 ^ (k + 1)))) (nb i ((w + 1) % 8)) ((vp_updL t (nb i w) (lN (20 ^ (k + 1)))) (nb i ((w + 1) % 8))) = vp_updL t (nb i w) (lN (20 ^ (k + 1))) from updL_self _ _] at hP hD
                have hP : va_P (dC, dI) vwCl [(m0, .inr (14, [.int 0, .ref aS, .ref aI, .int 0, .int 0, .int 0, .int 0, .int 0, .int 0, .ref aB, .ref aT, .int 0, .int 0, .ref aG, .ref aO, .ref aN, .ref aD, .long bv, .ref aY, .int 0, .int 0, .int 0, .int 0])), (aS, .inl (cS, 901, .inl s0)), (aO, .inl (cO, 36, .inr (.inl fO))), (aN, .inl (cN, 36, .inr (.inl (vp_updL t (nb i w) (lN (20 ^ (k + 1))))))), (aD, .inl (cD, 36, .inl fD))] H := hP
                have hD : va_D A [(m0, .inr (14, [.int 0, .ref aS, .ref aI, .int 0, .int 0, .int 0, .int 0, .int 0, .int 0, .ref aB, .ref aT, .int 0, .int 0, .ref aG, .ref aO, .ref aN, .ref aD, .long bv, .ref aY, .int 0, .int 0, .int 0, .int 0])), (aS, .inl (cS, 901, .inl s0)), (aO, .inl (cO, 36, .inr (.inl fO))), (aN, .inl (cN, 36, .inr (.inl (vp_updL t (nb i w) (lN (20 ^ (k + 1))))))), (aD, .inl (cD, 36, .inl fD))] := hD
                refine lv_iinc (v := nI (i + 1)) (lv' := [(2, .int (nI (i + 1))), (3, .int 0), (0, .ref m0), (1, .int (nI w))]) hx hb dX12_goesOn_175 hl (k := 3) rfl (nI_add i 1) (by decide) rfl (fun ls hl => ?_)
                refine lv_goto (tgt := 23) hx hb dX12_goesOn_178 (by decide) ?_
                exact ih23 _ _ (by omega) (by omega) (go_put hij ht) _ _ (hK.sub [0, 1, 2, 3] rfl) (hP.sub [0, 1, 2, 3, 4] rfl) (hD.sub [0, 1, 2, 3, 4] (by decide) rfl) hS ls (lv_sub hl [2, 3, 0] rfl)
              · skip
                refine lv_aload_n hx hb dX12_goesOn_29 rfl (lv_at hl 0 rfl) ?_
                refine va_get (D := (dC, dI)) (ci := 14) (v := .ref aO) (C := RX12) (T := TX12) (N := 23) hx hb hts kc_goesOn_0 hown hK hP 0 rfl rfl 14 (by decide) (hts (.fieldLink RX12 28 "MistHeapsModel" "often" "[J") kc_goesOn_1) (fun _ h9 => h9) rfl dX12_goesOn_30 ?_
                refine lv_iload_n hx hb dX12_goesOn_33 rfl (lv_at hl 2 rfl) ?_
                refine va_lald hx hb hK hP 2 1 rfl rfl (vp_in_nI (n := i) (N := 36) (by omega) (by omega)) dX12_goesOn_34 ?_
                refine ql_as (y := 0) ((show fO (nI i).toNatClampNeg = fO i from by rw [nI_clamp (by omega)]).trans (by rw [zO i (by omega), ind, if_neg hij])) ?_
                refine lv_lconst (v := 0) hx hb dX12_goesOn_35 (by decide) ?_
                refine W.lcmp hx hb dX12_goesOn_36 ?_
                refine qi_as (y := 0) (by decide) ?_
                refine lv_if_le (tgt := 75) hx hb dX12_goesOn_37 (by decide) (fun _ => ?_) (fun c_16 => absurd c_16 (by decide))
                refine lv_aload_n hx hb dX12_goesOn_75 rfl (lv_at hl 0 rfl) ?_
                refine va_get (D := (dC, dI)) (ci := 14) (v := .ref aO) (C := RX12) (T := TX12) (N := 23) hx hb hts kc_goesOn_0 hown hK hP 0 rfl rfl 14 (by decide) (hts (.fieldLink RX12 28 "MistHeapsModel" "often" "[J") kc_goesOn_1) (fun _ h9 => h9) rfl dX12_goesOn_76 ?_
                refine lv_iload_n hx hb dX12_goesOn_79 rfl (lv_at hl 2 rfl) ?_
                refine va_lald hx hb hK hP 2 1 rfl rfl (vp_in_nI (n := i) (N := 36) (by omega) (by omega)) dX12_goesOn_80 ?_
                refine ql_as (y := 0) ((show fO (nI i).toNatClampNeg = fO i from by rw [nI_clamp (by omega)]).trans (by rw [zO i (by omega), ind, if_neg hij])) ?_
                refine lv_lconst (v := 0) hx hb dX12_goesOn_81 (by decide) ?_
                refine W.lcmp hx hb dX12_goesOn_82 ?_
                refine qi_as (y := 0) (by decide) ?_
                refine lv_if_le (tgt := 175) hx hb dX12_goesOn_83 (by decide) (fun _ => ?_) (fun c_17 => absurd c_17 (by decide))
                refine lv_iinc (v := nI (i + 1)) (lv' := [(2, .int (nI (i + 1))), (0, .ref m0), (1, .int (nI w))]) hx hb dX12_goesOn_175 hl (k := 2) rfl (nI_add i 1) (by decide) rfl (fun ls hl => ?_)
                refine lv_goto (tgt := 23) hx hb dX12_goesOn_178 (by decide) ?_
                exact ih23 _ _ (by omega) (by omega) (go_skip hij ht) _ _ (hK.sub [0, 1, 2, 3] rfl) (hP.sub [0, 1, 2, 3, 4] rfl) (hD.sub [0, 1, 2, 3, 4] (by decide) rfl) hS ls (lv_sub hl [1, 2, 0] rfl)
        exact L23 _ (0) _ (Nat.lt_succ_self _) (by omega) (fun x hx => by rw [if_neg (Nat.not_lt_zero j)]; exact ht x (by omega)) _ _ (hK.sub [0, 1, 2, 3] rfl) (hP.sub [0, 1, 2, 3, 4] rfl) (hD.sub [0, 1, 2, 3, 4] (by decide) rfl) hS ls (lv_sub hl [1, 2, 0] rfl)
      · skip
        have c_1 : ¬ 36 ≤ i := fun q => c_1 ((nI_leI (a := 36) (b := i) (by omega) (by omega)).mpr q)
        refine lv_aload_n hx hb dX12_goesOn_8 rfl (lv_at hl 0 rfl) ?_
        refine va_get (D := (dC, dI)) (ci := 14) (v := .ref aN) (C := RX12) (T := TX12) (N := 23) hx hb hts kc_goesOn_0 hown hK hP 0 rfl rfl 15 (by decide) (hts (.fieldLink RX12 32 "MistHeapsModel" "then" "[J") kc_goesOn_2) (fun _ h9 => h9) rfl dX12_goesOn_9 ?_
        refine lv_iload_n hx hb dX12_goesOn_12 rfl (lv_at hl 2 rfl) ?_
        refine lv_lconst (v := 0) hx hb dX12_goesOn_13 (by decide) ?_
        refine va_last hx hb hK hP hD hS 3 2 rfl rfl (vp_in_nI (n := i) (N := 36) (by omega) (by omega)) dX12_goesOn_14 (fun H locs hP hD hS => ?_)
        rw [nI_clamp (n := i) (by omega)] at hP hD
        have hP : va_P (dC, dI) vwCl [(m0, .inr (14, [.int 0, .ref aS, .ref aI, .int 0, .int 0, .int 0, .int 0, .int 0, .int 0, .ref aB, .ref aT, .int 0, .int 0, .ref aG, .ref aO, .ref aN, .ref aD, .long bv, .ref aY, .int 0, .int 0, .int 0, .int 0])), (aS, .inl (cS, 901, .inl s0)), (aO, .inl (cO, 36, .inr (.inl fO))), (aN, .inl (cN, 36, .inr (.inl (vp_updL t i 0)))), (aD, .inl (cD, 36, .inl fD))] H := hP
        have hD : va_D A [(m0, .inr (14, [.int 0, .ref aS, .ref aI, .int 0, .int 0, .int 0, .int 0, .int 0, .int 0, .ref aB, .ref aT, .int 0, .int 0, .ref aG, .ref aO, .ref aN, .ref aD, .long bv, .ref aY, .int 0, .int 0, .int 0, .int 0])), (aS, .inl (cS, 901, .inl s0)), (aO, .inl (cO, 36, .inr (.inl fO))), (aN, .inl (cN, 36, .inr (.inl (vp_updL t i 0)))), (aD, .inl (cD, 36, .inl fD))] := hD
        refine lv_iinc (v := nI (i + 1)) (lv' := [(2, .int (nI (i + 1))), (0, .ref m0), (1, .int (nI w))]) hx hb dX12_goesOn_15 hl (k := 2) rfl (nI_add i 1) (by decide) rfl (fun ls hl => ?_)
        refine lv_goto (tgt := 2) hx hb dX12_goesOn_18 (by decide) ?_
        exact ih2 _ _ (by omega) (by omega) (updL_fill (v := fun _ => 0) ht rfl) _ _ (hK.sub [0, 1, 2, 3] rfl) (hP.sub [0, 1, 2, 3, 4] rfl) (hD.sub [0, 1, 2, 3, 4] (by decide) rfl) hS ls (lv_sub hl [1, 2, 0] rfl)
  exact L2 _ (0) _ (Nat.lt_succ_self _) (by omega) (fun x h => absurd h (Nat.not_lt_zero x)) _ _ (hK.sub [0, 1, 2, 3] rfl) (hP.sub [0, 1, 2, 3, 4] rfl) (hD.sub [0, 1, 2, 3, 4] (by decide) rfl) hS ls (lv_sub hl [1, 2, 0] rfl)

theorem kc_over0_0 : ∀ w ∈ wsX120, w ∈ wsX12_over := by decide +kernel
theorem kc_over0_1 : (.fieldLink RX12 9 "MistHeapsModel" "s" "[I" : Cond) ∈ wsX12_over := by decide +kernel
set_option maxHeartbeats 4000000 in
set_option maxRecDepth 100000 in
theorem c_over0 (l : Launch) (dC : Nat → ClassId) (dI : Nat → Nat → Nat) (m0 aS aI aB aT aG aO aN aD aY : Nat) (bv : Int64) (cS cO : ClassId) (fO : Nat → Int64) : Met l yX12_over wsX12_over ({ frames := 0, cells := 0, slots := 0, locals := 0 } : Room) (va_Pc [.ref m0] (fun U => va_P (dC, dI) vwCl [(m0, .inr (14, [.int 0, .ref aS, .ref aI, .int 0, .int 0, .int 0, .int 0, .int 0, .int 0, .ref aB, .ref aT, .int 0, .int 0, .ref aG, .ref aO, .ref aN, .ref aD, .long bv, .ref aY, .int 0, .int 0, .int 0, .int 0])), (aS, .inl (cS, 901, .inl s0)), (aO, .inl (cO, 36, .inr (.inl fO)))] U.heap ∧ va_K (dC, dI) vwCl [(cS, .int), (cO, .long)] U)) (vp_Sl (fun r => r = 0)) 0 0 (fun _ => False) := by
  refine met_ofQ (cc := cX12_over) (maxL := 4) (ret := (some .long)) (by decide) rfl ?_
  intro p e s m args below meth c s₁ Q B hml hv hQ
  obtain ⟨rfl, hP, hK⟩ := hv
  have hx := B.exec
  have hb := B.bytes
  have hr := B.returns
  have hts := atoms_spec (ws := wsX12_over) B.pre
  have hown : s.vm.findClass RX12 = some m.cls := findClass_of_methodNamed B.named
  have hlocks := B.notSynchronized
  obtain ⟨A, hAe⟩ : ∃ A : Nat → Prop, A = fun _ => False := ⟨_, rfl⟩
  rw [← hAe] at hQ
  have hS : va_S A s.heap s.heap [] := va_S.rf
  have hl := lv_entry [.ref m0] (n := 4) (Nat.le_of_ble_eq_true rfl)
  rw [lg_entry_eq]
  generalize (lg_sl [.ref m0] ++ List.replicate (4 - (lg_sl [.ref m0]).length) Slot.unset).toArray = ls at hl ⊢
  generalize hag : ([.ref m0] : List Value).toArray = args at hts hQ ⊢
  have hl : lv_has ls 4 [(0, .ref m0)] := hl
  refine lv_lconst (v := 0) hx hb dX12_over_0 (by decide) ?_
  refine lv_lstore_n (lv' := [(1, .long 0), (0, .ref m0)]) hx hb dX12_over_1 rfl hl (by decide) rfl (fun ls hl => ?_)
  refine lv_iconst (v := 0) hx hb dX12_over_2 (by decide) ?_
  refine lv_istore_n (lv' := [(3, .int 0), (1, .long 0), (0, .ref m0)]) hx hb dX12_over_3 rfl hl (by decide) rfl (fun ls hl => ?_)
  have L4 : ∀ (nF : Nat) (i : Nat), 36 - i < nF → (i ≤ 36) → ∀ (ls : Array Slot), lv_has ls 4 [(0, .ref m0), (1, .long 0), (3, .int (nI i))] → W p l e ({ frames := 0, cells := 0, slots := 0, locals := 0 } : Room) s m args below meth c s.heap [] 0 0 Q (F0 m 4 ls []) := by
    intro nF
    induction nF with
    | zero => intro i hm; exact absurd hm (Nat.not_lt_zero _)
    | succ nF ih4 =>
      intro i hm hi ls hl
      refine lv_iload_n hx hb dX12_over_4 rfl (lv_at hl 2 rfl) ?_
      refine lv_bipush (v := 36) hx hb dX12_over_5 (by decide) ?_
      refine lv_icmp_ge (tgt := 42) hx hb dX12_over_7 (by decide) (fun c_1 => ?_) (fun c_1 => ?_)
      · skip
        have c_1 : 36 ≤ i := (nI_leI (a := 36) (b := i) (by omega) (by omega)).mp c_1
        refine lv_lload_n hx hb dX12_over_42 rfl (lv_at hl 1 rfl) ?_
        rw [hQ]
        exact W.lret (v := 0) hx hb hr (fun tQ htQ hWQ => ⟨0, rfl, rfl, by rw [htQ]⟩) (fun q hq => absurd hq List.not_mem_nil) dX12_over_43
      · skip
        have c_1 : ¬ 36 ≤ i := fun q => c_1 ((nI_leI (a := 36) (b := i) (by omega) (by omega)).mpr q)
        refine lv_lload_n hx hb dX12_over_10 rfl (lv_at hl 1 rfl) ?_
        refine lv_aload_n hx hb dX12_over_11 rfl (lv_at hl 0 rfl) ?_
        refine va_get (D := (dC, dI)) (ci := 14) (v := .ref aS) (C := RX12) (T := TX12) (N := 23) hx hb hts kc_over0_0 hown hK hP 0 rfl rfl 1 (by decide) (hts (.fieldLink RX12 9 "MistHeapsModel" "s" "[I") kc_over0_1) (fun _ h9 => h9) rfl dX12_over_12 ?_
        refine lv_bipush (v := 37) hx hb dX12_over_15 (by decide) ?_
        refine lv_iload_n hx hb dX12_over_17 rfl (lv_at hl 2 rfl) ?_
        refine lv_iadd hx hb dX12_over_18 ?_
        refine qi_as (y := nI (37 + i)) (nI_add 37 i) ?_
        refine va_iald hx hb hK hP 1 0 rfl rfl (vp_in_nI (n := 37 + i) (N := 901) (by omega) (by omega)) dX12_over_19 ?_
        refine qi_as (y := 0) ((show s0 (nI (37 + i)).toNatClampNeg = s0 (37 + i) from by rw [nI_clamp (by omega)]).trans (s0_ne (by omega))) ?_
        refine lv_iconst (v := 1) hx hb dX12_over_20 (by decide) ?_
        refine lv_icmp_ne (tgt := 33) hx hb dX12_over_21 (by decide) (fun _ => ?_) (fun c_2 => absurd c_2 (by decide))
        refine lv_lconst (v := 0) hx hb dX12_over_33 (by decide) ?_
        refine lv_ladd hx hb dX12_over_34 ?_
        refine ql_as (y := 0) (by decide) ?_
        refine lv_lstore_n (lv' := [(1, .long 0), (0, .ref m0), (3, .int (nI i))]) hx hb dX12_over_35 rfl hl (by decide) rfl (fun ls hl => ?_)
        refine lv_iinc (v := nI (i + 1)) (lv' := [(3, .int (nI (i + 1))), (1, .long 0), (0, .ref m0)]) hx hb dX12_over_36 hl (k := 2) rfl (nI_add i 1) (by decide) rfl (fun ls hl => ?_)
        refine lv_goto (tgt := 4) hx hb dX12_over_39 (by decide) ?_
        exact ih4 _ (by omega) (by omega) ls (lv_sub hl [2, 1, 0] rfl)
  exact L4 _ (0) (Nat.lt_succ_self _) (by omega) ls (lv_sub hl [2, 1, 0] rfl)

set_option maxHeartbeats 4000000 in
set_option maxRecDepth 100000 in
theorem c_lowest (l : Launch) (dC : Nat → ClassId) (dI : Nat → Nat → Nat) (a b : Nat) (x : Int32) (za : a < 2 ^ 62) (zb : b < 2 ^ 62) (z0 : 0 < b) (zd : a % b = 0) : Met l yX12_lowest wsX12_lowest ({ frames := 0, cells := 0, slots := 0, locals := 0 } : Room) (va_Pc [.long (lN a), .long (lN b), .int x] (fun U => True)) (vp_Sl (fun r => r = if x = 0 then lN (a / b) else 1)) 0 0 (fun _ => False) := by
  refine met_ofQ (cc := cX12_lowest) (maxL := 11) (ret := (some .long)) (by decide) rfl ?_
  intro p e s m args below meth c s₁ Q B hml hv hQ
  obtain ⟨rfl, -⟩ := hv
  have hx := B.exec
  have hb := B.bytes
  have hr := B.returns
  have hts := atoms_spec (ws := wsX12_lowest) B.pre
  have hown : s.vm.findClass RX12 = some m.cls := findClass_of_methodNamed B.named
  have hlocks := B.notSynchronized
  obtain ⟨A, hAe⟩ : ∃ A : Nat → Prop, A = fun _ => False := ⟨_, rfl⟩
  rw [← hAe] at hQ
  have hS : va_S A s.heap s.heap [] := va_S.rf
  have hl := lv_entry [.long (lN a), .long (lN b), .int x] (n := 11) (Nat.le_of_ble_eq_true rfl)
  rw [lg_entry_eq]
  generalize (lg_sl [.long (lN a), .long (lN b), .int x] ++ List.replicate (11 - (lg_sl [.long (lN a), .long (lN b), .int x]).length) Slot.unset).toArray = ls at hl ⊢
  generalize hag : ([.long (lN a), .long (lN b), .int x] : List Value).toArray = args at hts hQ ⊢
  have hl : lv_has ls 11 [(0, .long (lN a)), (2, .long (lN b)), (4, .int x)] := hl
  refine lv_lload_n hx hb dX12_lowest_0 rfl (lv_at hl 0 rfl) ?_
  refine lv_lstore (lv' := [(5, .long (lN a)), (0, .long (lN a)), (2, .long (lN b)), (4, .int x)]) hx hb dX12_lowest_1 hl (by decide) rfl (fun ls hl => ?_)
  refine lv_lload_n hx hb dX12_lowest_3 rfl (lv_at hl 2 rfl) ?_
  refine lv_lstore (lv' := [(7, .long (lN b)), (5, .long (lN a)), (0, .long (lN a)), (2, .long (lN b)), (4, .int x)]) hx hb dX12_lowest_4 hl (by decide) rfl (fun ls hl => ?_)
  refine lv_lload hx hb dX12_lowest_6 (lv_at hl 0 rfl) ?_
  refine lv_lconst (v := 0) hx hb dX12_lowest_8 (by decide) ?_
  refine W.lcmp hx hb dX12_lowest_9 ?_
  refine lv_if_eq (tgt := 31) hx hb dX12_lowest_10 (by decide) (fun c_1 => absurd c_1 (fun q => (lz zb z0) ((lg_cmp_eq _ _).mp q))) (fun c_1 => ?_)
  refine lv_lload hx hb dX12_lowest_13 (lv_at hl 1 rfl) ?_
  refine lv_lload hx hb dX12_lowest_15 (lv_at hl 0 rfl) ?_
  refine lv_lrem hx hb dX12_lowest_17 (lz zb z0) ?_
  refine ql_as (y := 0) (by rw [pk_lRem (by omega) z0 (by omega), zd]; rfl) ?_
  refine lv_lstore (lv' := [(9, .long 0), (7, .long (lN b)), (5, .long (lN a)), (0, .long (lN a)), (2, .long (lN b)), (4, .int x)]) hx hb dX12_lowest_18 hl (by decide) rfl (fun ls hl => ?_)
  refine lv_lload hx hb dX12_lowest_20 (lv_at hl 1 rfl) ?_
  refine lv_lstore (lv' := [(5, .long (lN b)), (9, .long 0), (7, .long (lN b)), (0, .long (lN a)), (2, .long (lN b)), (4, .int x)]) hx hb dX12_lowest_22 hl (by decide) rfl (fun ls hl => ?_)
  refine lv_lload hx hb dX12_lowest_24 (lv_at hl 1 rfl) ?_
  refine lv_lstore (lv' := [(7, .long 0), (5, .long (lN b)), (9, .long 0), (0, .long (lN a)), (2, .long (lN b)), (4, .int x)]) hx hb dX12_lowest_26 hl (by decide) rfl (fun ls hl => ?_)
  refine lv_goto (tgt := 6) hx hb dX12_lowest_28 (by decide) ?_
  refine lv_lload hx hb dX12_lowest_6 (lv_at hl 0 rfl) ?_
  refine lv_lconst (v := 0) hx hb dX12_lowest_8 (by decide) ?_
  refine W.lcmp hx hb dX12_lowest_9 ?_
  refine qi_as (y := 0) (by decide) ?_
  refine lv_if_eq (tgt := 31) hx hb dX12_lowest_10 (by decide) (fun _ => ?_) (fun c_2 => absurd c_2 (by decide))
  refine lv_iload hx hb dX12_lowest_31 (lv_at hl 5 rfl) ?_
  refine lv_if_ne (tgt := 40) hx hb dX12_lowest_33 (by decide) (fun c_3 => ?_) (fun c_3 => ?_)
  · skip
    refine lv_lload_n hx hb dX12_lowest_40 rfl (lv_at hl 4 rfl) ?_
    refine lv_lload hx hb dX12_lowest_41 (lv_at hl 1 rfl) ?_
    refine lv_ldiv hx hb dX12_lowest_43 (lz zb z0) ?_
    rw [hQ]
    exact W.lret (v := (lN b) / (lN b)) hx hb hr (fun tQ htQ hWQ => ⟨(lN b) / (lN b), rfl, by simp_all [pk_lDiv (a := a) (b := b) (by omega) z0 (by omega), pk_lDiv (a := b) (b := b) (by omega) z0 (by omega), Nat.div_self z0] <;> rfl, by rw [htQ]⟩) (fun q hq => absurd hq List.not_mem_nil) dX12_lowest_44
  · skip
    refine lv_lload_n hx hb dX12_lowest_36 rfl (lv_at hl 3 rfl) ?_
    refine lv_goto (tgt := 41) hx hb dX12_lowest_37 (by decide) ?_
    refine lv_lload hx hb dX12_lowest_41 (lv_at hl 1 rfl) ?_
    refine lv_ldiv hx hb dX12_lowest_43 (lz zb z0) ?_
    rw [hQ]
    exact W.lret (v := (lN a) / (lN b)) hx hb hr (fun tQ htQ hWQ => ⟨(lN a) / (lN b), rfl, by simp_all [pk_lDiv (a := a) (b := b) (by omega) z0 (by omega), pk_lDiv (a := b) (b := b) (by omega) z0 (by omega), Nat.div_self z0] <;> rfl, by rw [htQ]⟩) (fun q hq => absurd hq List.not_mem_nil) dX12_lowest_44

theorem kc_twenties_0 : (.constantLong RX12 204 (20) : Cond) ∈ wsX12_twenties := by decide +kernel
set_option maxHeartbeats 4000000 in
set_option maxRecDepth 100000 in
theorem c_twenties (l : Launch) (dC : Nat → ClassId) (dI : Nat → Nat → Nat) (n : Nat) (zn : n ≤ 6) : Met l yX12_twenties wsX12_twenties ({ frames := 0, cells := 0, slots := 0, locals := 0 } : Room) (va_Pc [.int (nI n)] (fun U => True)) (vp_Sl (fun r => r = lN (20 ^ n))) 0 0 (fun _ => False) := by
  refine met_ofQ (cc := cX12_twenties) (maxL := 4) (ret := (some .long)) (by decide) rfl ?_
  intro p e s m args below meth c s₁ Q B hml hv hQ
  obtain ⟨rfl, -⟩ := hv
  have hx := B.exec
  have hb := B.bytes
  have hr := B.returns
  have hts := atoms_spec (ws := wsX12_twenties) B.pre
  have hown : s.vm.findClass RX12 = some m.cls := findClass_of_methodNamed B.named
  have hlocks := B.notSynchronized
  obtain ⟨A, hAe⟩ : ∃ A : Nat → Prop, A = fun _ => False := ⟨_, rfl⟩
  rw [← hAe] at hQ
  have hS : va_S A s.heap s.heap [] := va_S.rf
  have hl := lv_entry [.int (nI n)] (n := 4) (Nat.le_of_ble_eq_true rfl)
  rw [lg_entry_eq]
  generalize (lg_sl [.int (nI n)] ++ List.replicate (4 - (lg_sl [.int (nI n)]).length) Slot.unset).toArray = ls at hl ⊢
  generalize hag : ([.int (nI n)] : List Value).toArray = args at hts hQ ⊢
  have hl : lv_has ls 4 [(0, .int (nI n))] := hl
  refine lv_lconst (v := 1) hx hb dX12_twenties_0 (by decide) ?_
  refine lv_lstore_n (lv' := [(1, .long 1), (0, .int (nI n))]) hx hb dX12_twenties_1 rfl hl (by decide) rfl (fun ls hl => ?_)
  refine lv_iconst (v := 0) hx hb dX12_twenties_2 (by decide) ?_
  refine lv_istore_n (lv' := [(3, .int 0), (1, .long 1), (0, .int (nI n))]) hx hb dX12_twenties_3 rfl hl (by decide) rfl (fun ls hl => ?_)
  have L4 : ∀ (nF : Nat) (i : Nat), n - i < nF → (i ≤ n) → ∀ (ls : Array Slot), lv_has ls 4 [(0, .int (nI n)), (1, .long (lN (20 ^ i))), (3, .int (nI i))] → W p l e ({ frames := 0, cells := 0, slots := 0, locals := 0 } : Room) s m args below meth c s.heap [] 0 0 Q (F0 m 4 ls []) := by
    intro nF
    induction nF with
    | zero => intro i hm; exact absurd hm (Nat.not_lt_zero _)
    | succ nF ih4 =>
      intro i hm hi ls hl
      refine lv_iload_n hx hb dX12_twenties_4 rfl (lv_at hl 2 rfl) ?_
      refine lv_iload_n hx hb dX12_twenties_5 rfl (lv_at hl 0 rfl) ?_
      refine lv_icmp_ge (tgt := 21) hx hb dX12_twenties_6 (by decide) (fun c_1 => ?_) (fun c_1 => ?_)
      · skip
        have c_1 : n ≤ i := (nI_leI (a := n) (b := i) (by omega) (by omega)).mp c_1
        refine lv_lload_n hx hb dX12_twenties_21 rfl (lv_at hl 1 rfl) ?_
        rw [hQ]
        exact W.lret (v := lN (20 ^ i)) hx hb hr (fun tQ htQ hWQ => ⟨lN (20 ^ i), rfl, (by rw [show i = n by omega]), by rw [htQ]⟩) (fun q hq => absurd hq List.not_mem_nil) dX12_twenties_22
      · skip
        have c_1 : ¬ n ≤ i := fun q => c_1 ((nI_leI (a := n) (b := i) (by omega) (by omega)).mpr q)
        refine lv_lload_n hx hb dX12_twenties_9 rfl (lv_at hl 1 rfl) ?_
        refine lv_ldc2 (v := 20) hx hb hown (hts (.constantLong RX12 204 (20)) kc_twenties_0) dX12_twenties_10 ?_
        refine lv_lmul hx hb dX12_twenties_13 ?_
        refine ql_as (y := lN (20 ^ (i + 1))) ((Int64.mul_comm _ _).trans (mul20 i)) ?_
        refine lv_lstore_n (lv' := [(1, .long (lN (20 ^ (i + 1)))), (0, .int (nI n)), (3, .int (nI i))]) hx hb dX12_twenties_14 rfl hl (by decide) rfl (fun ls hl => ?_)
        refine lv_iinc (v := nI (i + 1)) (lv' := [(3, .int (nI (i + 1))), (1, .long (lN (20 ^ (i + 1)))), (0, .int (nI n))]) hx hb dX12_twenties_15 hl (k := 2) rfl (nI_add i 1) (by decide) rfl (fun ls hl => ?_)
        refine lv_goto (tgt := 4) hx hb dX12_twenties_18 (by decide) ?_
        exact ih4 _ (by omega) (by omega) ls (lv_sub hl [2, 1, 0] rfl)
  exact L4 _ (0) (Nat.lt_succ_self _) (by omega) ls (lv_sub hl [2, 1, 0] rfl)
