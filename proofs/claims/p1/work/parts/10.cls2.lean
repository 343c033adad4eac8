theorem dX11_rowOf_0 : decode cX11_rowOf 0 = .ok (.iload_n 0, 1) := by decide +kernel
theorem dX11_rowOf_1 : decode cX11_rowOf 1 = .ok (.bipush 6, 2) := by decide +kernel
theorem dX11_rowOf_3 : decode cX11_rowOf 3 = .ok (.idiv, 1) := by decide +kernel
theorem dX11_rowOf_4 : decode cX11_rowOf 4 = .ok (.ireturn, 1) := by decide +kernel
theorem dX11_columnOf_0 : decode cX11_columnOf 0 = .ok (.iload_n 0, 1) := by decide +kernel
theorem dX11_columnOf_1 : decode cX11_columnOf 1 = .ok (.bipush 6, 2) := by decide +kernel
theorem dX11_columnOf_3 : decode cX11_columnOf 3 = .ok (.irem, 1) := by decide +kernel
theorem dX11_columnOf_4 : decode cX11_columnOf 4 = .ok (.ireturn, 1) := by decide +kernel
theorem dX11_isOnHill_0 : decode cX11_isOnHill 0 = .ok (.iload_n 0, 1) := by decide +kernel
theorem dX11_isOnHill_1 : decode cX11_isOnHill 1 = .ok (.ifCond .lt 23, 3) := by decide +kernel
theorem dX11_isOnHill_24 : decode cX11_isOnHill 24 = .ok (.iconst 0, 1) := by decide +kernel
theorem dX11_isOnHill_25 : decode cX11_isOnHill 25 = .ok (.ireturn, 1) := by decide +kernel
theorem dX11_isOnHill_4 : decode cX11_isOnHill 4 = .ok (.iload_n 0, 1) := by decide +kernel
theorem dX11_isOnHill_5 : decode cX11_isOnHill 5 = .ok (.bipush 6, 2) := by decide +kernel
theorem dX11_isOnHill_7 : decode cX11_isOnHill 7 = .ok (.if_icmp .ge 17, 3) := by decide +kernel
theorem dX11_isOnHill_10 : decode cX11_isOnHill 10 = .ok (.iload_n 1, 1) := by decide +kernel
theorem dX11_isOnHill_11 : decode cX11_isOnHill 11 = .ok (.ifCond .lt 13, 3) := by decide +kernel
theorem dX11_isOnHill_14 : decode cX11_isOnHill 14 = .ok (.iload_n 1, 1) := by decide +kernel
theorem dX11_isOnHill_15 : decode cX11_isOnHill 15 = .ok (.bipush 6, 2) := by decide +kernel
theorem dX11_isOnHill_17 : decode cX11_isOnHill 17 = .ok (.if_icmp .ge 7, 3) := by decide +kernel
theorem dX11_isOnHill_20 : decode cX11_isOnHill 20 = .ok (.iconst 1, 1) := by decide +kernel
theorem dX11_isOnHill_21 : decode cX11_isOnHill 21 = .ok (.goto 4, 3) := by decide +kernel
theorem dX11_besideOrSame_0 : decode cX11_besideOrSame 0 = .ok (.iload_n 0, 1) := by decide +kernel
set_option maxRecDepth 20000 in
theorem ggX11_besideOrSame_X11_rowOf : GoodIn wsX11_besideOrSame wsX11_rowOf := goodIn_r _ [6] (by decide +kernel) (by decide +kernel)
set_option maxRecDepth 20000 in
theorem gX11_besideOrSame_X11_rowOf : GoodIn wsX11_besideOrSame (va_wsS RX11 212 yX11_rowOf wsX11_rowOf) := goodIn_app (goodIn_of _ (by decide +kernel)) ggX11_besideOrSame_X11_rowOf
theorem dX11_besideOrSame_1 : decode cX11_besideOrSame 1 = .ok (.invokestatic 212, 3) := by decide +kernel
theorem dX11_besideOrSame_4 : decode cX11_besideOrSame 4 = .ok (.getstatic 266, 3) := by decide +kernel
theorem dX11_besideOrSame_7 : decode cX11_besideOrSame 7 = .ok (.iload_n 1, 1) := by decide +kernel
theorem dX11_besideOrSame_8 : decode cX11_besideOrSame 8 = .ok (.iaload, 1) := by decide +kernel
theorem dX11_besideOrSame_9 : decode cX11_besideOrSame 9 = .ok (.iadd, 1) := by decide +kernel
theorem dX11_besideOrSame_10 : decode cX11_besideOrSame 10 = .ok (.istore_n 2, 1) := by decide +kernel
theorem dX11_besideOrSame_11 : decode cX11_besideOrSame 11 = .ok (.iload_n 0, 1) := by decide +kernel
set_option maxRecDepth 20000 in
theorem ggX11_besideOrSame_X11_columnOf : GoodIn wsX11_besideOrSame wsX11_columnOf := goodIn_r _ [9] (by decide +kernel) (by decide +kernel)
set_option maxRecDepth 20000 in
theorem gX11_besideOrSame_X11_columnOf : GoodIn wsX11_besideOrSame (va_wsS RX11 215 yX11_columnOf wsX11_columnOf) := goodIn_app (goodIn_of _ (by decide +kernel)) ggX11_besideOrSame_X11_columnOf
theorem dX11_besideOrSame_12 : decode cX11_besideOrSame 12 = .ok (.invokestatic 215, 3) := by decide +kernel
theorem dX11_besideOrSame_15 : decode cX11_besideOrSame 15 = .ok (.getstatic 269, 3) := by decide +kernel
theorem dX11_besideOrSame_18 : decode cX11_besideOrSame 18 = .ok (.iload_n 1, 1) := by decide +kernel
theorem dX11_besideOrSame_19 : decode cX11_besideOrSame 19 = .ok (.iaload, 1) := by decide +kernel
theorem dX11_besideOrSame_20 : decode cX11_besideOrSame 20 = .ok (.iadd, 1) := by decide +kernel
theorem dX11_besideOrSame_21 : decode cX11_besideOrSame 21 = .ok (.istore_n 3, 1) := by decide +kernel
theorem dX11_besideOrSame_22 : decode cX11_besideOrSame 22 = .ok (.iload_n 2, 1) := by decide +kernel
theorem dX11_besideOrSame_23 : decode cX11_besideOrSame 23 = .ok (.iload_n 3, 1) := by decide +kernel
set_option maxRecDepth 20000 in
theorem ggX11_besideOrSame_X11_isOnHill : GoodIn wsX11_besideOrSame wsX11_isOnHill := goodIn_r _ [12] (by decide +kernel) (by decide +kernel)
set_option maxRecDepth 20000 in
theorem gX11_besideOrSame_X11_isOnHill : GoodIn wsX11_besideOrSame (va_wsS RX11 218 yX11_isOnHill wsX11_isOnHill) := goodIn_app (goodIn_of _ (by decide +kernel)) ggX11_besideOrSame_X11_isOnHill
theorem dX11_besideOrSame_24 : decode cX11_besideOrSame 24 = .ok (.invokestatic 218, 3) := by decide +kernel
theorem dX11_besideOrSame_27 : decode cX11_besideOrSame 27 = .ok (.ifCond .eq 12, 3) := by decide +kernel
theorem dX11_besideOrSame_30 : decode cX11_besideOrSame 30 = .ok (.iload_n 2, 1) := by decide +kernel
theorem dX11_besideOrSame_31 : decode cX11_besideOrSame 31 = .ok (.bipush 6, 2) := by decide +kernel
theorem dX11_besideOrSame_33 : decode cX11_besideOrSame 33 = .ok (.imul, 1) := by decide +kernel
theorem dX11_besideOrSame_34 : decode cX11_besideOrSame 34 = .ok (.iload_n 3, 1) := by decide +kernel
theorem dX11_besideOrSame_35 : decode cX11_besideOrSame 35 = .ok (.iadd, 1) := by decide +kernel
theorem dX11_besideOrSame_36 : decode cX11_besideOrSame 36 = .ok (.goto 4, 3) := by decide +kernel
theorem dX11_besideOrSame_40 : decode cX11_besideOrSame 40 = .ok (.ireturn, 1) := by decide +kernel
theorem dX11_besideOrSame_39 : decode cX11_besideOrSame 39 = .ok (.iload_n 0, 1) := by decide +kernel
theorem dX11_isIn_0 : decode cX11_isIn 0 = .ok (.lload_n 0, 1) := by decide +kernel
theorem dX11_isIn_1 : decode cX11_isIn 1 = .ok (.iload_n 2, 1) := by decide +kernel
theorem dX11_isIn_2 : decode cX11_isIn 2 = .ok (.lshr, 1) := by decide +kernel
theorem dX11_isIn_3 : decode cX11_isIn 3 = .ok (.lconst 1, 1) := by decide +kernel
theorem dX11_isIn_4 : decode cX11_isIn 4 = .ok (.land, 1) := by decide +kernel
theorem dX11_isIn_5 : decode cX11_isIn 5 = .ok (.lconst 1, 1) := by decide +kernel
theorem dX11_isIn_6 : decode cX11_isIn 6 = .ok (.lcmp, 1) := by decide +kernel
theorem dX11_isIn_7 : decode cX11_isIn 7 = .ok (.ifCond .ne 7, 3) := by decide +kernel
theorem dX11_isIn_14 : decode cX11_isIn 14 = .ok (.iconst 0, 1) := by decide +kernel
theorem dX11_isIn_15 : decode cX11_isIn 15 = .ok (.ireturn, 1) := by decide +kernel
theorem dX11_isIn_10 : decode cX11_isIn 10 = .ok (.iconst 1, 1) := by decide +kernel
theorem dX11_isIn_11 : decode cX11_isIn 11 = .ok (.goto 4, 3) := by decide +kernel
theorem dX0_hit_0 : decode cX0_hit 0 = .ok (.lload_n 0, 1) := by decide +kernel
theorem dX0_hit_1 : decode cX0_hit 1 = .ok (.iload_n 2, 1) := by decide +kernel
set_option maxRecDepth 20000 in
theorem ggX0_hit_X11_isIn : GoodIn wsX0_hit wsX11_isIn := goodIn_r _ [3] (by decide +kernel) (by decide +kernel)
theorem dX0_hit_2 : decode cX0_hit 2 = .ok (.invokestatic 44, 3) := by decide +kernel
theorem dX0_hit_5 : decode cX0_hit 5 = .ok (.ifCond .eq 7, 3) := by decide +kernel
theorem dX0_hit_12 : decode cX0_hit 12 = .ok (.iconst 0, 1) := by decide +kernel
theorem dX0_hit_13 : decode cX0_hit 13 = .ok (.ireturn, 1) := by decide +kernel
theorem dX0_hit_8 : decode cX0_hit 8 = .ok (.iconst 1, 1) := by decide +kernel
theorem dX0_hit_9 : decode cX0_hit 9 = .ok (.goto 4, 3) := by decide +kernel
theorem dX0_timesOf_0 : decode cX0_timesOf 0 = .ok (.lconst 1, 1) := by decide +kernel
theorem dX0_timesOf_1 : decode cX0_timesOf 1 = .ok (.lstore_n 1, 1) := by decide +kernel
theorem dX0_timesOf_2 : decode cX0_timesOf 2 = .ok (.iconst 0, 1) := by decide +kernel
theorem dX0_timesOf_3 : decode cX0_timesOf 3 = .ok (.istore_n 3, 1) := by decide +kernel
theorem dX0_timesOf_4 : decode cX0_timesOf 4 = .ok (.iload_n 3, 1) := by decide +kernel
theorem dX0_timesOf_5 : decode cX0_timesOf 5 = .ok (.iload_n 0, 1) := by decide +kernel
theorem dX0_timesOf_6 : decode cX0_timesOf 6 = .ok (.if_icmp .ge 15, 3) := by decide +kernel
theorem dX0_timesOf_21 : decode cX0_timesOf 21 = .ok (.lload_n 1, 1) := by decide +kernel
theorem dX0_timesOf_22 : decode cX0_timesOf 22 = .ok (.lreturn, 1) := by decide +kernel
theorem dX0_timesOf_9 : decode cX0_timesOf 9 = .ok (.lload_n 1, 1) := by decide +kernel
theorem dX0_timesOf_10 : decode cX0_timesOf 10 = .ok (.ldc2_w 25, 3) := by decide +kernel
theorem dX0_timesOf_13 : decode cX0_timesOf 13 = .ok (.lmul, 1) := by decide +kernel
theorem dX0_timesOf_14 : decode cX0_timesOf 14 = .ok (.lstore_n 1, 1) := by decide +kernel
theorem dX0_timesOf_15 : decode cX0_timesOf 15 = .ok (.iinc 3 1, 3) := by decide +kernel
theorem dX0_timesOf_18 : decode cX0_timesOf 18 = .ok (.goto (-14), 3) := by decide +kernel
theorem dX11_commonDivisor_0 : decode cX11_commonDivisor 0 = .ok (.iconst 0, 1) := by decide +kernel
theorem dX11_commonDivisor_1 : decode cX11_commonDivisor 1 = .ok (.istore 4, 2) := by decide +kernel
theorem dX11_commonDivisor_3 : decode cX11_commonDivisor 3 = .ok (.iload 4, 2) := by decide +kernel
theorem dX11_commonDivisor_5 : decode cX11_commonDivisor 5 = .ok (.bipush 64, 2) := by decide +kernel
theorem dX11_commonDivisor_7 : decode cX11_commonDivisor 7 = .ok (.if_icmp .ge 25, 3) := by decide +kernel
theorem dX11_commonDivisor_10 : decode cX11_commonDivisor 10 = .ok (.lload_n 2, 1) := by decide +kernel
theorem dX11_commonDivisor_11 : decode cX11_commonDivisor 11 = .ok (.lconst 0, 1) := by decide +kernel
theorem dX11_commonDivisor_12 : decode cX11_commonDivisor 12 = .ok (.lcmp, 1) := by decide +kernel
theorem dX11_commonDivisor_13 : decode cX11_commonDivisor 13 = .ok (.ifCond .eq 19, 3) := by decide +kernel
theorem dX11_commonDivisor_16 : decode cX11_commonDivisor 16 = .ok (.lload_n 0, 1) := by decide +kernel
theorem dX11_commonDivisor_17 : decode cX11_commonDivisor 17 = .ok (.lload_n 2, 1) := by decide +kernel
theorem dX11_commonDivisor_18 : decode cX11_commonDivisor 18 = .ok (.lrem, 1) := by decide +kernel
theorem dX11_commonDivisor_19 : decode cX11_commonDivisor 19 = .ok (.lstore 5, 2) := by decide +kernel
theorem dX11_commonDivisor_21 : decode cX11_commonDivisor 21 = .ok (.lload_n 2, 1) := by decide +kernel
theorem dX11_commonDivisor_22 : decode cX11_commonDivisor 22 = .ok (.lstore_n 0, 1) := by decide +kernel
theorem dX11_commonDivisor_23 : decode cX11_commonDivisor 23 = .ok (.lload 5, 2) := by decide +kernel
theorem dX11_commonDivisor_25 : decode cX11_commonDivisor 25 = .ok (.lstore_n 2, 1) := by decide +kernel
theorem dX11_commonDivisor_26 : decode cX11_commonDivisor 26 = .ok (.iinc 4 1, 3) := by decide +kernel
theorem dX11_commonDivisor_29 : decode cX11_commonDivisor 29 = .ok (.goto (-26), 3) := by decide +kernel
theorem dX11_commonDivisor_32 : decode cX11_commonDivisor 32 = .ok (.lload_n 0, 1) := by decide +kernel
theorem dX11_commonDivisor_33 : decode cX11_commonDivisor 33 = .ok (.lreturn, 1) := by decide +kernel
theorem dX11_partOf_0 : decode cX11_partOf 0 = .ok (.lload_n 0, 1) := by decide +kernel
theorem dX11_partOf_1 : decode cX11_partOf 1 = .ok (.lload_n 2, 1) := by decide +kernel
set_option maxRecDepth 20000 in
theorem ggX11_partOf_X11_commonDivisor : GoodIn wsX11_partOf wsX11_commonDivisor := goodIn_r _ [5] (by decide +kernel) (by decide +kernel)
set_option maxRecDepth 20000 in
theorem gX11_partOf_X11_commonDivisor : GoodIn wsX11_partOf (va_wsS RX11 272 yX11_commonDivisor wsX11_commonDivisor) := goodIn_app (goodIn_of _ (by decide +kernel)) ggX11_partOf_X11_commonDivisor
theorem dX11_partOf_2 : decode cX11_partOf 2 = .ok (.invokestatic 272, 3) := by decide +kernel
theorem dX11_partOf_5 : decode cX11_partOf 5 = .ok (.lstore 5, 2) := by decide +kernel
theorem dX11_partOf_7 : decode cX11_partOf 7 = .ok (.lload 5, 2) := by decide +kernel
theorem dX11_partOf_9 : decode cX11_partOf 9 = .ok (.lconst 0, 1) := by decide +kernel
theorem dX11_partOf_10 : decode cX11_partOf 10 = .ok (.lcmp, 1) := by decide +kernel
theorem dX11_partOf_11 : decode cX11_partOf 11 = .ok (.ifCond .gt 7, 3) := by decide +kernel
theorem dX11_partOf_18 : decode cX11_partOf 18 = .ok (.iload 4, 2) := by decide +kernel
theorem dX11_partOf_20 : decode cX11_partOf 20 = .ok (.ifCond .ne 7, 3) := by decide +kernel
theorem dX11_partOf_27 : decode cX11_partOf 27 = .ok (.lload_n 2, 1) := by decide +kernel
theorem dX11_partOf_28 : decode cX11_partOf 28 = .ok (.lload 5, 2) := by decide +kernel
theorem dX11_partOf_30 : decode cX11_partOf 30 = .ok (.ldiv, 1) := by decide +kernel
theorem dX11_partOf_31 : decode cX11_partOf 31 = .ok (.lreturn, 1) := by decide +kernel
theorem dX11_partOf_23 : decode cX11_partOf 23 = .ok (.lload_n 0, 1) := by decide +kernel
theorem dX11_partOf_24 : decode cX11_partOf 24 = .ok (.goto 4, 3) := by decide +kernel
theorem dX8_tellFacts_0 : decode cX8_tellFacts 0 = .ok (.aload_n 0, 1) := by decide +kernel
theorem dX8_tellFacts_1 : decode cX8_tellFacts 1 = .ok (.getfield 34, 3) := by decide +kernel
theorem dX8_tellFacts_4 : decode cX8_tellFacts 4 = .ok (.iconst 0, 1) := by decide +kernel
theorem dX8_tellFacts_5 : decode cX8_tellFacts 5 = .ok (.iload_n 1, 1) := by decide +kernel
theorem dX8_tellFacts_6 : decode cX8_tellFacts 6 = .ok (.iastore, 1) := by decide +kernel
theorem dX8_tellFacts_7 : decode cX8_tellFacts 7 = .ok (.aload_n 0, 1) := by decide +kernel
theorem dX8_tellFacts_8 : decode cX8_tellFacts 8 = .ok (.getfield 34, 3) := by decide +kernel
theorem dX8_tellFacts_11 : decode cX8_tellFacts 11 = .ok (.iconst 1, 1) := by decide +kernel
theorem dX8_tellFacts_12 : decode cX8_tellFacts 12 = .ok (.iload_n 2, 1) := by decide +kernel
theorem dX8_tellFacts_13 : decode cX8_tellFacts 13 = .ok (.iastore, 1) := by decide +kernel
theorem dX8_tellFacts_14 : decode cX8_tellFacts 14 = .ok (.aload_n 0, 1) := by decide +kernel
theorem dX8_tellFacts_15 : decode cX8_tellFacts 15 = .ok (.getfield 34, 3) := by decide +kernel
theorem dX8_tellFacts_18 : decode cX8_tellFacts 18 = .ok (.iconst 2, 1) := by decide +kernel
theorem dX8_tellFacts_19 : decode cX8_tellFacts 19 = .ok (.iload_n 3, 1) := by decide +kernel
set_option maxRecDepth 20000 in
theorem ggX8_tellFacts_X11_rowOf : GoodIn wsX8_tellFacts wsX11_rowOf := goodIn_r _ [5] (by decide +kernel) (by decide +kernel)
theorem dX8_tellFacts_20 : decode cX8_tellFacts 20 = .ok (.invokestatic 102, 3) := by decide +kernel
theorem dX8_tellFacts_23 : decode cX8_tellFacts 23 = .ok (.iastore, 1) := by decide +kernel
theorem dX8_tellFacts_24 : decode cX8_tellFacts 24 = .ok (.aload_n 0, 1) := by decide +kernel
theorem dX8_tellFacts_25 : decode cX8_tellFacts 25 = .ok (.getfield 34, 3) := by decide +kernel
theorem dX8_tellFacts_28 : decode cX8_tellFacts 28 = .ok (.iconst 3, 1) := by decide +kernel
theorem dX8_tellFacts_29 : decode cX8_tellFacts 29 = .ok (.iload_n 3, 1) := by decide +kernel
set_option maxRecDepth 20000 in
theorem ggX8_tellFacts_X11_columnOf : GoodIn wsX8_tellFacts wsX11_columnOf := goodIn_r _ [7] (by decide +kernel) (by decide +kernel)
theorem dX8_tellFacts_30 : decode cX8_tellFacts 30 = .ok (.invokestatic 106, 3) := by decide +kernel
theorem dX8_tellFacts_33 : decode cX8_tellFacts 33 = .ok (.iastore, 1) := by decide +kernel
theorem dX8_tellFacts_34 : decode cX8_tellFacts 34 = .ok (.aload_n 0, 1) := by decide +kernel
theorem dX8_tellFacts_35 : decode cX8_tellFacts 35 = .ok (.getfield 34, 3) := by decide +kernel
theorem dX8_tellFacts_38 : decode cX8_tellFacts 38 = .ok (.iconst 4, 1) := by decide +kernel
theorem dX8_tellFacts_39 : decode cX8_tellFacts 39 = .ok (.aload_n 0, 1) := by decide +kernel
theorem dX8_tellFacts_40 : decode cX8_tellFacts 40 = .ok (.getfield 54, 3) := by decide +kernel
theorem dX8_tellFacts_43 : decode cX8_tellFacts 43 = .ok (.iastore, 1) := by decide +kernel
theorem dX8_tellFacts_44 : decode cX8_tellFacts 44 = .ok (.aload_n 0, 1) := by decide +kernel
theorem dX8_tellFacts_45 : decode cX8_tellFacts 45 = .ok (.getfield 34, 3) := by decide +kernel
theorem dX8_tellFacts_48 : decode cX8_tellFacts 48 = .ok (.iconst 5, 1) := by decide +kernel
theorem dX8_tellFacts_49 : decode cX8_tellFacts 49 = .ok (.iload 4, 2) := by decide +kernel
theorem dX8_tellFacts_51 : decode cX8_tellFacts 51 = .ok (.iastore, 1) := by decide +kernel
theorem dX8_tellFacts_52 : decode cX8_tellFacts 52 = .ok (.return_, 1) := by decide +kernel
theorem dX5_total_0 : decode cX5_total 0 = .ok (.iconst 0, 1) := by decide +kernel
theorem dX5_total_1 : decode cX5_total 1 = .ok (.istore_n 3, 1) := by decide +kernel
theorem dX5_total_2 : decode cX5_total 2 = .ok (.iconst 0, 1) := by decide +kernel
theorem dX5_total_3 : decode cX5_total 3 = .ok (.istore 4, 2) := by decide +kernel
theorem dX5_total_5 : decode cX5_total 5 = .ok (.iload 4, 2) := by decide +kernel
theorem dX5_total_7 : decode cX5_total 7 = .ok (.aload_n 0, 1) := by decide +kernel
theorem dX5_total_8 : decode cX5_total 8 = .ok (.getfield 59, 3) := by decide +kernel
theorem dX5_total_11 : decode cX5_total 11 = .ok (.if_icmp .ge 40, 3) := by decide +kernel
theorem dX5_total_51 : decode cX5_total 51 = .ok (.iload_n 3, 1) := by decide +kernel
theorem dX5_total_52 : decode cX5_total 52 = .ok (.ireturn, 1) := by decide +kernel
theorem dX8_driftOn_0 : decode cX8_driftOn 0 = .ok (.aload_n 0, 1) := by decide +kernel
theorem dX8_driftOn_1 : decode cX8_driftOn 1 = .ok (.bipush 99, 2) := by decide +kernel
theorem dX8_driftOn_3 : decode cX8_driftOn 3 = .ok (.bipush 99, 2) := by decide +kernel
theorem dX8_driftOn_5 : decode cX8_driftOn 5 = .ok (.iload_n 1, 1) := by decide +kernel
theorem dX8_driftOn_6 : decode cX8_driftOn 6 = .ok (.aload_n 0, 1) := by decide +kernel
theorem dX8_driftOn_7 : decode cX8_driftOn 7 = .ok (.getfield 57, 3) := by decide +kernel
set_option maxRecDepth 20000 in
theorem ggX8_driftOn_X8_tellFacts : GoodIn wsX8_driftOn wsX8_tellFacts := goodIn_r _ [12, 3, 13, 14, 15, 16, 17, 18, 36, 37, 38, 39, 40, 41, 42, 43, 44, 45, 46, 47, 48, 49] (by decide +kernel) (by decide +kernel)
set_option maxRecDepth 20000 in
theorem gX8_driftOn_X8_tellFacts : GoodIn wsX8_driftOn (wsV RX8 82 RX8 yX8_tellFacts wsX8_tellFacts) := goodIn_app (goodIn_of _ (by decide +kernel)) ggX8_driftOn_X8_tellFacts
theorem dX8_driftOn_10 : decode cX8_driftOn 10 = .ok (.invokevirtual 82, 3) := by decide +kernel
theorem dX8_driftOn_13 : decode cX8_driftOn 13 = .ok (.iconst 5, 1) := by decide +kernel
theorem dX8_driftOn_14 : decode cX8_driftOn 14 = .ok (.aload_n 0, 1) := by decide +kernel
theorem dX8_driftOn_15 : decode cX8_driftOn 15 = .ok (.getfield 18, 3) := by decide +kernel
theorem dX8_driftOn_18 : decode cX8_driftOn 18 = .ok (.iconst 3, 1) := by decide +kernel
theorem dX8_driftOn_19 : decode cX8_driftOn 19 = .ok (.aload_n 0, 1) := by decide +kernel
theorem dX8_driftOn_20 : decode cX8_driftOn 20 = .ok (.getfield 34, 3) := by decide +kernel
set_option maxRecDepth 20000 in
theorem ggX8_driftOn_X5_total : GoodIn wsX8_driftOn wsX5_total := goodIn_r _ [23, 24, 25, 26, 27, 28, 29, 22, 30, 31, 32, 33, 34, 35, 50, 51, 52, 53, 54, 55, 56, 57, 58, 59, 60] (by decide +kernel) (by decide +kernel)
set_option maxRecDepth 20000 in
theorem gX8_driftOn_X5_total : GoodIn wsX8_driftOn (wsV RX8 89 RX5 yX5_total wsX5_total) := goodIn_app (goodIn_of _ (by decide +kernel)) ggX8_driftOn_X5_total
theorem dX8_driftOn_23 : decode cX8_driftOn 23 = .ok (.invokevirtual 89, 3) := by decide +kernel
theorem dX8_driftOn_26 : decode cX8_driftOn 26 = .ok (.invokestatic 97, 3) := by decide +kernel
theorem dX8_driftOn_29 : decode cX8_driftOn 29 = .ok (.ireturn, 1) := by decide +kernel
theorem dX11_drift_0 : decode cX11_drift 0 = .ok (.iload_n 1, 1) := by decide +kernel
set_option maxRecDepth 20000 in
theorem ggX11_drift_X11_isCell : GoodIn wsX11_drift wsX11_isCell := goodIn_r _ [5] (by decide +kernel) (by decide +kernel)
set_option maxRecDepth 20000 in
theorem gX11_drift_X11_isCell : GoodIn wsX11_drift (va_wsS RX11 94 yX11_isCell wsX11_isCell) := goodIn_app (goodIn_of _ (by decide +kernel)) ggX11_drift_X11_isCell
theorem dX11_drift_1 : decode cX11_drift 1 = .ok (.invokestatic 94, 3) := by decide +kernel
theorem dX11_drift_4 : decode cX11_drift 4 = .ok (.ifCond .eq 14, 3) := by decide +kernel
theorem dX11_drift_7 : decode cX11_drift 7 = .ok (.aload_n 0, 1) := by decide +kernel
theorem dX11_drift_8 : decode cX11_drift 8 = .ok (.getfield 14, 3) := by decide +kernel
theorem dX11_drift_11 : decode cX11_drift 11 = .ok (.iload_n 1, 1) := by decide +kernel
set_option maxRecDepth 20000 in
theorem ggX11_drift_X8_driftOn : GoodIn wsX11_drift wsX8_driftOn := goodIn_r _ [10, 11, 12, 13, 14, 15, 16, 17, 18, 19, 20, 9, 21, 22, 23, 4, 24, 25, 26, 27, 28, 29, 30, 31, 32, 33, 34, 35, 36, 37, 38, 39, 40, 41, 42, 43, 51, 52, 53, 54, 55, 56, 57, 58, 59, 60, 61, 62, 63, 64, 65, 66, 67, 68, 69, 70, 71, 72, 73, 74, 75] (by decide +kernel) (by decide +kernel)
set_option maxRecDepth 20000 in
theorem gX11_drift_X8_driftOn : GoodIn wsX11_drift (wsV RX11 166 RX8 yX8_driftOn wsX8_driftOn) := goodIn_app (goodIn_of _ (by decide +kernel)) ggX11_drift_X8_driftOn
theorem dX11_drift_12 : decode cX11_drift 12 = .ok (.invokevirtual 166, 3) := by decide +kernel
theorem dX11_drift_15 : decode cX11_drift 15 = .ok (.goto 4, 3) := by decide +kernel
theorem dX11_drift_19 : decode cX11_drift 19 = .ok (.ireturn, 1) := by decide +kernel
theorem dX11_drift_18 : decode cX11_drift 18 = .ok (.iconst (-1), 1) := by decide +kernel
theorem dX0_begin_0 : decode cX0_begin 0 = .ok (.iconst 0, 1) := by decide +kernel
theorem dX0_begin_1 : decode cX0_begin 1 = .ok (.istore_n 3, 1) := by decide +kernel
theorem dX0_begin_2 : decode cX0_begin 2 = .ok (.iload_n 3, 1) := by decide +kernel
theorem dX0_begin_3 : decode cX0_begin 3 = .ok (.bipush 36, 2) := by decide +kernel
theorem dX0_begin_5 : decode cX0_begin 5 = .ok (.if_icmp .ge 38, 3) := by decide +kernel
theorem dX0_begin_43 : decode cX0_begin 43 = .ok (.return_, 1) := by decide +kernel
theorem dX0_begin_8 : decode cX0_begin 8 = .ok (.aload_n 0, 1) := by decide +kernel
theorem dX0_begin_9 : decode cX0_begin 9 = .ok (.getfield 9, 3) := by decide +kernel
theorem dX0_begin_12 : decode cX0_begin 12 = .ok (.iload_n 3, 1) := by decide +kernel
theorem dX0_begin_13 : decode cX0_begin 13 = .ok (.aload_n 1, 1) := by decide +kernel
theorem dX0_begin_14 : decode cX0_begin 14 = .ok (.iload_n 3, 1) := by decide +kernel
set_option maxRecDepth 20000 in
theorem ggX0_begin_X8_driftOn : GoodIn wsX0_begin wsX8_driftOn := goodIn_r _ [7, 8, 9, 10, 11, 12, 13, 14, 15, 16, 17, 6, 18, 19, 20, 21, 22, 23, 24, 25, 26, 27, 28, 29, 30, 31, 32, 33, 34, 35, 36, 37, 38, 39, 40, 41, 47, 48, 49, 50, 51, 52, 53, 54, 55, 56, 57, 58, 59, 60, 61, 62, 63, 64, 65, 66, 67, 68, 69, 70, 71] (by decide +kernel) (by decide +kernel)
set_option maxRecDepth 20000 in
theorem gX0_begin_X8_driftOn : GoodIn wsX0_begin (wsV RX0 48 RX8 yX8_driftOn wsX8_driftOn) := goodIn_app (goodIn_of _ (by decide +kernel)) ggX0_begin_X8_driftOn
theorem dX0_begin_15 : decode cX0_begin 15 = .ok (.invokevirtual 48, 3) := by decide +kernel
theorem dX0_begin_18 : decode cX0_begin 18 = .ok (.iastore, 1) := by decide +kernel
theorem dX0_begin_19 : decode cX0_begin 19 = .ok (.aload_n 0, 1) := by decide +kernel
theorem dX0_begin_20 : decode cX0_begin 20 = .ok (.getfield 17, 3) := by decide +kernel
theorem dX0_begin_23 : decode cX0_begin 23 = .ok (.iconst 0, 1) := by decide +kernel
theorem dX0_begin_24 : decode cX0_begin 24 = .ok (.aaload, 1) := by decide +kernel
theorem dX0_begin_25 : decode cX0_begin 25 = .ok (.iload_n 3, 1) := by decide +kernel
theorem dX0_begin_26 : decode cX0_begin 26 = .ok (.iload_n 3, 1) := by decide +kernel
theorem dX0_begin_27 : decode cX0_begin 27 = .ok (.iload_n 2, 1) := by decide +kernel
theorem dX0_begin_28 : decode cX0_begin 28 = .ok (.if_icmp .ne 7, 3) := by decide +kernel
theorem dX0_begin_35 : decode cX0_begin 35 = .ok (.lconst 0, 1) := by decide +kernel
theorem dX0_begin_36 : decode cX0_begin 36 = .ok (.lastore, 1) := by decide +kernel
theorem dX0_begin_37 : decode cX0_begin 37 = .ok (.iinc 3 1, 3) := by decide +kernel
theorem dX0_begin_40 : decode cX0_begin 40 = .ok (.goto (-38), 3) := by decide +kernel
theorem dX0_begin_31 : decode cX0_begin 31 = .ok (.lconst 1, 1) := by decide +kernel
theorem dX0_begin_32 : decode cX0_begin 32 = .ok (.goto 4, 3) := by decide +kernel
theorem dX0_spread_0 : decode cX0_spread 0 = .ok (.iconst 0, 1) := by decide +kernel
theorem dX0_spread_1 : decode cX0_spread 1 = .ok (.istore 5, 2) := by decide +kernel
theorem dX0_spread_3 : decode cX0_spread 3 = .ok (.iload 5, 2) := by decide +kernel
theorem dX0_spread_5 : decode cX0_spread 5 = .ok (.bipush 36, 2) := by decide +kernel
theorem dX0_spread_7 : decode cX0_spread 7 = .ok (.if_icmp .ge 15, 3) := by decide +kernel
theorem dX0_spread_22 : decode cX0_spread 22 = .ok (.iconst 0, 1) := by decide +kernel
theorem dX0_spread_23 : decode cX0_spread 23 = .ok (.istore 5, 2) := by decide +kernel
theorem dX0_spread_25 : decode cX0_spread 25 = .ok (.iload 5, 2) := by decide +kernel
theorem dX0_spread_27 : decode cX0_spread 27 = .ok (.bipush 36, 2) := by decide +kernel
theorem dX0_spread_29 : decode cX0_spread 29 = .ok (.if_icmp .ge 133, 3) := by decide +kernel
theorem dX0_spread_162 : decode cX0_spread 162 = .ok (.return_, 1) := by decide +kernel
theorem dX0_spread_32 : decode cX0_spread 32 = .ok (.aload_n 2, 1) := by decide +kernel
theorem dX0_spread_33 : decode cX0_spread 33 = .ok (.iload 5, 2) := by decide +kernel
theorem dX0_spread_35 : decode cX0_spread 35 = .ok (.laload, 1) := by decide +kernel
theorem dX0_spread_36 : decode cX0_spread 36 = .ok (.lstore 6, 2) := by decide +kernel
theorem dX0_spread_38 : decode cX0_spread 38 = .ok (.lload 6, 2) := by decide +kernel
theorem dX0_spread_40 : decode cX0_spread 40 = .ok (.lconst 0, 1) := by decide +kernel
theorem dX0_spread_41 : decode cX0_spread 41 = .ok (.lcmp, 1) := by decide +kernel
theorem dX0_spread_42 : decode cX0_spread 42 = .ok (.ifCond .ne 6, 3) := by decide +kernel
theorem dX0_spread_48 : decode cX0_spread 48 = .ok (.aload_n 1, 1) := by decide +kernel
theorem dX0_spread_49 : decode cX0_spread 49 = .ok (.getfield 52, 3) := by decide +kernel
theorem dX0_spread_52 : decode cX0_spread 52 = .ok (.iload 5, 2) := by decide +kernel
set_option maxRecDepth 20000 in
theorem ggX0_spread_X11_isIn : GoodIn wsX0_spread wsX11_isIn := goodIn_r _ [6] (by decide +kernel) (by decide +kernel)
theorem dX0_spread_54 : decode cX0_spread 54 = .ok (.invokestatic 44, 3) := by decide +kernel
theorem dX0_spread_57 : decode cX0_spread 57 = .ok (.ifCond .eq 20, 3) := by decide +kernel
theorem dX0_spread_77 : decode cX0_spread 77 = .ok (.aload_n 0, 1) := by decide +kernel
theorem dX0_spread_78 : decode cX0_spread 78 = .ok (.getfield 9, 3) := by decide +kernel
theorem dX0_spread_81 : decode cX0_spread 81 = .ok (.iload 5, 2) := by decide +kernel
theorem dX0_spread_83 : decode cX0_spread 83 = .ok (.iaload, 1) := by decide +kernel
theorem dX0_spread_84 : decode cX0_spread 84 = .ok (.istore 8, 2) := by decide +kernel
theorem dX0_spread_86 : decode cX0_spread 86 = .ok (.aload 4, 2) := by decide +kernel
theorem dX0_spread_88 : decode cX0_spread 88 = .ok (.iload 5, 2) := by decide +kernel
theorem dX0_spread_90 : decode cX0_spread 90 = .ok (.iload_n 3, 1) := by decide +kernel
set_option maxRecDepth 20000 in
theorem ggX0_spread_X11_besideOrSame : GoodIn wsX0_spread wsX11_besideOrSame := goodIn_r _ [8, 9, 10, 11, 12, 5, 13, 14, 15, 16, 17, 18, 19] (by decide +kernel) (by decide +kernel)
theorem dX0_spread_91 : decode cX0_spread 91 = .ok (.invokestatic 56, 3) := by decide +kernel
theorem dX0_spread_94 : decode cX0_spread 94 = .ok (.dup2, 1) := by decide +kernel
theorem dX0_spread_95 : decode cX0_spread 95 = .ok (.laload, 1) := by decide +kernel
theorem dX0_spread_96 : decode cX0_spread 96 = .ok (.lload 6, 2) := by decide +kernel
theorem dX0_spread_98 : decode cX0_spread 98 = .ok (.bipush 20, 2) := by decide +kernel
theorem dX0_spread_100 : decode cX0_spread 100 = .ok (.iconst 2, 1) := by decide +kernel
theorem dX0_spread_101 : decode cX0_spread 101 = .ok (.iload 8, 2) := by decide +kernel
theorem dX0_spread_103 : decode cX0_spread 103 = .ok (.imul, 1) := by decide +kernel
theorem dX0_spread_104 : decode cX0_spread 104 = .ok (.isub, 1) := by decide +kernel
theorem dX0_spread_105 : decode cX0_spread 105 = .ok (.i2l, 1) := by decide +kernel
theorem dX0_spread_106 : decode cX0_spread 106 = .ok (.lmul, 1) := by decide +kernel
theorem dX0_spread_107 : decode cX0_spread 107 = .ok (.ladd, 1) := by decide +kernel
theorem dX0_spread_108 : decode cX0_spread 108 = .ok (.lastore, 1) := by decide +kernel
theorem dX0_spread_109 : decode cX0_spread 109 = .ok (.aload 4, 2) := by decide +kernel
theorem dX0_spread_111 : decode cX0_spread 111 = .ok (.iload 5, 2) := by decide +kernel
theorem dX0_spread_113 : decode cX0_spread 113 = .ok (.iload_n 3, 1) := by decide +kernel
theorem dX0_spread_114 : decode cX0_spread 114 = .ok (.bipush 7, 2) := by decide +kernel
theorem dX0_spread_116 : decode cX0_spread 116 = .ok (.iadd, 1) := by decide +kernel
theorem dX0_spread_117 : decode cX0_spread 117 = .ok (.bipush 7, 2) := by decide +kernel
theorem dX0_spread_119 : decode cX0_spread 119 = .ok (.iand, 1) := by decide +kernel
theorem dX0_spread_120 : decode cX0_spread 120 = .ok (.invokestatic 56, 3) := by decide +kernel
theorem dX0_spread_123 : decode cX0_spread 123 = .ok (.dup2, 1) := by decide +kernel
theorem dX0_spread_124 : decode cX0_spread 124 = .ok (.laload, 1) := by decide +kernel
theorem dX0_spread_125 : decode cX0_spread 125 = .ok (.lload 6, 2) := by decide +kernel
theorem dX0_spread_127 : decode cX0_spread 127 = .ok (.iload 8, 2) := by decide +kernel
theorem dX0_spread_129 : decode cX0_spread 129 = .ok (.i2l, 1) := by decide +kernel
theorem dX0_spread_130 : decode cX0_spread 130 = .ok (.lmul, 1) := by decide +kernel
theorem dX0_spread_131 : decode cX0_spread 131 = .ok (.ladd, 1) := by decide +kernel
theorem dX0_spread_132 : decode cX0_spread 132 = .ok (.lastore, 1) := by decide +kernel
theorem dX0_spread_133 : decode cX0_spread 133 = .ok (.aload 4, 2) := by decide +kernel
theorem dX0_spread_135 : decode cX0_spread 135 = .ok (.iload 5, 2) := by decide +kernel
theorem dX0_spread_137 : decode cX0_spread 137 = .ok (.iload_n 3, 1) := by decide +kernel
theorem dX0_spread_138 : decode cX0_spread 138 = .ok (.iconst 1, 1) := by decide +kernel
theorem dX0_spread_139 : decode cX0_spread 139 = .ok (.iadd, 1) := by decide +kernel
theorem dX0_spread_140 : decode cX0_spread 140 = .ok (.bipush 7, 2) := by decide +kernel
theorem dX0_spread_142 : decode cX0_spread 142 = .ok (.iand, 1) := by decide +kernel
theorem dX0_spread_143 : decode cX0_spread 143 = .ok (.invokestatic 56, 3) := by decide +kernel
theorem dX0_spread_146 : decode cX0_spread 146 = .ok (.dup2, 1) := by decide +kernel
theorem dX0_spread_147 : decode cX0_spread 147 = .ok (.laload, 1) := by decide +kernel
theorem dX0_spread_148 : decode cX0_spread 148 = .ok (.lload 6, 2) := by decide +kernel
theorem dX0_spread_150 : decode cX0_spread 150 = .ok (.iload 8, 2) := by decide +kernel
theorem dX0_spread_152 : decode cX0_spread 152 = .ok (.i2l, 1) := by decide +kernel
theorem dX0_spread_153 : decode cX0_spread 153 = .ok (.lmul, 1) := by decide +kernel
theorem dX0_spread_154 : decode cX0_spread 154 = .ok (.ladd, 1) := by decide +kernel
theorem dX0_spread_155 : decode cX0_spread 155 = .ok (.lastore, 1) := by decide +kernel
theorem dX0_spread_156 : decode cX0_spread 156 = .ok (.iinc 5 1, 3) := by decide +kernel
theorem dX0_spread_159 : decode cX0_spread 159 = .ok (.goto (-134), 3) := by decide +kernel
theorem dX0_spread_45 : decode cX0_spread 45 = .ok (.goto 111, 3) := by decide +kernel
theorem dX0_spread_10 : decode cX0_spread 10 = .ok (.aload 4, 2) := by decide +kernel
theorem dX0_spread_12 : decode cX0_spread 12 = .ok (.iload 5, 2) := by decide +kernel
theorem dX0_spread_14 : decode cX0_spread 14 = .ok (.lconst 0, 1) := by decide +kernel
theorem dX0_spread_15 : decode cX0_spread 15 = .ok (.lastore, 1) := by decide +kernel
theorem dX0_spread_16 : decode cX0_spread 16 = .ok (.iinc 5 1, 3) := by decide +kernel
theorem dX0_spread_19 : decode cX0_spread 19 = .ok (.goto (-16), 3) := by decide +kernel
def ib (mk : Int64) (c : Nat) : Prop := mk >>> ((nI c).toInt64 &&& 63) &&& 1 = 1
def hz (mk : Int64) (c : Nat) : Int32 := if mk >>> ((nI c).toInt64 &&& 63) &&& 1 = 1 then 1 else 0
def hv (mk : Int64) (w c : Nat) : Int32 := 20 * hz mk (nb c w)
theorem hz_01 (mk : Int64) (c : Nat) : (hz mk c = 1 ∨ hz mk c = 0) := by unfold hz; split <;> simp
theorem hz_nar (mk : Int64) (c : Nat) : narrow .boolean (.int (hz mk c)) = .int (hz mk c) := by
  rcases hz_01 mk c with h | h <;> rw [h] <;> rfl
theorem hz_e0 : ∀ c : Nat, c < 36 → hz 0 c = 0 := by decide +kernel
def tv (k : Nat) (mk : Int64) (p w : Nat) : Int64 := lN (20 ^ k) * (hv mk w p).toInt64
def GJ (v : Nat → Int64) (k : Nat) (ft : Int64) (fr : Int32) : Prop := ft = (GG v k).1 ∧ fr = nI (GG v k).2
theorem GJ_up {v : Nat → Int64} {k : Nat} {ft sm : Int64} {fr : Int32} (h : GJ v k ft fr) (e : v k = sm) (c : ¬ sm ≤ ft) : GJ v (k + 1) sm (nI k) := by
  have : GG v (k + 1) = (v k, k) := by
    show (if (GG v k).1 < v k then (v k, k) else GG v k) = _
    rw [if_pos (by rw [← h.1, e]; exact Int64.not_le.mp c)]
  unfold GJ
  rw [this]
  exact ⟨e.symm, rfl⟩
theorem GJ_keep {v : Nat → Int64} {k : Nat} {ft sm : Int64} {fr : Int32} (h : GJ v k ft fr) (e : v k = sm) (c : sm ≤ ft) : GJ v (k + 1) ft fr := by
  have : GG v (k + 1) = GG v k := by
    show (if (GG v k).1 < v k then (v k, k) else GG v k) = _
    rw [if_neg (by rw [← h.1, e]; exact Int64.not_lt.mpr c)]
  unfold GJ
  rw [this]
  exact h
theorem mul20' (k : Nat) : lN (20 ^ k) * (20 : Int64) = lN (20 ^ (k + 1)) := (Int64.mul_comm _ _).trans (mul20 k)
theorem ne20 {k : Nat} (h : k ≤ 3) : ¬ lN (20 ^ k) = 0 := fun q => pos20 h (by rw [q]; decide)
theorem sum_put {i p k w : Nat} {mk S : Int64} (e : i = p) (h : S = if p < i then tv k mk p w else 0) : S + lN (20 ^ k) * (hv mk w i).toInt64 = if p < i + 1 then tv k mk p w else 0 := by
  rw [h, if_neg (by omega), if_pos (by omega), e, Int64.zero_add]; rfl
theorem sum_skip {i p k w : Nat} {mk S : Int64} (e : ¬ i = p) (h : S = if p < i then tv k mk p w else 0) : S = if p < i + 1 then tv k mk p w else 0 := by
  rw [h]
  by_cases q : p < i
  · rw [if_pos q, if_pos (by omega)]
  · rw [if_neg q, if_neg (by omega)]
section
variable {p : Program} {l : Launch} {e : Env} {R : Room} {s : State} {m : MethodId} {args : Array Value} {below : List Frame} {meth : Method} {c : Code} {H : Heap} {locs : List Loc} {cells slots : Nat} {Q : State → Prop} {cc : ByteArray} {pc : Nat} {ls : Array Slot} {rest : List Value} {D : va_G} {cl : List vw_C} {a : Nat} {tys : List (ClassId × FieldType)} {ws : va_W}
/-- a place of an array of arrays is read -/
theorem va_alda (hexec : p.tables.exec = Jvm.exec) (hb : c.code = cc) (hK : va_K D cl tys s) (hP : va_P D cl ws H) (q0 t0 : Nat) {cA : ClassId} {ty : FieldType} {n : Nat} {f : Nat → Option Nat} (ha : ws[q0]? = some (a, .inl (cA, n, .inr (.inr (.inr (.inr f)))))) (ht : tys[t0]? = some (cA, .array ty)) {i : Int32} (hin : vp_in i n) (hdg : decode cc pc = .ok (.aaload, 1))
    (kk : W p l e R s m args below meth c H locs cells slots Q (F0 m (pc + 1) ls (va_rf (f i.toNatClampNeg) :: rest))) : W p l e R s m args below meth c H locs cells slots Q (F0 m pc ls (.int i :: .ref a :: rest)) := by
  have hlt : i.toNatClampNeg < n := Nat.not_le.mp fun q => hin (Or.inr q)
  exact W.aald (v := va_rf (f i.toNatClampNeg)) (ty := .array ty) hexec hb (hP q0 _ ha) ((hK.2 t0 _ ht).1 n (fun j => va_rf (f j))) rfl (fun q => by cases q) (by show ¬ (i < 0 ∨ (arrV _ _ _).slots.size ≤ _); rw [arrV_size]; exact hin) (by show (arrV _ _ _).slots[_]? = _; rw [arrV_read _ _ hlt]) rfl rfl hdg kk
end

set_option maxHeartbeats 4000000 in
set_option maxRecDepth 100000 in
theorem c_rowOf (l : Launch) (dC : Nat → ClassId) (dI : Nat → Nat → Nat) (x : Int32) : Met l yX11_rowOf wsX11_rowOf ({ frames := 0, cells := 0, slots := 0, locals := 0 } : Room) (va_Pc [.int x] (fun U => True)) (vp_Si (fun r => r = x / 6)) 0 0 (fun _ => False) := by
  refine met_ofQ (cc := cX11_rowOf) (maxL := 1) (ret := (some .int)) (by decide) rfl ?_
  intro p e s m args below meth c s₁ Q B hml hv hQ
  obtain ⟨rfl, -⟩ := hv
  have hx := B.exec
  have hb := B.bytes
  have hr := B.returns
  have hts := atoms_spec (ws := wsX11_rowOf) B.pre
  have hown : s.vm.findClass RX11 = some m.cls := findClass_of_methodNamed B.named
  have hlocks := B.notSynchronized
  obtain ⟨A, hAe⟩ : ∃ A : Nat → Prop, A = fun _ => False := ⟨_, rfl⟩
  rw [← hAe] at hQ
  have hS : va_S A s.heap s.heap [] := va_S.rf
  have hl := lv_entry [.int x] (n := 1) (Nat.le_of_ble_eq_true rfl)
  rw [lg_entry_eq]
  generalize (lg_sl [.int x] ++ List.replicate (1 - (lg_sl [.int x]).length) Slot.unset).toArray = ls at hl ⊢
  generalize hag : ([.int x] : List Value).toArray = args at hts hQ ⊢
  have hl : lv_has ls 1 [(0, .int x)] := hl
  refine lv_iload_n hx hb dX11_rowOf_0 rfl (lv_at hl 0 rfl) ?_
  refine lv_bipush (v := 6) hx hb dX11_rowOf_1 (by decide) ?_
  refine lv_idiv hx hb dX11_rowOf_3 (by decide) ?_
  rw [hQ]
  exact W.iret (v := x / 6) hx hb hr (fun tQ htQ hWQ => ⟨x / 6, rfl, rfl, by rw [htQ]⟩) (fun q hq => absurd hq List.not_mem_nil) dX11_rowOf_4

set_option maxHeartbeats 4000000 in
set_option maxRecDepth 100000 in
theorem c_columnOf (l : Launch) (dC : Nat → ClassId) (dI : Nat → Nat → Nat) (x : Int32) : Met l yX11_columnOf wsX11_columnOf ({ frames := 0, cells := 0, slots := 0, locals := 0 } : Room) (va_Pc [.int x] (fun U => True)) (vp_Si (fun r => r = x - x / 6 * 6)) 0 0 (fun _ => False) := by
  refine met_ofQ (cc := cX11_columnOf) (maxL := 1) (ret := (some .int)) (by decide) rfl ?_
  intro p e s m args below meth c s₁ Q B hml hv hQ
  obtain ⟨rfl, -⟩ := hv
  have hx := B.exec
  have hb := B.bytes
  have hr := B.returns
  have hts := atoms_spec (ws := wsX11_columnOf) B.pre
  have hown : s.vm.findClass RX11 = some m.cls := findClass_of_methodNamed B.named
  have hlocks := B.notSynchronized
  obtain ⟨A, hAe⟩ : ∃ A : Nat → Prop, A = fun _ => False := ⟨_, rfl⟩
  rw [← hAe] at hQ
  have hS : va_S A s.heap s.heap [] := va_S.rf
  have hl := lv_entry [.int x] (n := 1) (Nat.le_of_ble_eq_true rfl)
  rw [lg_entry_eq]
  generalize (lg_sl [.int x] ++ List.replicate (1 - (lg_sl [.int x]).length) Slot.unset).toArray = ls at hl ⊢
  generalize hag : ([.int x] : List Value).toArray = args at hts hQ ⊢
  have hl : lv_has ls 1 [(0, .int x)] := hl
  refine lv_iload_n hx hb dX11_columnOf_0 rfl (lv_at hl 0 rfl) ?_
  refine lv_bipush (v := 6) hx hb dX11_columnOf_1 (by decide) ?_
  refine lv_irem hx hb dX11_columnOf_3 (by decide) ?_
  rw [hQ]
  exact W.iret (v := x - x / 6 * 6) hx hb hr (fun tQ htQ hWQ => ⟨x - x / 6 * 6, rfl, rfl, by rw [htQ]⟩) (fun q hq => absurd hq List.not_mem_nil) dX11_columnOf_4

set_option maxHeartbeats 4000000 in
set_option maxRecDepth 100000 in
theorem c_isOnHill (l : Launch) (dC : Nat → ClassId) (dI : Nat → Nat → Nat) (x y : Int32) : Met l yX11_isOnHill wsX11_isOnHill ({ frames := 0, cells := 0, slots := 0, locals := 0 } : Room) (va_Pc [.int x, .int y] (fun U => True)) (vp_Si (fun r => (r = 1 ∧ ¬ x < 0 ∧ ¬ 5 < x ∧ ¬ y < 0 ∧ ¬ 5 < y) ∨ (r = 0 ∧ (x < 0 ∨ 5 < x ∨ y < 0 ∨ 5 < y)))) 0 0 (fun _ => False) := by
  refine met_ofQ (cc := cX11_isOnHill) (maxL := 2) (ret := (some .boolean)) (by decide) rfl ?_
  intro p e s m args below meth c s₁ Q B hml hv hQ
  obtain ⟨rfl, -⟩ := hv
  have hx := B.exec
  have hb := B.bytes
  have hr := B.returns
  have hts := atoms_spec (ws := wsX11_isOnHill) B.pre
  have hown : s.vm.findClass RX11 = some m.cls := findClass_of_methodNamed B.named
  have hlocks := B.notSynchronized
  obtain ⟨A, hAe⟩ : ∃ A : Nat → Prop, A = fun _ => False := ⟨_, rfl⟩
  rw [← hAe] at hQ
  have hS : va_S A s.heap s.heap [] := va_S.rf
  have hl := lv_entry [.int x, .int y] (n := 2) (Nat.le_of_ble_eq_true rfl)
  rw [lg_entry_eq]
  generalize (lg_sl [.int x, .int y] ++ List.replicate (2 - (lg_sl [.int x, .int y]).length) Slot.unset).toArray = ls at hl ⊢
  generalize hag : ([.int x, .int y] : List Value).toArray = args at hts hQ ⊢
  have hl : lv_has ls 2 [(0, .int x), (1, .int y)] := hl
  refine lv_iload_n hx hb dX11_isOnHill_0 rfl (lv_at hl 0 rfl) ?_
  refine lv_if_lt (tgt := 24) hx hb dX11_isOnHill_1 (by decide) (fun c_1 => ?_) (fun c_1 => ?_)
  · skip
    refine lv_iconst (v := 0) hx hb dX11_isOnHill_24 (by decide) ?_
    rw [hQ]
    exact W.zret (v := 0) hx hb hr rfl (fun tQ htQ hWQ => ⟨0, rfl, by simp_all, by rw [htQ]⟩) (fun q hq => absurd hq List.not_mem_nil) dX11_isOnHill_25
  · skip
    refine lv_iload_n hx hb dX11_isOnHill_4 rfl (lv_at hl 0 rfl) ?_
    refine lv_bipush (v := 6) hx hb dX11_isOnHill_5 (by decide) ?_
    refine lv_icmp_ge (tgt := 24) hx hb dX11_isOnHill_7 (by decide) (fun c_2 => ?_) (fun c_2 => ?_)
    · skip
      rw [le_lt (b := 5) rfl] at c_2
      refine lv_iconst (v := 0) hx hb dX11_isOnHill_24 (by decide) ?_
      rw [hQ]
      exact W.zret (v := 0) hx hb hr rfl (fun tQ htQ hWQ => ⟨0, rfl, by simp_all, by rw [htQ]⟩) (fun q hq => absurd hq List.not_mem_nil) dX11_isOnHill_25
    · skip
      rw [le_lt (b := 5) rfl] at c_2
      refine lv_iload_n hx hb dX11_isOnHill_10 rfl (lv_at hl 1 rfl) ?_
      refine lv_if_lt (tgt := 24) hx hb dX11_isOnHill_11 (by decide) (fun c_3 => ?_) (fun c_3 => ?_)
      · skip
        refine lv_iconst (v := 0) hx hb dX11_isOnHill_24 (by decide) ?_
        rw [hQ]
        exact W.zret (v := 0) hx hb hr rfl (fun tQ htQ hWQ => ⟨0, rfl, by simp_all, by rw [htQ]⟩) (fun q hq => absurd hq List.not_mem_nil) dX11_isOnHill_25
      · skip
        refine lv_iload_n hx hb dX11_isOnHill_14 rfl (lv_at hl 1 rfl) ?_
        refine lv_bipush (v := 6) hx hb dX11_isOnHill_15 (by decide) ?_
        refine lv_icmp_ge (tgt := 24) hx hb dX11_isOnHill_17 (by decide) (fun c_4 => ?_) (fun c_4 => ?_)
        · skip
          rw [le_lt (b := 5) rfl] at c_4
          refine lv_iconst (v := 0) hx hb dX11_isOnHill_24 (by decide) ?_
          rw [hQ]
          exact W.zret (v := 0) hx hb hr rfl (fun tQ htQ hWQ => ⟨0, rfl, by simp_all, by rw [htQ]⟩) (fun q hq => absurd hq List.not_mem_nil) dX11_isOnHill_25
        · skip
          rw [le_lt (b := 5) rfl] at c_4
          refine lv_iconst (v := 1) hx hb dX11_isOnHill_20 (by decide) ?_
          refine lv_goto (tgt := 25) hx hb dX11_isOnHill_21 (by decide) ?_
          rw [hQ]
          exact W.zret (v := 1) hx hb hr rfl (fun tQ htQ hWQ => ⟨1, rfl, by simp_all, by rw [htQ]⟩) (fun q hq => absurd hq List.not_mem_nil) dX11_isOnHill_25

theorem kc_beside_0 : (.fieldLink RX11 266 "MistHeaps" "DOWN" "[I" : Cond) ∈ wsX11_besideOrSame := by decide +kernel
theorem kc_beside_1 : (.fieldLink RX11 269 "MistHeaps" "RIGHT" "[I" : Cond) ∈ wsX11_besideOrSame := by decide +kernel
set_option maxHeartbeats 4000000 in
set_option maxRecDepth 100000 in
theorem c_beside (l : Launch) (dC : Nat → ClassId) (dI : Nat → Nat → Nat) (gd : Nat → Nat) (j w : Nat) (zj : j < 36) (zw : w < 8) : Met l yX11_besideOrSame wsX11_besideOrSame ({ frames := 1, cells := 0, slots := 0, locals := 21 } : Room) (va_Pc [.int (nI j), .int (nI w)] (fun U => Gl gd (fun _ => False) U)) (vp_Si (fun r => r = nI (nb j w))) 0 0 (fun _ => False) := by
  refine met_ofQ (cc := cX11_besideOrSame) (maxL := 4) (ret := (some .int)) (by decide) rfl ?_
  intro p e s m args below meth c s₁ Q B hml hv hQ
  obtain ⟨rfl, hG⟩ := hv
  have hx := B.exec
  have hb := B.bytes
  have hr := B.returns
  have hts := atoms_spec (ws := wsX11_besideOrSame) B.pre
  have hown : s.vm.findClass RX11 = some m.cls := findClass_of_methodNamed B.named
  have hlocks := B.notSynchronized
  obtain ⟨A, hAe⟩ : ∃ A : Nat → Prop, A = fun _ => False := ⟨_, rfl⟩
  rw [← hAe] at hQ hG
  have hS : va_S A s.heap s.heap [] := va_S.rf
  have hl := lv_entry [.int (nI j), .int (nI w)] (n := 4) (Nat.le_of_ble_eq_true rfl)
  rw [lg_entry_eq]
  generalize (lg_sl [.int (nI j), .int (nI w)] ++ List.replicate (4 - (lg_sl [.int (nI j), .int (nI w)]).length) Slot.unset).toArray = ls at hl ⊢
  generalize hag : ([.int (nI j), .int (nI w)] : List Value).toArray = args at hts hQ ⊢
  have hl : lv_has ls 4 [(0, .int (nI j)), (1, .int (nI w))] := hl
  refine lv_iload_n hx hb dX11_besideOrSame_0 rfl (lv_at hl 0 rfl) ?_
  refine vp_callSi (va_runS (As := [.int (nI j)]) (rest := []) ⟨hx, hb, hml, hown, hts⟩ (c_rowOf l dC dI (nI j)) (va_cwS 1 hts gX11_besideOrSame_X11_rowOf rfl rfl rfl (by decide +kernel) ⟨Nat.le_of_ble_eq_true rfl, Nat.le_of_ble_eq_true rfl⟩) ⟨fun a U g mk q => ⟨q.1, trivial⟩, fun U hU hW => ⟨rfl, trivial⟩⟩ rfl rfl hl.1 rfl (lv_room (Nat.le_of_ble_eq_true rfl)) dX11_besideOrSame_1 ⟨Nat.le_of_ble_eq_true rfl, Nat.le_of_ble_eq_true rfl⟩).run (fun r_1 hw_2 => ?_)
  refine qi_as (y := nI (j / 6)) (hw_2.trans (pk_div (a := j) (d := 6) (by omega) (by omega) (by omega))) ?_
  refine va_gets (C := "MistHeaps") (n := "DOWN") (d := "[I") (v := .ref (gd 0)) hx hb hG.2.1 hS hown (hts (.fieldLink RX11 266 "MistHeaps" "DOWN" "[I") kc_beside_0) (fun _ h9 => h9) dX11_besideOrSame_4 ?_
  refine lv_iload_n hx hb dX11_besideOrSame_7 rfl (lv_at hl 1 rfl) ?_
  refine va_ti (v := .int (fDown w)) hx hb hG.2.2.1 hS (vp_in_nI (n := w) (N := 8) (by omega) (by omega)) (by rw [nI_clamp (by omega)]) dX11_besideOrSame_8 ?_
  refine lv_iadd hx hb dX11_besideOrSame_9 ?_
  refine lv_istore_n (lv' := [(2, .int ((nI (j / 6)) + (fDown w))), (0, .int (nI j)), (1, .int (nI w))]) hx hb dX11_besideOrSame_10 rfl hl (by decide) rfl (fun ls hl => ?_)
  refine lv_iload_n hx hb dX11_besideOrSame_11 rfl (lv_at hl 1 rfl) ?_
  refine vp_callSi (va_runS (As := [.int (nI j)]) (rest := []) ⟨hx, hb, hml, hown, hts⟩ (c_columnOf l dC dI (nI j)) (va_cwS 1 hts gX11_besideOrSame_X11_columnOf rfl rfl rfl (by decide +kernel) ⟨Nat.le_of_ble_eq_true rfl, Nat.le_of_ble_eq_true rfl⟩) ⟨fun a U g mk q => ⟨q.1, trivial⟩, fun U hU hW => ⟨rfl, trivial⟩⟩ rfl rfl hl.1 rfl (lv_room (Nat.le_of_ble_eq_true rfl)) dX11_besideOrSame_12 ⟨Nat.le_of_ble_eq_true rfl, Nat.le_of_ble_eq_true rfl⟩).run (fun r_3 hw_4 => ?_)
  refine qi_as (y := nI (j % 6)) (hw_4.trans (pk_rem (a := j) (d := 6) (by omega) (by omega) (by omega))) ?_
  refine va_gets (C := "MistHeaps") (n := "RIGHT") (d := "[I") (v := .ref (gd 1)) hx hb hG.2.2.2.1 hS hown (hts (.fieldLink RX11 269 "MistHeaps" "RIGHT" "[I") kc_beside_1) (fun _ h9 => h9) dX11_besideOrSame_15 ?_
  refine lv_iload_n hx hb dX11_besideOrSame_18 rfl (lv_at hl 2 rfl) ?_
  refine va_ti (v := .int (fRight w)) hx hb hG.2.2.2.2 hS (vp_in_nI (n := w) (N := 8) (by omega) (by omega)) (by rw [nI_clamp (by omega)]) dX11_besideOrSame_19 ?_
  refine lv_iadd hx hb dX11_besideOrSame_20 ?_
  refine lv_istore_n (lv' := [(3, .int ((nI (j % 6)) + (fRight w))), (2, .int ((nI (j / 6)) + (fDown w))), (0, .int (nI j)), (1, .int (nI w))]) hx hb dX11_besideOrSame_21 rfl hl (by decide) rfl (fun ls hl => ?_)
  refine lv_iload_n hx hb dX11_besideOrSame_22 rfl (lv_at hl 1 rfl) ?_
  refine lv_iload_n hx hb dX11_besideOrSame_23 rfl (lv_at hl 0 rfl) ?_
  refine vp_callSi (va_runS (As := [.int ((nI (j / 6)) + (fDown w)), .int ((nI (j % 6)) + (fRight w))]) (rest := []) ⟨hx, hb, hml, hown, hts⟩ (c_isOnHill l dC dI (nI (j / 6) + fDown w) (nI (j % 6) + fRight w)) (va_cwS 2 hts gX11_besideOrSame_X11_isOnHill rfl rfl rfl (by decide +kernel) ⟨Nat.le_of_ble_eq_true rfl, Nat.le_of_ble_eq_true rfl⟩) ⟨fun a U g mk q => ⟨q.1, trivial⟩, fun U hU hW => ⟨rfl, trivial⟩⟩ rfl rfl hl.1 rfl (lv_room (Nat.le_of_ble_eq_true rfl)) dX11_besideOrSame_24 ⟨Nat.le_of_ble_eq_true rfl, Nat.le_of_ble_eq_true rfl⟩).run (fun r_5 hw_6 => ?_)
  rcases hw_6 with ⟨rfl, h_7, h_8, h_9, h_10⟩ | ⟨rfl, h_11⟩
  · skip
    refine lv_if_eq (tgt := 39) hx hb dX11_besideOrSame_27 (by decide) (fun c_12 => absurd c_12 (by decide)) (fun _ => ?_)
    refine lv_iload_n hx hb dX11_besideOrSame_30 rfl (lv_at hl 1 rfl) ?_
    refine lv_bipush (v := 6) hx hb dX11_besideOrSame_31 (by decide) ?_
    refine lv_imul hx hb dX11_besideOrSame_33 ?_
    refine lv_iload_n hx hb dX11_besideOrSame_34 rfl (lv_at hl 0 rfl) ?_
    refine lv_iadd hx hb dX11_besideOrSame_35 ?_
    refine lv_goto (tgt := 40) hx hb dX11_besideOrSame_36 (by decide) ?_
    rw [hQ]
    exact W.iret (v := (((nI (j / 6)) + (fDown w)) * 6) + ((nI (j % 6)) + (fRight w))) hx hb hr (fun tQ htQ hWQ => ⟨(((nI (j / 6)) + (fDown w)) * 6) + ((nI (j % 6)) + (fRight w)), rfl, by first | exact (nb_in' j zj w zw ⟨by assumption, by assumption, by assumption, by assumption⟩).2 | rw [nb_out' j zj w zw (by assumption)], by rw [htQ]⟩) (fun q hq => absurd hq List.not_mem_nil) dX11_besideOrSame_40
  · skip
    refine lv_if_eq (tgt := 39) hx hb dX11_besideOrSame_27 (by decide) (fun _ => ?_) (fun c_13 => absurd c_13 (by decide))
    refine lv_iload_n hx hb dX11_besideOrSame_39 rfl (lv_at hl 2 rfl) ?_
    rw [hQ]
    exact W.iret (v := nI j) hx hb hr (fun tQ htQ hWQ => ⟨nI j, rfl, by first | exact (nb_in' j zj w zw ⟨by assumption, by assumption, by assumption, by assumption⟩).2 | rw [nb_out' j zj w zw (by assumption)], by rw [htQ]⟩) (fun q hq => absurd hq List.not_mem_nil) dX11_besideOrSame_40

set_option maxHeartbeats 4000000 in
set_option maxRecDepth 100000 in
theorem c_isIn (l : Launch) (dC : Nat → ClassId) (dI : Nat → Nat → Nat) (mk : Int64) (c0 : Nat) : Met l yX11_isIn wsX11_isIn ({ frames := 0, cells := 0, slots := 0, locals := 0 } : Room) (va_Pc [.long mk, .int (nI c0)] (fun U => True)) (vp_Si (fun r => r = hz mk c0)) 0 0 (fun _ => False) := by
  refine met_ofQ (cc := cX11_isIn) (maxL := 3) (ret := (some .boolean)) (by decide) rfl ?_
  intro p e s m args below meth c s₁ Q B hml hv hQ
  obtain ⟨rfl, -⟩ := hv
  have hx := B.exec
  have hb := B.bytes
  have hr := B.returns
  have hts := atoms_spec (ws := wsX11_isIn) B.pre
  have hown : s.vm.findClass RX11 = some m.cls := findClass_of_methodNamed B.named
  have hlocks := B.notSynchronized
  obtain ⟨A, hAe⟩ : ∃ A : Nat → Prop, A = fun _ => False := ⟨_, rfl⟩
  rw [← hAe] at hQ
  have hS : va_S A s.heap s.heap [] := va_S.rf
  have hl := lv_entry [.long mk, .int (nI c0)] (n := 3) (Nat.le_of_ble_eq_true rfl)
  rw [lg_entry_eq]
  generalize (lg_sl [.long mk, .int (nI c0)] ++ List.replicate (3 - (lg_sl [.long mk, .int (nI c0)]).length) Slot.unset).toArray = ls at hl ⊢
  generalize hag : ([.long mk, .int (nI c0)] : List Value).toArray = args at hts hQ ⊢
  have hl : lv_has ls 3 [(0, .long mk), (2, .int (nI c0))] := hl
  refine lv_lload_n hx hb dX11_isIn_0 rfl (lv_at hl 0 rfl) ?_
  refine lv_iload_n hx hb dX11_isIn_1 rfl (lv_at hl 1 rfl) ?_
  refine lv_lshr (v := mk >>> ((nI c0).toInt64 &&& 63)) hx hb dX11_isIn_2 (rfl) ?_
  refine lv_lconst (v := 1) hx hb dX11_isIn_3 (by decide) ?_
  refine lv_land hx hb dX11_isIn_4 ?_
  refine lv_lconst (v := 1) hx hb dX11_isIn_5 (by decide) ?_
  refine W.lcmp hx hb dX11_isIn_6 ?_
  refine lv_if_ne (tgt := 14) hx hb dX11_isIn_7 (by decide) (fun c_1 => ?_) (fun c_1 => ?_)
  · skip
    rw [lg_cmp_eq] at c_1
    refine lv_iconst (v := 0) hx hb dX11_isIn_14 (by decide) ?_
    rw [hQ]
    exact W.zret (v := 0) hx hb hr rfl (fun tQ htQ hWQ => ⟨0, rfl, by unfold hz; simp_all, by rw [htQ]⟩) (fun q hq => absurd hq List.not_mem_nil) dX11_isIn_15
  · skip
    rw [lg_cmp_eq] at c_1
    refine lv_iconst (v := 1) hx hb dX11_isIn_10 (by decide) ?_
    refine lv_goto (tgt := 15) hx hb dX11_isIn_11 (by decide) ?_
    rw [hQ]
    exact W.zret (v := 1) hx hb hr rfl (fun tQ htQ hWQ => ⟨1, rfl, by unfold hz; simp_all, by rw [htQ]⟩) (fun q hq => absurd hq List.not_mem_nil) dX11_isIn_15

theorem kc_hit_0 : (.initialized RX11 : Cond) ∈ wsX0_hit := by decide +kernel
theorem kc_hit_1 : (.static yX11_isIn : Cond) ∈ wsX0_hit := by decide +kernel
set_option maxHeartbeats 4000000 in
set_option maxRecDepth 100000 in
theorem c_hit (l : Launch) (dC : Nat → ClassId) (dI : Nat → Nat → Nat) (gd : Nat → Nat) (mk : Int64) (c0 : Nat) : Met l yX0_hit wsX0_hit ({ frames := 1, cells := 0, slots := 0, locals := 22 } : Room) (va_Pc [.long mk, .int (nI c0)] (fun U => Gl gd (fun _ => False) U)) (vp_Si (fun r => r = hz mk c0)) 0 0 (fun _ => False) := by
  refine met_ofQ (cc := cX0_hit) (maxL := 3) (ret := (some .int)) (by decide) rfl ?_
  intro p e s m args below meth c s₁ Q B hml hv hQ
  obtain ⟨rfl, hG⟩ := hv
  have hx := B.exec
  have hb := B.bytes
  have hr := B.returns
  have hts := atoms_spec (ws := wsX0_hit) B.pre
  have hown : s.vm.findClass RX0 = some m.cls := findClass_of_methodNamed B.named
  have hlocks := B.notSynchronized
  obtain ⟨A, hAe⟩ : ∃ A : Nat → Prop, A = fun _ => False := ⟨_, rfl⟩
  rw [← hAe] at hQ hG
  have hS : va_S A s.heap s.heap [] := va_S.rf
  have hl := lv_entry [.long mk, .int (nI c0)] (n := 3) (Nat.le_of_ble_eq_true rfl)
  rw [lg_entry_eq]
  generalize (lg_sl [.long mk, .int (nI c0)] ++ List.replicate (3 - (lg_sl [.long mk, .int (nI c0)]).length) Slot.unset).toArray = ls at hl ⊢
  generalize hag : ([.long mk, .int (nI c0)] : List Value).toArray = args at hts hQ ⊢
  have hl : lv_has ls 3 [(0, .long mk), (2, .int (nI c0))] := hl
  refine lv_lload_n hx hb dX0_hit_0 rfl (lv_at hl 0 rfl) ?_
  refine lv_iload_n hx hb dX0_hit_1 rfl (lv_at hl 1 rfl) ?_
  refine vp_callSi (va_runSN (As := [.long mk, .int (nI c0)]) (rest := []) ⟨hx, hb, hml, hown, hts⟩ (c_isIn l dC dI mk c0) ⟨va_cnB 2 hts ggX0_hit_X11_isIn rfl rfl rfl (hG.1 (.methodLinkNest RX0 44 yX11_isIn "MistHeaps") (by decide +kernel)) (hts (.initialized RX11) kc_hit_0) (by decide +kernel) ⟨Nat.le_of_ble_eq_true rfl, Nat.le_of_ble_eq_true rfl⟩, (hts (.static yX11_isIn) kc_hit_1), trivial⟩ ⟨fun a U g mk q => ⟨q.1, trivial⟩, fun U hU hW => ⟨rfl, trivial⟩⟩ rfl rfl hl.1 rfl (lv_room (Nat.le_of_ble_eq_true rfl)) dX0_hit_2 ⟨Nat.le_of_ble_eq_true rfl, Nat.le_of_ble_eq_true rfl⟩).run (fun r_1 hw_2 => ?_)
  refine qi_as (y := hz mk c0) (hw_2) ?_
  refine lv_if_eq (tgt := 12) hx hb dX0_hit_5 (by decide) (fun c_3 => ?_) (fun c_3 => ?_)
  · skip
    refine lv_iconst (v := 0) hx hb dX0_hit_12 (by decide) ?_
    rw [hQ]
    exact W.iret (v := 0) hx hb hr (fun tQ htQ hWQ => ⟨0, rfl, by rcases hz_01 mk c0 with h | h <;> simp_all, by rw [htQ]⟩) (fun q hq => absurd hq List.not_mem_nil) dX0_hit_13
  · skip
    refine lv_iconst (v := 1) hx hb dX0_hit_8 (by decide) ?_
    refine lv_goto (tgt := 13) hx hb dX0_hit_9 (by decide) ?_
    rw [hQ]
    exact W.iret (v := 1) hx hb hr (fun tQ htQ hWQ => ⟨1, rfl, by rcases hz_01 mk c0 with h | h <;> simp_all, by rw [htQ]⟩) (fun q hq => absurd hq List.not_mem_nil) dX0_hit_13

theorem kc_timesOf_0 : (.constantLong RX0 25 (20) : Cond) ∈ wsX0_timesOf := by decide +kernel
set_option maxHeartbeats 4000000 in
set_option maxRecDepth 100000 in
theorem c_timesOf (l : Launch) (dC : Nat → ClassId) (dI : Nat → Nat → Nat) (n : Nat) (zn : n ≤ 6) : Met l yX0_timesOf wsX0_timesOf ({ frames := 0, cells := 0, slots := 0, locals := 0 } : Room) (va_Pc [.int (nI n)] (fun U => True)) (vp_Sl (fun r => r = lN (20 ^ n))) 0 0 (fun _ => False) := by
  refine met_ofQ (cc := cX0_timesOf) (maxL := 4) (ret := (some .long)) (by decide) rfl ?_
  intro p e s m args below meth c s₁ Q B hml hv hQ
  obtain ⟨rfl, -⟩ := hv
  have hx := B.exec
  have hb := B.bytes
  have hr := B.returns
  have hts := atoms_spec (ws := wsX0_timesOf) B.pre
  have hown : s.vm.findClass RX0 = some m.cls := findClass_of_methodNamed B.named
  have hlocks := B.notSynchronized
  obtain ⟨A, hAe⟩ : ∃ A : Nat → Prop, A = fun _ => False := ⟨_, rfl⟩
  rw [← hAe] at hQ
  have hS : va_S A s.heap s.heap [] := va_S.rf
  have hl := lv_entry [.int (nI n)] (n := 4) (Nat.le_of_ble_eq_true rfl)
  rw [lg_entry_eq]
  generalize (lg_sl [.int (nI n)] ++ List.replicate (4 - (lg_sl [.int (nI n)]).length) Slot.unset).toArray = ls at hl ⊢
  generalize hag : ([.int (nI n)] : List Value).toArray = args at hts hQ ⊢
  have hl : lv_has ls 4 [(0, .int (nI n))] := hl
  refine lv_lconst (v := 1) hx hb dX0_timesOf_0 (by decide) ?_
  refine lv_lstore_n (lv' := [(1, .long 1), (0, .int (nI n))]) hx hb dX0_timesOf_1 rfl hl (by decide) rfl (fun ls hl => ?_)
  refine lv_iconst (v := 0) hx hb dX0_timesOf_2 (by decide) ?_
  refine lv_istore_n (lv' := [(3, .int 0), (1, .long 1), (0, .int (nI n))]) hx hb dX0_timesOf_3 rfl hl (by decide) rfl (fun ls hl => ?_)
  have L4 : ∀ (nF : Nat) (i : Nat), n - i < nF → (i ≤ n) → ∀ (ls : Array Slot), lv_has ls 4 [(0, .int (nI n)), (1, .long (lN (20 ^ i))), (3, .int (nI i))] → W p l e ({ frames := 0, cells := 0, slots := 0, locals := 0 } : Room) s m args below meth c s.heap [] 0 0 Q (F0 m 4 ls []) := by
    intro nF
    induction nF with
    | zero => intro i hm; exact absurd hm (Nat.not_lt_zero _)
    | succ nF ih4 =>
      intro i hm hi ls hl
      refine lv_iload_n hx hb dX0_timesOf_4 rfl (lv_at hl 2 rfl) ?_
      refine lv_iload_n hx hb dX0_timesOf_5 rfl (lv_at hl 0 rfl) ?_
      refine lv_icmp_ge (tgt := 21) hx hb dX0_timesOf_6 (by decide) (fun c_1 => ?_) (fun c_1 => ?_)
      · skip
        have c_1 : n ≤ i := (nI_leI (a := n) (b := i) (by omega) (by omega)).mp c_1
        refine lv_lload_n hx hb dX0_timesOf_21 rfl (lv_at hl 1 rfl) ?_
        rw [hQ]
        exact W.lret (v := lN (20 ^ i)) hx hb hr (fun tQ htQ hWQ => ⟨lN (20 ^ i), rfl, (by rw [show i = n by omega]), by rw [htQ]⟩) (fun q hq => absurd hq List.not_mem_nil) dX0_timesOf_22
      · skip
        have c_1 : ¬ n ≤ i := fun q => c_1 ((nI_leI (a := n) (b := i) (by omega) (by omega)).mpr q)
        refine lv_lload_n hx hb dX0_timesOf_9 rfl (lv_at hl 1 rfl) ?_
        refine lv_ldc2 (v := 20) hx hb hown (hts (.constantLong RX0 25 (20)) kc_timesOf_0) dX0_timesOf_10 ?_
        refine lv_lmul hx hb dX0_timesOf_13 ?_
        refine ql_as (y := lN (20 ^ (i + 1))) (mul20' i) ?_
        refine lv_lstore_n (lv' := [(1, .long (lN (20 ^ (i + 1)))), (0, .int (nI n)), (3, .int (nI i))]) hx hb dX0_timesOf_14 rfl hl (by decide) rfl (fun ls hl => ?_)
        refine lv_iinc (v := nI (i + 1)) (lv' := [(3, .int (nI (i + 1))), (1, .long (lN (20 ^ (i + 1)))), (0, .int (nI n))]) hx hb dX0_timesOf_15 hl (k := 2) rfl (nI_add i 1) (by decide) rfl (fun ls hl => ?_)
        refine lv_goto (tgt := 4) hx hb dX0_timesOf_18 (by decide) ?_
        exact ih4 _ (by omega) (by omega) ls (lv_sub hl [2, 1, 0] rfl)
  exact L4 _ (0) (Nat.lt_succ_self _) (by omega) ls (lv_sub hl [2, 1, 0] rfl)

set_option maxHeartbeats 4000000 in
set_option maxRecDepth 100000 in
theorem c_common (l : Launch) (dC : Nat → ClassId) (dI : Nat → Nat → Nat) (a b : Nat) (za : a < 2 ^ 62) (zb : b < 2 ^ 62) (z0 : 0 < b) (zd : a % b = 0) : Met l yX11_commonDivisor wsX11_commonDivisor ({ frames := 0, cells := 0, slots := 0, locals := 0 } : Room) (va_Pc [.long (lN a), .long (lN b)] (fun U => True)) (vp_Sl (fun r => r = lN b)) 0 0 (fun _ => False) := by
  refine met_ofQ (cc := cX11_commonDivisor) (maxL := 7) (ret := (some .long)) (by decide) rfl ?_
  intro p e s m args below meth c s₁ Q B hml hv hQ
  obtain ⟨rfl, -⟩ := hv
  have hx := B.exec
  have hb := B.bytes
  have hr := B.returns
  have hts := atoms_spec (ws := wsX11_commonDivisor) B.pre
  have hown : s.vm.findClass RX11 = some m.cls := findClass_of_methodNamed B.named
  have hlocks := B.notSynchronized
  obtain ⟨A, hAe⟩ : ∃ A : Nat → Prop, A = fun _ => False := ⟨_, rfl⟩
  rw [← hAe] at hQ
  have hS : va_S A s.heap s.heap [] := va_S.rf
  have hl := lv_entry [.long (lN a), .long (lN b)] (n := 7) (Nat.le_of_ble_eq_true rfl)
  rw [lg_entry_eq]
  generalize (lg_sl [.long (lN a), .long (lN b)] ++ List.replicate (7 - (lg_sl [.long (lN a), .long (lN b)]).length) Slot.unset).toArray = ls at hl ⊢
  generalize hag : ([.long (lN a), .long (lN b)] : List Value).toArray = args at hts hQ ⊢
  have hl : lv_has ls 7 [(0, .long (lN a)), (2, .long (lN b))] := hl
  refine lv_iconst (v := 0) hx hb dX11_commonDivisor_0 (by decide) ?_
  refine lv_istore (lv' := [(4, .int 0), (0, .long (lN a)), (2, .long (lN b))]) hx hb dX11_commonDivisor_1 hl (by decide) rfl (fun ls hl => ?_)
  refine lv_iload hx hb dX11_commonDivisor_3 (lv_at hl 0 rfl) ?_
  refine lv_bipush (v := 64) hx hb dX11_commonDivisor_5 (by decide) ?_
  refine lv_icmp_ge (tgt := 32) hx hb dX11_commonDivisor_7 (by decide) (fun c_1 => absurd c_1 (by decide)) (fun _ => ?_)
  refine lv_lload_n hx hb dX11_commonDivisor_10 rfl (lv_at hl 2 rfl) ?_
  refine lv_lconst (v := 0) hx hb dX11_commonDivisor_11 (by decide) ?_
  refine W.lcmp hx hb dX11_commonDivisor_12 ?_
  refine lv_if_eq (tgt := 32) hx hb dX11_commonDivisor_13 (by decide) (fun c_2 => absurd c_2 (fun q => (lz zb z0) ((lg_cmp_eq _ _).mp q))) (fun c_2 => ?_)
  refine lv_lload_n hx hb dX11_commonDivisor_16 rfl (lv_at hl 1 rfl) ?_
  refine lv_lload_n hx hb dX11_commonDivisor_17 rfl (lv_at hl 2 rfl) ?_
  refine lv_lrem hx hb dX11_commonDivisor_18 (lz zb z0) ?_
  refine ql_as (y := 0) (by rw [pk_lRem (by omega) z0 (by omega), zd]; rfl) ?_
  refine lv_lstore (lv' := [(5, .long 0), (4, .int 0), (0, .long (lN a)), (2, .long (lN b))]) hx hb dX11_commonDivisor_19 hl (by decide) rfl (fun ls hl => ?_)
  refine lv_lload_n hx hb dX11_commonDivisor_21 rfl (lv_at hl 3 rfl) ?_
  refine lv_lstore_n (lv' := [(0, .long (lN b)), (5, .long 0), (4, .int 0), (2, .long (lN b))]) hx hb dX11_commonDivisor_22 rfl hl (by decide) rfl (fun ls hl => ?_)
  refine lv_lload hx hb dX11_commonDivisor_23 (lv_at hl 1 rfl) ?_
  refine lv_lstore_n (lv' := [(2, .long 0), (0, .long (lN b)), (5, .long 0), (4, .int 0)]) hx hb dX11_commonDivisor_25 rfl hl (by decide) rfl (fun ls hl => ?_)
  refine lv_iinc (v := 1) (lv' := [(4, .int 1), (2, .long 0), (0, .long (lN b)), (5, .long 0)]) hx hb dX11_commonDivisor_26 hl (k := 3) rfl (by decide) (by decide) rfl (fun ls hl => ?_)
  refine lv_goto (tgt := 3) hx hb dX11_commonDivisor_29 (by decide) ?_
  refine lv_iload hx hb dX11_commonDivisor_3 (lv_at hl 0 rfl) ?_
  refine lv_bipush (v := 64) hx hb dX11_commonDivisor_5 (by decide) ?_
  refine lv_icmp_ge (tgt := 32) hx hb dX11_commonDivisor_7 (by decide) (fun c_3 => absurd c_3 (by decide)) (fun _ => ?_)
  refine lv_lload_n hx hb dX11_commonDivisor_10 rfl (lv_at hl 1 rfl) ?_
  refine lv_lconst (v := 0) hx hb dX11_commonDivisor_11 (by decide) ?_
  refine W.lcmp hx hb dX11_commonDivisor_12 ?_
  refine qi_as (y := 0) (by decide) ?_
  refine lv_if_eq (tgt := 32) hx hb dX11_commonDivisor_13 (by decide) (fun _ => ?_) (fun c_4 => absurd c_4 (by decide))
  refine lv_lload_n hx hb dX11_commonDivisor_32 rfl (lv_at hl 2 rfl) ?_
  rw [hQ]
  exact W.lret (v := lN b) hx hb hr (fun tQ htQ hWQ => ⟨lN b, rfl, rfl, by rw [htQ]⟩) (fun q hq => absurd hq List.not_mem_nil) dX11_commonDivisor_33

set_option maxHeartbeats 4000000 in
set_option maxRecDepth 100000 in
theorem c_partOf (l : Launch) (dC : Nat → ClassId) (dI : Nat → Nat → Nat) (a b : Nat) (x : Int32) (za : a < 2 ^ 62) (zb : b < 2 ^ 62) (z0 : 0 < b) (zd : a % b = 0) : Met l yX11_partOf wsX11_partOf ({ frames := 1, cells := 0, slots := 0, locals := 26 } : Room) (va_Pc [.long (lN a), .long (lN b), .int x] (fun U => True)) (vp_Sl (fun r => r = if x = 0 then lN (a / b) else 1)) 0 0 (fun _ => False) := by
  refine met_ofQ (cc := cX11_partOf) (maxL := 7) (ret := (some .long)) (by decide) rfl ?_
  intro p e s m args below meth c s₁ Q B hml hv hQ
  obtain ⟨rfl, -⟩ := hv
  have hx := B.exec
  have hb := B.bytes
  have hr := B.returns
  have hts := atoms_spec (ws := wsX11_partOf) B.pre
  have hown : s.vm.findClass RX11 = some m.cls := findClass_of_methodNamed B.named
  have hlocks := B.notSynchronized
  obtain ⟨A, hAe⟩ : ∃ A : Nat → Prop, A = fun _ => False := ⟨_, rfl⟩
  rw [← hAe] at hQ
  have hS : va_S A s.heap s.heap [] := va_S.rf
  have hl := lv_entry [.long (lN a), .long (lN b), .int x] (n := 7) (Nat.le_of_ble_eq_true rfl)
  rw [lg_entry_eq]
  generalize (lg_sl [.long (lN a), .long (lN b), .int x] ++ List.replicate (7 - (lg_sl [.long (lN a), .long (lN b), .int x]).length) Slot.unset).toArray = ls at hl ⊢
  generalize hag : ([.long (lN a), .long (lN b), .int x] : List Value).toArray = args at hts hQ ⊢
  have hl : lv_has ls 7 [(0, .long (lN a)), (2, .long (lN b)), (4, .int x)] := hl
  refine lv_lload_n hx hb dX11_partOf_0 rfl (lv_at hl 0 rfl) ?_
  refine lv_lload_n hx hb dX11_partOf_1 rfl (lv_at hl 1 rfl) ?_
  refine vp_callSl (va_runS (As := [.long (lN a), .long (lN b)]) (rest := []) ⟨hx, hb, hml, hown, hts⟩ (c_common l dC dI a b za zb z0 zd) (va_cwS 2 hts gX11_partOf_X11_commonDivisor rfl rfl rfl (by decide +kernel) ⟨Nat.le_of_ble_eq_true rfl, Nat.le_of_ble_eq_true rfl⟩) ⟨fun a U g mk q => ⟨q.1, trivial⟩, fun U hU hW => ⟨rfl, trivial⟩⟩ rfl rfl hl.1 rfl (lv_room (Nat.le_of_ble_eq_true rfl)) dX11_partOf_2 ⟨Nat.le_of_ble_eq_true rfl, Nat.le_of_ble_eq_true rfl⟩).run (fun r_1 hw_2 => ?_)
  refine ql_as (y := lN b) (hw_2) ?_
  refine lv_lstore (lv' := [(5, .long (lN b)), (0, .long (lN a)), (2, .long (lN b)), (4, .int x)]) hx hb dX11_partOf_5 hl (by decide) rfl (fun ls hl => ?_)
  refine lv_lload hx hb dX11_partOf_7 (lv_at hl 0 rfl) ?_
  refine lv_lconst (v := 0) hx hb dX11_partOf_9 (by decide) ?_
  refine W.lcmp hx hb dX11_partOf_10 ?_
  refine lv_if_gt (tgt := 18) hx hb dX11_partOf_11 (by decide) (fun c_3 => ?_) (fun c_3 => absurd c_3 (not_not_intro ((lg_cmp_gt _ _).mpr (show (lN 0 : Int64) < lN b from (pk_lLT (by omega) (by omega)).mpr z0))))
  refine lv_iload hx hb dX11_partOf_18 (lv_at hl 3 rfl) ?_
  refine lv_if_ne (tgt := 27) hx hb dX11_partOf_20 (by decide) (fun c_4 => ?_) (fun c_4 => ?_)
  · skip
    refine lv_lload_n hx hb dX11_partOf_27 rfl (lv_at hl 2 rfl) ?_
    refine lv_lload hx hb dX11_partOf_28 (lv_at hl 0 rfl) ?_
    refine lv_ldiv hx hb dX11_partOf_30 (lz zb z0) ?_
    rw [hQ]
    exact W.lret (v := (lN b) / (lN b)) hx hb hr (fun tQ htQ hWQ => ⟨(lN b) / (lN b), rfl, by simp_all [pk_lDiv (a := a) (b := b) (by omega) z0 (by omega), pk_lDiv (a := b) (b := b) (by omega) z0 (by omega), Nat.div_self z0] <;> rfl, by rw [htQ]⟩) (fun q hq => absurd hq List.not_mem_nil) dX11_partOf_31
  · skip
    refine lv_lload_n hx hb dX11_partOf_23 rfl (lv_at hl 1 rfl) ?_
    refine lv_goto (tgt := 28) hx hb dX11_partOf_24 (by decide) ?_
    refine lv_lload hx hb dX11_partOf_28 (lv_at hl 0 rfl) ?_
    refine lv_ldiv hx hb dX11_partOf_30 (lz zb z0) ?_
    rw [hQ]
    exact W.lret (v := (lN a) / (lN b)) hx hb hr (fun tQ htQ hWQ => ⟨(lN a) / (lN b), rfl, by simp_all [pk_lDiv (a := a) (b := b) (by omega) z0 (by omega), pk_lDiv (a := b) (b := b) (by omega) z0 (by omega), Nat.div_self z0] <;> rfl, by rw [htQ]⟩) (fun q hq => absurd hq List.not_mem_nil) dX11_partOf_31

theorem kc_tellFacts_0 : ∀ w ∈ wsX80, w ∈ wsX8_tellFacts := by decide +kernel
theorem kc_tellFacts_1 : (.fieldLink RX8 34 "MistHeaps$Scene" "facts" "[I" : Cond) ∈ wsX8_tellFacts := by decide +kernel
theorem kc_tellFacts_2 : (.initialized RX11 : Cond) ∈ wsX8_tellFacts := by decide +kernel
theorem kc_tellFacts_3 : (.static yX11_rowOf : Cond) ∈ wsX8_tellFacts := by decide +kernel
theorem kc_tellFacts_4 : (.static yX11_columnOf : Cond) ∈ wsX8_tellFacts := by decide +kernel
theorem kc_tellFacts_5 : (.fieldLink RX8 54 "MistHeaps$Scene" "mist" "I" : Cond) ∈ wsX8_tellFacts := by decide +kernel
set_option maxHeartbeats 4000000 in
set_option maxRecDepth 100000 in
theorem c_tellFacts (l : Launch) (dC : Nat → ClassId) (dI : Nat → Nat → Nat) (gd : Nat → Nat) (sc aTp aHl aHs aWk aBk aFc : Nat) (cF : ClassId) (fF : Nat → Int32) (x y z u0 : Int32) (sz : Nat) : Met l yX8_tellFacts wsX8_tellFacts ({ frames := 1, cells := 0, slots := 0, locals := 20 } : Room) (va_Pc [.ref sc, .int x, .int y, .int z, .int u0] (fun U => U.heap.size = sz ∧ va_P (dC, dI) vwCl [(sc, .inr (10, [.ref aTp, .int 0, .ref aHl, .int 0, .long 0, .int 0, .int 0, .ref aHs, .int 0, .ref aWk, .int 0, .ref aBk, .int 0, .ref aFc])), (aFc, .inl (cF, 6, .inl fF))] U.heap ∧ va_K (dC, dI) vwCl [(cF, .int)] U ∧ va_D (fun _ => True) [(sc, .inr (10, [.ref aTp, .int 0, .ref aHl, .int 0, .long 0, .int 0, .int 0, .ref aHs, .int 0, .ref aWk, .int 0, .ref aBk, .int 0, .ref aFc])), (aFc, .inl (cF, 6, .inl fF))] ∧ Gl gd (va_A [(sc, .inr (10, [.ref aTp, .int 0, .ref aHl, .int 0, .long 0, .int 0, .int 0, .ref aHs, .int 0, .ref aWk, .int 0, .ref aBk, .int 0, .ref aFc])), (aFc, .inl (cF, 6, .inl fF))] sz) U)) (va_Qv (fun (u : Nat → Int32) => match u with | fF2 => True) (fun (u : Nat → Int32) (t : State) => match u with | fF2 => va_P (dC, dI) vwCl [(sc, .inr (10, [.ref aTp, .int 0, .ref aHl, .int 0, .long 0, .int 0, .int 0, .ref aHs, .int 0, .ref aWk, .int 0, .ref aBk, .int 0, .ref aFc])), (aFc, .inl (cF, 6, .inl fF2))] t.heap ∧ va_K (dC, dI) vwCl [(cF, .int)] t ∧ va_D (va_A [(sc, .inr (10, [.ref aTp, .int 0, .ref aHl, .int 0, .long 0, .int 0, .int 0, .ref aHs, .int 0, .ref aWk, .int 0, .ref aBk, .int 0, .ref aFc])), (aFc, .inl (cF, 6, .inl fF))] sz) [(sc, .inr (10, [.ref aTp, .int 0, .ref aHl, .int 0, .long 0, .int 0, .int 0, .ref aHs, .int 0, .ref aWk, .int 0, .ref aBk, .int 0, .ref aFc])), (aFc, .inl (cF, 6, .inl fF2))]) (va_A [(sc, .inr (10, [.ref aTp, .int 0, .ref aHl, .int 0, .long 0, .int 0, .int 0, .ref aHs, .int 0, .ref aWk, .int 0, .ref aBk, .int 0, .ref aFc])), (aFc, .inl (cF, 6, .inl fF))] sz)) 0 0 (va_A [(sc, .inr (10, [.ref aTp, .int 0, .ref aHl, .int 0, .long 0, .int 0, .int 0, .ref aHs, .int 0, .ref aWk, .int 0, .ref aBk, .int 0, .ref aFc])), (aFc, .inl (cF, 6, .inl fF))] sz) := by
  refine met_ofQ (cc := cX8_tellFacts) (maxL := 5) (ret := none) (by decide) rfl ?_
  intro p e s m args below meth c s₁ Q B hml hv hQ
  obtain ⟨rfl, hsz, hP, hK, hD0, hG⟩ := hv
  have hx := B.exec
  have hb := B.bytes
  have hr := B.returns
  have hts := atoms_spec (ws := wsX8_tellFacts) B.pre
  have hown : s.vm.findClass RX8 = some m.cls := findClass_of_methodNamed B.named
  have hlocks := B.notSynchronized
  subst hsz
  have hD := hD0.self (sz := s.heap.size)
  generalize hAe : va_A [(sc, .inr (10, [.ref aTp, .int 0, .ref aHl, .int 0, .long 0, .int 0, .int 0, .ref aHs, .int 0, .ref aWk, .int 0, .ref aBk, .int 0, .ref aFc])), (aFc, .inl (cF, 6, .inl fF))] s.heap.size = A at hD hQ hG ⊢
  have hA : ∀ q : Nat, s.heap.size ≤ q → A q := fun q h => by rw [← hAe]; exact Or.inr h
  have hS : va_S A s.heap s.heap [] := va_S.rf
  have hl := lv_entry [.ref sc, .int x, .int y, .int z, .int u0] (n := 5) (Nat.le_of_ble_eq_true rfl)
  rw [lg_entry_eq]
  generalize (lg_sl [.ref sc, .int x, .int y, .int z, .int u0] ++ List.replicate (5 - (lg_sl [.ref sc, .int x, .int y, .int z, .int u0]).length) Slot.unset).toArray = ls at hl ⊢
  generalize hag : ([.ref sc, .int x, .int y, .int z, .int u0] : List Value).toArray = args at hts hQ ⊢
  have hl : lv_has ls 5 [(0, .ref sc), (1, .int x), (2, .int y), (3, .int z), (4, .int u0)] := hl
  obtain ⟨H, hH⟩ : ∃ H : Heap, H = s.heap := ⟨_, rfl⟩
  rw [← hH] at hP
  rw [← hH]
  have hS : va_S A s.heap H [] := by rw [hH]; exact hS
  obtain ⟨locs, hlo⟩ : ∃ L : List Loc, L = [] := ⟨_, rfl⟩
  rw [← hlo] at hS
  rw [← hlo]
  clear hH hlo
  refine lv_aload_n hx hb dX8_tellFacts_0 rfl (lv_at hl 0 rfl) ?_
  refine va_get (D := (dC, dI)) (ci := 10) (v := .ref aFc) (C := RX8) (T := TX8) (N := 14) hx hb hts kc_tellFacts_0 hown hK hP 0 rfl rfl 13 (by decide) (hts (.fieldLink RX8 34 "MistHeaps$Scene" "facts" "[I") kc_tellFacts_1) (fun _ h9 => h9) rfl dX8_tellFacts_1 ?_
  refine lv_iconst (v := 0) hx hb dX8_tellFacts_4 (by decide) ?_
  refine lv_iload_n hx hb dX8_tellFacts_5 rfl (lv_at hl 1 rfl) ?_
  refine va_iast hx hb hK hP hD hS 1 0 rfl rfl (vp_in_nI (n := 0) (N := 6) (by omega) (by omega)) dX8_tellFacts_6 (fun H locs hP hD hS => ?_)
  have hP : va_P (dC, dI) vwCl [(sc, .inr (10, [.ref aTp, .int 0, .ref aHl, .int 0, .long 0, .int 0, .int 0, .ref aHs, .int 0, .ref aWk, .int 0, .ref aBk, .int 0, .ref aFc])), (aFc, .inl (cF, 6, .inl (upd fF 0 x)))] H := hP
  have hD : va_D A [(sc, .inr (10, [.ref aTp, .int 0, .ref aHl, .int 0, .long 0, .int 0, .int 0, .ref aHs, .int 0, .ref aWk, .int 0, .ref aBk, .int 0, .ref aFc])), (aFc, .inl (cF, 6, .inl (upd fF 0 x)))] := hD
  refine lv_aload_n hx hb dX8_tellFacts_7 rfl (lv_at hl 0 rfl) ?_
  refine va_get (D := (dC, dI)) (ci := 10) (v := .ref aFc) (C := RX8) (T := TX8) (N := 14) hx hb hts kc_tellFacts_0 hown hK hP 0 rfl rfl 13 (by decide) (hts (.fieldLink RX8 34 "MistHeaps$Scene" "facts" "[I") kc_tellFacts_1) (fun _ h9 => h9) rfl dX8_tellFacts_8 ?_
  refine lv_iconst (v := 1) hx hb dX8_tellFacts_11 (by decide) ?_
  refine lv_iload_n hx hb dX8_tellFacts_12 rfl (lv_at hl 2 rfl) ?_
  refine va_iast hx hb hK hP hD hS 1 0 rfl rfl (vp_in_nI (n := 1) (N := 6) (by omega) (by omega)) dX8_tellFacts_13 (fun H locs hP hD hS => ?_)
  have hP : va_P (dC, dI) vwCl [(sc, .inr (10, [.ref aTp, .int 0, .ref aHl, .int 0, .long 0, .int 0, .int 0, .ref aHs, .int 0, .ref aWk, .int 0, .ref aBk, .int 0, .ref aFc])), (aFc, .inl (cF, 6, .inl (upd (upd fF 0 x) 1 y)))] H := hP
  have hD : va_D A [(sc, .inr (10, [.ref aTp, .int 0, .ref aHl, .int 0, .long 0, .int 0, .int 0, .ref aHs, .int 0, .ref aWk, .int 0, .ref aBk, .int 0, .ref aFc])), (aFc, .inl (cF, 6, .inl (upd (upd fF 0 x) 1 y)))] := hD
  refine lv_aload_n hx hb dX8_tellFacts_14 rfl (lv_at hl 0 rfl) ?_
  refine va_get (D := (dC, dI)) (ci := 10) (v := .ref aFc) (C := RX8) (T := TX8) (N := 14) hx hb hts kc_tellFacts_0 hown hK hP 0 rfl rfl 13 (by decide) (hts (.fieldLink RX8 34 "MistHeaps$Scene" "facts" "[I") kc_tellFacts_1) (fun _ h9 => h9) rfl dX8_tellFacts_15 ?_
  refine lv_iconst (v := 2) hx hb dX8_tellFacts_18 (by decide) ?_
  refine lv_iload_n hx hb dX8_tellFacts_19 rfl (lv_at hl 3 rfl) ?_
  refine vp_callSi (va_runSN (As := [.int z]) (rest := [.int 2, .ref aFc]) ⟨hx, hb, hml, hown, hts⟩ (c_rowOf l dC dI z) ⟨va_cnB 1 hts ggX8_tellFacts_X11_rowOf rfl rfl rfl (hG.1 (.methodLinkNest RX8 102 yX11_rowOf "MistHeaps") (by decide +kernel)) (hts (.initialized RX11) kc_tellFacts_2) (by decide +kernel) ⟨Nat.le_of_ble_eq_true rfl, Nat.le_of_ble_eq_true rfl⟩, (hts (.static yX11_rowOf) kc_tellFacts_3), trivial⟩ ⟨fun a U g mk q => ⟨q.1, trivial⟩, fun U hU hW => ⟨rfl, trivial⟩⟩ rfl rfl hl.1 rfl (lv_room (Nat.le_of_ble_eq_true rfl)) dX8_tellFacts_20 ⟨Nat.le_of_ble_eq_true rfl, Nat.le_of_ble_eq_true rfl⟩).run (fun r_1 hw_2 => ?_)
  refine va_iast hx hb hK hP hD hS 1 0 rfl rfl (vp_in_nI (n := 2) (N := 6) (by omega) (by omega)) dX8_tellFacts_23 (fun H locs hP hD hS => ?_)
  have hP : va_P (dC, dI) vwCl [(sc, .inr (10, [.ref aTp, .int 0, .ref aHl, .int 0, .long 0, .int 0, .int 0, .ref aHs, .int 0, .ref aWk, .int 0, .ref aBk, .int 0, .ref aFc])), (aFc, .inl (cF, 6, .inl (upd (upd (upd fF 0 x) 1 y) 2 r_1)))] H := hP
  have hD : va_D A [(sc, .inr (10, [.ref aTp, .int 0, .ref aHl, .int 0, .long 0, .int 0, .int 0, .ref aHs, .int 0, .ref aWk, .int 0, .ref aBk, .int 0, .ref aFc])), (aFc, .inl (cF, 6, .inl (upd (upd (upd fF 0 x) 1 y) 2 r_1)))] := hD
  refine lv_aload_n hx hb dX8_tellFacts_24 rfl (lv_at hl 0 rfl) ?_
  refine va_get (D := (dC, dI)) (ci := 10) (v := .ref aFc) (C := RX8) (T := TX8) (N := 14) hx hb hts kc_tellFacts_0 hown hK hP 0 rfl rfl 13 (by decide) (hts (.fieldLink RX8 34 "MistHeaps$Scene" "facts" "[I") kc_tellFacts_1) (fun _ h9 => h9) rfl dX8_tellFacts_25 ?_
  refine lv_iconst (v := 3) hx hb dX8_tellFacts_28 (by decide) ?_
  refine lv_iload_n hx hb dX8_tellFacts_29 rfl (lv_at hl 3 rfl) ?_
  refine vp_callSi (va_runSN (As := [.int z]) (rest := [.int 3, .ref aFc]) ⟨hx, hb, hml, hown, hts⟩ (c_columnOf l dC dI z) ⟨va_cnB 1 hts ggX8_tellFacts_X11_columnOf rfl rfl rfl (hG.1 (.methodLinkNest RX8 106 yX11_columnOf "MistHeaps") (by decide +kernel)) (hts (.initialized RX11) kc_tellFacts_2) (by decide +kernel) ⟨Nat.le_of_ble_eq_true rfl, Nat.le_of_ble_eq_true rfl⟩, (hts (.static yX11_columnOf) kc_tellFacts_4), trivial⟩ ⟨fun a U g mk q => ⟨q.1, trivial⟩, fun U hU hW => ⟨rfl, trivial⟩⟩ rfl rfl hl.1 rfl (lv_room (Nat.le_of_ble_eq_true rfl)) dX8_tellFacts_30 ⟨Nat.le_of_ble_eq_true rfl, Nat.le_of_ble_eq_true rfl⟩).run (fun r_3 hw_4 => ?_)
  refine va_iast hx hb hK hP hD hS 1 0 rfl rfl (vp_in_nI (n := 3) (N := 6) (by omega) (by omega)) dX8_tellFacts_33 (fun H locs hP hD hS => ?_)
  have hP : va_P (dC, dI) vwCl [(sc, .inr (10, [.ref aTp, .int 0, .ref aHl, .int 0, .long 0, .int 0, .int 0, .ref aHs, .int 0, .ref aWk, .int 0, .ref aBk, .int 0, .ref aFc])), (aFc, .inl (cF, 6, .inl (upd (upd (upd (upd fF 0 x) 1 y) 2 r_1) 3 r_3)))] H := hP
  have hD : va_D A [(sc, .inr (10, [.ref aTp, .int 0, .ref aHl, .int 0, .long 0, .int 0, .int 0, .ref aHs, .int 0, .ref aWk, .int 0, .ref aBk, .int 0, .ref aFc])), (aFc, .inl (cF, 6, .inl (upd (upd (upd (upd fF 0 x) 1 y) 2 r_1) 3 r_3)))] := hD
  refine lv_aload_n hx hb dX8_tellFacts_34 rfl (lv_at hl 0 rfl) ?_
  refine va_get (D := (dC, dI)) (ci := 10) (v := .ref aFc) (C := RX8) (T := TX8) (N := 14) hx hb hts kc_tellFacts_0 hown hK hP 0 rfl rfl 13 (by decide) (hts (.fieldLink RX8 34 "MistHeaps$Scene" "facts" "[I") kc_tellFacts_1) (fun _ h9 => h9) rfl dX8_tellFacts_35 ?_
  refine lv_iconst (v := 4) hx hb dX8_tellFacts_38 (by decide) ?_
  refine lv_aload_n hx hb dX8_tellFacts_39 rfl (lv_at hl 0 rfl) ?_
  refine va_get (D := (dC, dI)) (ci := 10) (v := .int 0) (C := RX8) (T := TX8) (N := 14) hx hb hts kc_tellFacts_0 hown hK hP 0 rfl rfl 5 (by decide) (hts (.fieldLink RX8 54 "MistHeaps$Scene" "mist" "I") kc_tellFacts_5) (fun _ h9 => h9) rfl dX8_tellFacts_40 ?_
  refine va_iast hx hb hK hP hD hS 1 0 rfl rfl (vp_in_nI (n := 4) (N := 6) (by omega) (by omega)) dX8_tellFacts_43 (fun H locs hP hD hS => ?_)
  have hP : va_P (dC, dI) vwCl [(sc, .inr (10, [.ref aTp, .int 0, .ref aHl, .int 0, .long 0, .int 0, .int 0, .ref aHs, .int 0, .ref aWk, .int 0, .ref aBk, .int 0, .ref aFc])), (aFc, .inl (cF, 6, .inl (upd (upd (upd (upd (upd fF 0 x) 1 y) 2 r_1) 3 r_3) 4 0)))] H := hP
  have hD : va_D A [(sc, .inr (10, [.ref aTp, .int 0, .ref aHl, .int 0, .long 0, .int 0, .int 0, .ref aHs, .int 0, .ref aWk, .int 0, .ref aBk, .int 0, .ref aFc])), (aFc, .inl (cF, 6, .inl (upd (upd (upd (upd (upd fF 0 x) 1 y) 2 r_1) 3 r_3) 4 0)))] := hD
  refine lv_aload_n hx hb dX8_tellFacts_44 rfl (lv_at hl 0 rfl) ?_
  refine va_get (D := (dC, dI)) (ci := 10) (v := .ref aFc) (C := RX8) (T := TX8) (N := 14) hx hb hts kc_tellFacts_0 hown hK hP 0 rfl rfl 13 (by decide) (hts (.fieldLink RX8 34 "MistHeaps$Scene" "facts" "[I") kc_tellFacts_1) (fun _ h9 => h9) rfl dX8_tellFacts_45 ?_
  refine lv_iconst (v := 5) hx hb dX8_tellFacts_48 (by decide) ?_
  refine lv_iload hx hb dX8_tellFacts_49 (lv_at hl 4 rfl) ?_
  refine va_iast hx hb hK hP hD hS 1 0 rfl rfl (vp_in_nI (n := 5) (N := 6) (by omega) (by omega)) dX8_tellFacts_51 (fun H locs hP hD hS => ?_)
  have hP : va_P (dC, dI) vwCl [(sc, .inr (10, [.ref aTp, .int 0, .ref aHl, .int 0, .long 0, .int 0, .int 0, .ref aHs, .int 0, .ref aWk, .int 0, .ref aBk, .int 0, .ref aFc])), (aFc, .inl (cF, 6, .inl (upd (upd (upd (upd (upd (upd fF 0 x) 1 y) 2 r_1) 3 r_3) 4 0) 5 u0)))] H := hP
  have hD : va_D A [(sc, .inr (10, [.ref aTp, .int 0, .ref aHl, .int 0, .long 0, .int 0, .int 0, .ref aHs, .int 0, .ref aWk, .int 0, .ref aBk, .int 0, .ref aFc])), (aFc, .inl (cF, 6, .inl (upd (upd (upd (upd (upd (upd fF 0 x) 1 y) 2 r_1) 3 r_3) 4 0) 5 u0)))] := hD
  rw [hQ]
  have hP9 := hP.sub (ws' := [(sc, .inr (10, [.ref aTp, .int 0, .ref aHl, .int 0, .long 0, .int 0, .int 0, .ref aHs, .int 0, .ref aWk, .int 0, .ref aBk, .int 0, .ref aFc])), (aFc, .inl (cF, 6, .inl (upd (upd (upd (upd (upd (upd fF 0 x) 1 y) 2 r_1) 3 r_3) 4 0) 5 u0)))]) [0, 1] rfl
  have hD9 := hD.sub (ws' := [(sc, .inr (10, [.ref aTp, .int 0, .ref aHl, .int 0, .long 0, .int 0, .int 0, .ref aHs, .int 0, .ref aWk, .int 0, .ref aBk, .int 0, .ref aFc])), (aFc, .inl (cF, 6, .inl (upd (upd (upd (upd (upd (upd fF 0 x) 1 y) 2 r_1) 3 r_3) 4 0) 5 u0)))]) [0, 1] (by decide) rfl
  have hK9 := hK.sub (tys' := [(cF, .int)]) [0] rfl
  exact W.vret hx hb hr (fun tQ htQ hWQ => ⟨⟨upd (upd (upd (upd (upd (upd fF 0 x) 1 y) 2 r_1) 3 r_3) 4 0) 5 u0, rfl, trivial, by rw [htQ]; exact hP9, va_K.moved hWQ.alike hK9, hD9⟩, hS.F htQ⟩) hS.2.2 dX8_tellFacts_52

theorem kc_total0_0 : ∀ w ∈ wsX50, w ∈ wsX5_total := by decide +kernel
theorem kc_total0_1 : (.fieldLink RX5 59 "MistHeaps$Hill" "clauses" "I" : Cond) ∈ wsX5_total := by decide +kernel
set_option maxHeartbeats 4000000 in
set_option maxRecDepth 100000 in
theorem c_total0 (l : Launch) (dC : Nat → ClassId) (dI : Nat → Nat → Nat) (aHl : Nat) (bW bA bE bC : Nat) (x : Int32) (fa : Nat) : Met l yX5_total wsX5_total ({ frames := 0, cells := 0, slots := 0, locals := 0 } : Room) (va_Pc [.ref aHl, .int x, .ref fa] (fun U => va_P (dC, dI) vwCl [(aHl, .inr (7, [.int 3, .int 0, .ref bW, .ref bA, .ref bE, .ref bC, .int 0, .null, .int 0, .int 0, .int 0]))] U.heap ∧ va_K (dC, dI) vwCl [] U)) (vp_Si (fun r => r = 0)) 0 0 (fun _ => False) := by
  refine met_ofQ (cc := cX5_total) (maxL := 5) (ret := (some .int)) (by decide) rfl ?_
  intro p e s m args below meth c s₁ Q B hml hv hQ
  obtain ⟨rfl, hP, hK⟩ := hv
  have hx := B.exec
  have hb := B.bytes
  have hr := B.returns
  have hts := atoms_spec (ws := wsX5_total) B.pre
  have hown : s.vm.findClass RX5 = some m.cls := findClass_of_methodNamed B.named
  have hlocks := B.notSynchronized
  obtain ⟨A, hAe⟩ : ∃ A : Nat → Prop, A = fun _ => False := ⟨_, rfl⟩
  rw [← hAe] at hQ
  have hS : va_S A s.heap s.heap [] := va_S.rf
  have hl := lv_entry [.ref aHl, .int x, .ref fa] (n := 5) (Nat.le_of_ble_eq_true rfl)
  rw [lg_entry_eq]
  generalize (lg_sl [.ref aHl, .int x, .ref fa] ++ List.replicate (5 - (lg_sl [.ref aHl, .int x, .ref fa]).length) Slot.unset).toArray = ls at hl ⊢
  generalize hag : ([.ref aHl, .int x, .ref fa] : List Value).toArray = args at hts hQ ⊢
  have hl : lv_has ls 5 [(0, .ref aHl), (1, .int x), (2, .ref fa)] := hl
  refine lv_iconst (v := 0) hx hb dX5_total_0 (by decide) ?_
  refine lv_istore_n (lv' := [(3, .int 0), (0, .ref aHl), (1, .int x), (2, .ref fa)]) hx hb dX5_total_1 rfl hl (by decide) rfl (fun ls hl => ?_)
  refine lv_iconst (v := 0) hx hb dX5_total_2 (by decide) ?_
  refine lv_istore (lv' := [(4, .int 0), (3, .int 0), (0, .ref aHl), (1, .int x), (2, .ref fa)]) hx hb dX5_total_3 hl (by decide) rfl (fun ls hl => ?_)
  refine lv_iload hx hb dX5_total_5 (lv_at hl 0 rfl) ?_
  refine lv_aload_n hx hb dX5_total_7 rfl (lv_at hl 2 rfl) ?_
  refine va_get (D := (dC, dI)) (ci := 7) (v := .int 0) (C := RX5) (T := TX5) (N := 11) hx hb hts kc_total0_0 hown hK hP 0 rfl rfl 1 (by decide) (hts (.fieldLink RX5 59 "MistHeaps$Hill" "clauses" "I") kc_total0_1) (fun _ h9 => h9) rfl dX5_total_8 ?_
  refine lv_icmp_ge (tgt := 51) hx hb dX5_total_11 (by decide) (fun _ => ?_) (fun c_1 => absurd c_1 (by decide))
  refine lv_iload_n hx hb dX5_total_51 rfl (lv_at hl 1 rfl) ?_
  rw [hQ]
  exact W.iret (v := 0) hx hb hr (fun tQ htQ hWQ => ⟨0, rfl, rfl, by rw [htQ]⟩) (fun q hq => absurd hq List.not_mem_nil) dX5_total_52

theorem kc_driftOn0_0 : ∀ w ∈ wsX80, w ∈ wsX8_driftOn := by decide +kernel
theorem kc_driftOn0_1 : (.fieldLink RX8 57 "MistHeaps$Scene" "snow" "I" : Cond) ∈ wsX8_driftOn := by decide +kernel
theorem kc_driftOn0_2 : (.fieldLink RX8 18 "MistHeaps$Scene" "hill" "LMistHeaps$Hill;" : Cond) ∈ wsX8_driftOn := by decide +kernel
theorem kc_driftOn0_3 : (.fieldLink RX8 34 "MistHeaps$Scene" "facts" "[I" : Cond) ∈ wsX8_driftOn := by decide +kernel
theorem kc_driftOn0_4 : (.methodLink RX8 97 Lib.Math.min.name : Cond) ∈ wsX8_driftOn := by decide +kernel
theorem kc_driftOn0_5 : (.static Lib.Math.min.name : Cond) ∈ wsX8_driftOn := by decide +kernel
theorem kc_driftOn0_6 : (.initialized "java/lang/Math" : Cond) ∈ wsX8_driftOn := by decide +kernel
theorem kc_driftOn0_7 : (.code Lib.Math.min.name Lib.Math.min.code 2 (some .int) : Cond) ∈ wsX8_driftOn := by decide +kernel
set_option maxHeartbeats 4000000 in
set_option maxRecDepth 100000 in
theorem c_driftOn0 (l : Launch) (dC : Nat → ClassId) (dI : Nat → Nat → Nat) (gd : Nat → Nat) (sc aTp aHl aHs aWk aBk aFc : Nat) (bW bA bE bC : Nat) (cF : ClassId) (fF : Nat → Int32) (x : Int32) (sz : Nat) : Met l yX8_driftOn wsX8_driftOn ({ frames := 2, cells := 0, slots := 0, locals := 44 } : Room) (va_Pc [.ref sc, .int x] (fun U => U.heap.size = sz ∧ va_P (dC, dI) vwCl [(sc, .inr (10, [.ref aTp, .int 0, .ref aHl, .int 0, .long 0, .int 0, .int 0, .ref aHs, .int 0, .ref aWk, .int 0, .ref aBk, .int 0, .ref aFc])), (aHl, .inr (7, [.int 3, .int 0, .ref bW, .ref bA, .ref bE, .ref bC, .int 0, .null, .int 0, .int 0, .int 0])), (aFc, .inl (cF, 6, .inl fF))] U.heap ∧ va_K (dC, dI) vwCl [(cF, .int)] U ∧ va_D (fun _ => True) [(sc, .inr (10, [.ref aTp, .int 0, .ref aHl, .int 0, .long 0, .int 0, .int 0, .ref aHs, .int 0, .ref aWk, .int 0, .ref aBk, .int 0, .ref aFc])), (aHl, .inr (7, [.int 3, .int 0, .ref bW, .ref bA, .ref bE, .ref bC, .int 0, .null, .int 0, .int 0, .int 0])), (aFc, .inl (cF, 6, .inl fF))] ∧ Gl gd (va_A [(sc, .inr (10, [.ref aTp, .int 0, .ref aHl, .int 0, .long 0, .int 0, .int 0, .ref aHs, .int 0, .ref aWk, .int 0, .ref aBk, .int 0, .ref aFc])), (aHl, .inr (7, [.int 3, .int 0, .ref bW, .ref bA, .ref bE, .ref bC, .int 0, .null, .int 0, .int 0, .int 0])), (aFc, .inl (cF, 6, .inl fF))] sz) U)) (va_Qi (fun (r : Int32) (u : Nat → Int32) => match u with | fF2 => r = 0) (fun (u : Nat → Int32) (t : State) => match u with | fF2 => va_P (dC, dI) vwCl [(sc, .inr (10, [.ref aTp, .int 0, .ref aHl, .int 0, .long 0, .int 0, .int 0, .ref aHs, .int 0, .ref aWk, .int 0, .ref aBk, .int 0, .ref aFc])), (aHl, .inr (7, [.int 3, .int 0, .ref bW, .ref bA, .ref bE, .ref bC, .int 0, .null, .int 0, .int 0, .int 0])), (aFc, .inl (cF, 6, .inl fF2))] t.heap ∧ va_K (dC, dI) vwCl [(cF, .int)] t ∧ va_D (va_A [(sc, .inr (10, [.ref aTp, .int 0, .ref aHl, .int 0, .long 0, .int 0, .int 0, .ref aHs, .int 0, .ref aWk, .int 0, .ref aBk, .int 0, .ref aFc])), (aHl, .inr (7, [.int 3, .int 0, .ref bW, .ref bA, .ref bE, .ref bC, .int 0, .null, .int 0, .int 0, .int 0])), (aFc, .inl (cF, 6, .inl fF))] sz) [(sc, .inr (10, [.ref aTp, .int 0, .ref aHl, .int 0, .long 0, .int 0, .int 0, .ref aHs, .int 0, .ref aWk, .int 0, .ref aBk, .int 0, .ref aFc])), (aHl, .inr (7, [.int 3, .int 0, .ref bW, .ref bA, .ref bE, .ref bC, .int 0, .null, .int 0, .int 0, .int 0])), (aFc, .inl (cF, 6, .inl fF2))]) (va_A [(sc, .inr (10, [.ref aTp, .int 0, .ref aHl, .int 0, .long 0, .int 0, .int 0, .ref aHs, .int 0, .ref aWk, .int 0, .ref aBk, .int 0, .ref aFc])), (aHl, .inr (7, [.int 3, .int 0, .ref bW, .ref bA, .ref bE, .ref bC, .int 0, .null, .int 0, .int 0, .int 0])), (aFc, .inl (cF, 6, .inl fF))] sz)) 0 0 (va_A [(sc, .inr (10, [.ref aTp, .int 0, .ref aHl, .int 0, .long 0, .int 0, .int 0, .ref aHs, .int 0, .ref aWk, .int 0, .ref aBk, .int 0, .ref aFc])), (aHl, .inr (7, [.int 3, .int 0, .ref bW, .ref bA, .ref bE, .ref bC, .int 0, .null, .int 0, .int 0, .int 0])), (aFc, .inl (cF, 6, .inl fF))] sz) := by
  refine met_ofQ (cc := cX8_driftOn) (maxL := 2) (ret := (some .int)) (by decide) rfl ?_
  intro p e s m args below meth c s₁ Q B hml hv hQ
  obtain ⟨rfl, hsz, hP, hK, hD0, hG⟩ := hv
  have hx := B.exec
  have hb := B.bytes
  have hr := B.returns
  have hts := atoms_spec (ws := wsX8_driftOn) B.pre
  have hown : s.vm.findClass RX8 = some m.cls := findClass_of_methodNamed B.named
  have hlocks := B.notSynchronized
  subst hsz
  have hD := hD0.self (sz := s.heap.size)
  generalize hAe : va_A [(sc, .inr (10, [.ref aTp, .int 0, .ref aHl, .int 0, .long 0, .int 0, .int 0, .ref aHs, .int 0, .ref aWk, .int 0, .ref aBk, .int 0, .ref aFc])), (aHl, .inr (7, [.int 3, .int 0, .ref bW, .ref bA, .ref bE, .ref bC, .int 0, .null, .int 0, .int 0, .int 0])), (aFc, .inl (cF, 6, .inl fF))] s.heap.size = A at hD hQ hG ⊢
  have hA : ∀ q : Nat, s.heap.size ≤ q → A q := fun q h => by rw [← hAe]; exact Or.inr h
  have hS : va_S A s.heap s.heap [] := va_S.rf
  have hl := lv_entry [.ref sc, .int x] (n := 2) (Nat.le_of_ble_eq_true rfl)
  rw [lg_entry_eq]
  generalize (lg_sl [.ref sc, .int x] ++ List.replicate (2 - (lg_sl [.ref sc, .int x]).length) Slot.unset).toArray = ls at hl ⊢
  generalize hag : ([.ref sc, .int x] : List Value).toArray = args at hts hQ ⊢
  have hl : lv_has ls 2 [(0, .ref sc), (1, .int x)] := hl
  obtain ⟨H, hH⟩ : ∃ H : Heap, H = s.heap := ⟨_, rfl⟩
  rw [← hH] at hP
  rw [← hH]
  have hS : va_S A s.heap H [] := by rw [hH]; exact hS
  obtain ⟨locs, hlo⟩ : ∃ L : List Loc, L = [] := ⟨_, rfl⟩
  rw [← hlo] at hS
  rw [← hlo]
  clear hH hlo
  refine lv_aload_n hx hb dX8_driftOn_0 rfl (lv_at hl 0 rfl) ?_
  refine lv_bipush (v := 99) hx hb dX8_driftOn_1 (by decide) ?_
  refine lv_bipush (v := 99) hx hb dX8_driftOn_3 (by decide) ?_
  refine lv_iload_n hx hb dX8_driftOn_5 rfl (lv_at hl 1 rfl) ?_
  refine lv_aload_n hx hb dX8_driftOn_6 rfl (lv_at hl 0 rfl) ?_
  refine va_get (D := (dC, dI)) (ci := 10) (v := .int 0) (C := RX8) (T := TX8) (N := 14) hx hb hts kc_driftOn0_0 hown hK hP 0 rfl rfl 6 (by decide) (hts (.fieldLink RX8 57 "MistHeaps$Scene" "snow" "I") kc_driftOn0_1) (fun _ h9 => h9) rfl dX8_driftOn_7 ?_
  have hPc := hP.sub (ws' := [(sc, .inr (10, [.ref aTp, .int 0, .ref aHl, .int 0, .long 0, .int 0, .int 0, .ref aHs, .int 0, .ref aWk, .int 0, .ref aBk, .int 0, .ref aFc])), (aFc, .inl (cF, 6, .inl fF))]) [0, 2] rfl
  have hDc := hD.sub (ws' := [(sc, .inr (10, [.ref aTp, .int 0, .ref aHl, .int 0, .long 0, .int 0, .int 0, .ref aHs, .int 0, .ref aWk, .int 0, .ref aBk, .int 0, .ref aFc])), (aFc, .inl (cF, 6, .inl fF))]) [0, 2] (by decide) rfl
  have hKc := hK.sub (tys' := [(cF, .int)]) [0] rfl
  have hFc := va_free (wc := [(sc, .inr (10, [.ref aTp, .int 0, .ref aHl, .int 0, .long 0, .int 0, .int 0, .ref aHs, .int 0, .ref aWk, .int 0, .ref aBk, .int 0, .ref aFc])), (aFc, .inl (cF, 6, .inl fF))]) hD hS hA [0, 2] rfl
  refine va_callv (va_runV (As := [.int 99, .int 99, .int x, .int 0]) (rest := []) ⟨hx, hb, hml, hown, hts⟩ (c_tellFacts l dC dI gd sc aTp aHl aHs aWk aBk aFc cF fF 99 99 x 0 H.size) (cwV 4 hts gX8_driftOn_X8_tellFacts rfl rfl rfl (by decide +kernel) ⟨Nat.le_of_ble_eq_true rfl, Nat.le_of_ble_eq_true rfl⟩) ⟨fun a U g mk q => by obtain ⟨q0, q1, qP, qK, qD, qhG⟩ := q; exact ⟨q0, q1, qP, va_K.moved (u := U) (U := U.calling g mk a) (Vm.Alike.refl U.vm) qK, qD, qhG.same rfl rfl⟩, va_recv hK hP (ci := 10) (q0 := 0) rfl rfl, fun U hU hW => ⟨rfl, by rw [hU], by rw [hU]; exact hPc, va_K.moved hW.alike hKc, hDc.weaken (fun _ _ _ _ => trivial), hG.call hS hU hW (fun q h => hFc q h)⟩⟩ rfl rfl hl.1 rfl (lv_room (Nat.le_of_ble_eq_true rfl)) dX8_driftOn_10 ⟨Nat.le_of_ble_eq_true rfl, Nat.le_of_ble_eq_true rfl⟩) hS (fun q _ h => hFc q h) hFc (fun u tC H1 locs htC hvm hw_2 hB hz1 hk1 hS => ?_)
  obtain ⟨fF2_3, rfl⟩ : ∃ z, z = u := ⟨_, rfl⟩
  try dsimp only at hw_2 hB
  obtain ⟨hP1, hK1, hD1⟩ := hB
  rw [htC] at hP1
  have hK1 := va_K.moved hvm.symm hK1
  obtain ⟨hP, hD⟩ := va_join (wr := [(aHl, .inr (7, [.int 3, .int 0, .ref bW, .ref bA, .ref bE, .ref bC, .int 0, .null, .int 0, .int 0, .int 0]))]) (w1 := [(sc, .inr (10, [.ref aTp, .int 0, .ref aHl, .int 0, .long 0, .int 0, .int 0, .ref aHs, .int 0, .ref aWk, .int 0, .ref aBk, .int 0, .ref aFc])), (aFc, .inl (cF, 6, .inl fF2_3))]) hP hD [0, 2] [1] rfl rfl (by decide) (by decide) hk1 hFc hP1 hD1
  have hK := (hK.sub (tys' := []) [] rfl).app hK1
  generalize H1 = H at hP hS ⊢
  have hP : va_P (dC, dI) vwCl [(aHl, .inr (7, [.int 3, .int 0, .ref bW, .ref bA, .ref bE, .ref bC, .int 0, .null, .int 0, .int 0, .int 0])), (sc, .inr (10, [.ref aTp, .int 0, .ref aHl, .int 0, .long 0, .int 0, .int 0, .ref aHs, .int 0, .ref aWk, .int 0, .ref aBk, .int 0, .ref aFc])), (aFc, .inl (cF, 6, .inl fF2_3))] H := hP
  have hD : va_D A [(aHl, .inr (7, [.int 3, .int 0, .ref bW, .ref bA, .ref bE, .ref bC, .int 0, .null, .int 0, .int 0, .int 0])), (sc, .inr (10, [.ref aTp, .int 0, .ref aHl, .int 0, .long 0, .int 0, .int 0, .ref aHs, .int 0, .ref aWk, .int 0, .ref aBk, .int 0, .ref aFc])), (aFc, .inl (cF, 6, .inl fF2_3))] := hD
  have hK : va_K (dC, dI) vwCl [(cF, .int)] s := hK
  refine lv_iconst (v := 5) hx hb dX8_driftOn_13 (by decide) ?_
  refine lv_aload_n hx hb dX8_driftOn_14 rfl (lv_at hl 0 rfl) ?_
  refine va_get (D := (dC, dI)) (ci := 10) (v := .ref aHl) (C := RX8) (T := TX8) (N := 14) hx hb hts kc_driftOn0_0 hown hK hP 1 rfl rfl 2 (by decide) (hts (.fieldLink RX8 18 "MistHeaps$Scene" "hill" "LMistHeaps$Hill;") kc_driftOn0_2) (fun _ h9 => h9) rfl dX8_driftOn_15 ?_
  refine lv_iconst (v := 3) hx hb dX8_driftOn_18 (by decide) ?_
  refine lv_aload_n hx hb dX8_driftOn_19 rfl (lv_at hl 0 rfl) ?_
  refine va_get (D := (dC, dI)) (ci := 10) (v := .ref aFc) (C := RX8) (T := TX8) (N := 14) hx hb hts kc_driftOn0_0 hown hK hP 1 rfl rfl 13 (by decide) (hts (.fieldLink RX8 34 "MistHeaps$Scene" "facts" "[I") kc_driftOn0_3) (fun _ h9 => h9) rfl dX8_driftOn_20 ?_
  have hPc := hP.sub (ws' := [(aHl, .inr (7, [.int 3, .int 0, .ref bW, .ref bA, .ref bE, .ref bC, .int 0, .null, .int 0, .int 0, .int 0]))]) [0] rfl
  have hKc := hK.sub (tys' := []) [] rfl
  refine vp_callSi (va_runV (As := [.int 3, .ref aFc]) (rest := [.int 5]) ⟨hx, hb, hml, hown, hts⟩ (c_total0 l dC dI aHl bW bA bE bC 3 aFc) (cwV 2 hts gX8_driftOn_X5_total rfl rfl rfl (by decide +kernel) ⟨Nat.le_of_ble_eq_true rfl, Nat.le_of_ble_eq_true rfl⟩) ⟨fun a U g mk q => by obtain ⟨q0, qP, qK⟩ := q; exact ⟨q0, qP, va_K.moved (u := U) (U := U.calling g mk a) (Vm.Alike.refl U.vm) qK⟩, va_recv hK hP (ci := 7) (q0 := 0) rfl rfl, fun U hU hW => ⟨rfl, by rw [hU]; exact hPc, va_K.moved hW.alike hKc⟩⟩ rfl rfl hl.1 rfl (lv_room (Nat.le_of_ble_eq_true rfl)) dX8_driftOn_23 ⟨Nat.le_of_ble_eq_true rfl, Nat.le_of_ble_eq_true rfl⟩).run (fun r_4 hw_5 => ?_)
  refine qi_as (y := 0) (hw_5) ?_
  refine va_mmin hx hb (by rw [hml]; exact hl.1.symm) hown (hts (.methodLink RX8 97 Lib.Math.min.name) kc_driftOn0_4) (hts (.static Lib.Math.min.name) kc_driftOn0_5) (hts (.initialized "java/lang/Math") kc_driftOn0_6) (hts (.code Lib.Math.min.name Lib.Math.min.code 2 (some .int)) kc_driftOn0_7) (Nat.le_of_ble_eq_true rfl) (Nat.le_of_ble_eq_true rfl) (Nat.le_of_ble_eq_true rfl) (Nat.le_of_ble_eq_true rfl) dX8_driftOn_26 ?_
  refine qi_as (y := 0) (by decide) ?_
  rw [hQ]
  have hP9 := hP.sub (ws' := [(sc, .inr (10, [.ref aTp, .int 0, .ref aHl, .int 0, .long 0, .int 0, .int 0, .ref aHs, .int 0, .ref aWk, .int 0, .ref aBk, .int 0, .ref aFc])), (aHl, .inr (7, [.int 3, .int 0, .ref bW, .ref bA, .ref bE, .ref bC, .int 0, .null, .int 0, .int 0, .int 0])), (aFc, .inl (cF, 6, .inl fF2_3))]) [1, 0, 2] rfl
  have hD9 := hD.sub (ws' := [(sc, .inr (10, [.ref aTp, .int 0, .ref aHl, .int 0, .long 0, .int 0, .int 0, .ref aHs, .int 0, .ref aWk, .int 0, .ref aBk, .int 0, .ref aFc])), (aHl, .inr (7, [.int 3, .int 0, .ref bW, .ref bA, .ref bE, .ref bC, .int 0, .null, .int 0, .int 0, .int 0])), (aFc, .inl (cF, 6, .inl fF2_3))]) [1, 0, 2] (by decide) rfl
  have hK9 := hK.sub (tys' := [(cF, .int)]) [0] rfl
  exact W.iret (v := 0) hx hb hr (fun tQ htQ hWQ => ⟨⟨0, fF2_3, rfl, rfl, by rw [htQ]; exact hP9, va_K.moved hWQ.alike hK9, hD9⟩, hS.F htQ⟩) hS.2.2 dX8_driftOn_29

theorem kc_xDrift_0 : ∀ w ∈ wsX110, w ∈ wsX11_drift := by decide +kernel
theorem kc_xDrift_1 : (.fieldLink RX11 14 "MistHeaps" "scene" "LMistHeaps$Scene;" : Cond) ∈ wsX11_drift := by decide +kernel
set_option maxHeartbeats 4000000 in
set_option maxRecDepth 100000 in
theorem c_xDrift (l : Launch) (dC : Nat → ClassId) (dI : Nat → Nat → Nat) (gd : Nat → Nat) (h0 sc kp bl go ch bo aTp aHl aHs aWk aBk aFc : Nat) (bW bA bE bC : Nat) (cF : ClassId) (fF : Nat → Int32) (x : Int32) (sz : Nat) : Met l yX11_drift wsX11_drift ({ frames := 3, cells := 0, slots := 0, locals := 65 } : Room) (va_Pc [.ref h0, .int x] (fun U => U.heap.size = sz ∧ va_P (dC, dI) vwCl [(h0, .inr (13, [.ref sc, .ref kp, .int 0, .ref bl, .ref go, .ref ch, .ref bo])), (sc, .inr (10, [.ref aTp, .int 0, .ref aHl, .int 0, .long 0, .int 0, .int 0, .ref aHs, .int 0, .ref aWk, .int 0, .ref aBk, .int 0, .ref aFc])), (aHl, .inr (7, [.int 3, .int 0, .ref bW, .ref bA, .ref bE, .ref bC, .int 0, .null, .int 0, .int 0, .int 0])), (aFc, .inl (cF, 6, .inl fF))] U.heap ∧ va_K (dC, dI) vwCl [(cF, .int)] U ∧ va_D (fun _ => True) [(h0, .inr (13, [.ref sc, .ref kp, .int 0, .ref bl, .ref go, .ref ch, .ref bo])), (sc, .inr (10, [.ref aTp, .int 0, .ref aHl, .int 0, .long 0, .int 0, .int 0, .ref aHs, .int 0, .ref aWk, .int 0, .ref aBk, .int 0, .ref aFc])), (aHl, .inr (7, [.int 3, .int 0, .ref bW, .ref bA, .ref bE, .ref bC, .int 0, .null, .int 0, .int 0, .int 0])), (aFc, .inl (cF, 6, .inl fF))] ∧ Gl gd (va_A [(h0, .inr (13, [.ref sc, .ref kp, .int 0, .ref bl, .ref go, .ref ch, .ref bo])), (sc, .inr (10, [.ref aTp, .int 0, .ref aHl, .int 0, .long 0, .int 0, .int 0, .ref aHs, .int 0, .ref aWk, .int 0, .ref aBk, .int 0, .ref aFc])), (aHl, .inr (7, [.int 3, .int 0, .ref bW, .ref bA, .ref bE, .ref bC, .int 0, .null, .int 0, .int 0, .int 0])), (aFc, .inl (cF, 6, .inl fF))] sz) U)) (va_Qi (fun (r : Int32) (u : Unit) => match u with | () => r = f_cell x) (fun (u : Unit) (t : State) => match u with | () => True) (va_A [(h0, .inr (13, [.ref sc, .ref kp, .int 0, .ref bl, .ref go, .ref ch, .ref bo])), (sc, .inr (10, [.ref aTp, .int 0, .ref aHl, .int 0, .long 0, .int 0, .int 0, .ref aHs, .int 0, .ref aWk, .int 0, .ref aBk, .int 0, .ref aFc])), (aHl, .inr (7, [.int 3, .int 0, .ref bW, .ref bA, .ref bE, .ref bC, .int 0, .null, .int 0, .int 0, .int 0])), (aFc, .inl (cF, 6, .inl fF))] sz)) 0 0 (va_A [(h0, .inr (13, [.ref sc, .ref kp, .int 0, .ref bl, .ref go, .ref ch, .ref bo])), (sc, .inr (10, [.ref aTp, .int 0, .ref aHl, .int 0, .long 0, .int 0, .int 0, .ref aHs, .int 0, .ref aWk, .int 0, .ref aBk, .int 0, .ref aFc])), (aHl, .inr (7, [.int 3, .int 0, .ref bW, .ref bA, .ref bE, .ref bC, .int 0, .null, .int 0, .int 0, .int 0])), (aFc, .inl (cF, 6, .inl fF))] sz) := by
  refine met_ofQ (cc := cX11_drift) (maxL := 2) (ret := (some .int)) (by decide) rfl ?_
  intro p e s m args below meth c s₁ Q B hml hv hQ
  obtain ⟨rfl, hsz, hP, hK, hD0, hG⟩ := hv
  have hx := B.exec
  have hb := B.bytes
  have hr := B.returns
  have hts := atoms_spec (ws := wsX11_drift) B.pre
  have hown : s.vm.findClass RX11 = some m.cls := findClass_of_methodNamed B.named
  have hlocks := B.notSynchronized
  subst hsz
  have hD := hD0.self (sz := s.heap.size)
  generalize hAe : va_A [(h0, .inr (13, [.ref sc, .ref kp, .int 0, .ref bl, .ref go, .ref ch, .ref bo])), (sc, .inr (10, [.ref aTp, .int 0, .ref aHl, .int 0, .long 0, .int 0, .int 0, .ref aHs, .int 0, .ref aWk, .int 0, .ref aBk, .int 0, .ref aFc])), (aHl, .inr (7, [.int 3, .int 0, .ref bW, .ref bA, .ref bE, .ref bC, .int 0, .null, .int 0, .int 0, .int 0])), (aFc, .inl (cF, 6, .inl fF))] s.heap.size = A at hD hQ hG ⊢
  have hA : ∀ q : Nat, s.heap.size ≤ q → A q := fun q h => by rw [← hAe]; exact Or.inr h
  have hS : va_S A s.heap s.heap [] := va_S.rf
  have hl := lv_entry [.ref h0, .int x] (n := 2) (Nat.le_of_ble_eq_true rfl)
  rw [lg_entry_eq]
  generalize (lg_sl [.ref h0, .int x] ++ List.replicate (2 - (lg_sl [.ref h0, .int x]).length) Slot.unset).toArray = ls at hl ⊢
  generalize hag : ([.ref h0, .int x] : List Value).toArray = args at hts hQ ⊢
  have hl : lv_has ls 2 [(0, .ref h0), (1, .int x)] := hl
  obtain ⟨H, hH⟩ : ∃ H : Heap, H = s.heap := ⟨_, rfl⟩
  rw [← hH] at hP
  rw [← hH]
  have hS : va_S A s.heap H [] := by rw [hH]; exact hS
  obtain ⟨locs, hlo⟩ : ∃ L : List Loc, L = [] := ⟨_, rfl⟩
  rw [← hlo] at hS
  rw [← hlo]
  clear hH hlo
  refine lv_iload_n hx hb dX11_drift_0 rfl (lv_at hl 1 rfl) ?_
  refine vp_callSi (va_runS (As := [.int x]) (rest := []) ⟨hx, hb, hml, hown, hts⟩ (c_xCell l dC dI x) (va_cwS 1 hts gX11_drift_X11_isCell rfl rfl rfl (by decide +kernel) ⟨Nat.le_of_ble_eq_true rfl, Nat.le_of_ble_eq_true rfl⟩) ⟨fun a U g mk q => ⟨q.1, trivial⟩, fun U hU hW => ⟨rfl, trivial⟩⟩ rfl rfl hl.1 rfl (lv_room (Nat.le_of_ble_eq_true rfl)) dX11_drift_1 ⟨Nat.le_of_ble_eq_true rfl, Nat.le_of_ble_eq_true rfl⟩).run (fun r_1 hw_2 => ?_)
  rcases hw_2 with ⟨rfl, h_3, h_4⟩ | ⟨rfl, h_5⟩
  · skip
    refine lv_if_eq (tgt := 18) hx hb dX11_drift_4 (by decide) (fun c_6 => absurd c_6 (by decide)) (fun _ => ?_)
    refine lv_aload_n hx hb dX11_drift_7 rfl (lv_at hl 0 rfl) ?_
    refine va_get (D := (dC, dI)) (ci := 13) (v := .ref sc) (C := RX11) (T := TX11) (N := 7) hx hb hts kc_xDrift_0 hown hK hP 0 rfl rfl 0 (by decide) (hts (.fieldLink RX11 14 "MistHeaps" "scene" "LMistHeaps$Scene;") kc_xDrift_1) (fun _ h9 => h9) rfl dX11_drift_8 ?_
    refine lv_iload_n hx hb dX11_drift_11 rfl (lv_at hl 1 rfl) ?_
    have hPc := hP.sub (ws' := [(sc, .inr (10, [.ref aTp, .int 0, .ref aHl, .int 0, .long 0, .int 0, .int 0, .ref aHs, .int 0, .ref aWk, .int 0, .ref aBk, .int 0, .ref aFc])), (aHl, .inr (7, [.int 3, .int 0, .ref bW, .ref bA, .ref bE, .ref bC, .int 0, .null, .int 0, .int 0, .int 0])), (aFc, .inl (cF, 6, .inl fF))]) [1, 2, 3] rfl
    have hDc := hD.sub (ws' := [(sc, .inr (10, [.ref aTp, .int 0, .ref aHl, .int 0, .long 0, .int 0, .int 0, .ref aHs, .int 0, .ref aWk, .int 0, .ref aBk, .int 0, .ref aFc])), (aHl, .inr (7, [.int 3, .int 0, .ref bW, .ref bA, .ref bE, .ref bC, .int 0, .null, .int 0, .int 0, .int 0])), (aFc, .inl (cF, 6, .inl fF))]) [1, 2, 3] (by decide) rfl
    have hKc := hK.sub (tys' := [(cF, .int)]) [0] rfl
    have hFc := va_free (wc := [(sc, .inr (10, [.ref aTp, .int 0, .ref aHl, .int 0, .long 0, .int 0, .int 0, .ref aHs, .int 0, .ref aWk, .int 0, .ref aBk, .int 0, .ref aFc])), (aHl, .inr (7, [.int 3, .int 0, .ref bW, .ref bA, .ref bE, .ref bC, .int 0, .null, .int 0, .int 0, .int 0])), (aFc, .inl (cF, 6, .inl fF))]) hD hS hA [1, 2, 3] rfl
    refine va_calli (va_runV (As := [.int x]) (rest := []) ⟨hx, hb, hml, hown, hts⟩ (c_driftOn0 l dC dI gd sc aTp aHl aHs aWk aBk aFc bW bA bE bC cF (fF) (x) H.size) (cwV 1 hts gX11_drift_X8_driftOn rfl rfl rfl (by decide +kernel) ⟨Nat.le_of_ble_eq_true rfl, Nat.le_of_ble_eq_true rfl⟩) ⟨fun a U g mk q => by obtain ⟨q0, q1, qP, qK, qD, qhG⟩ := q; exact ⟨q0, q1, qP, va_K.moved (u := U) (U := U.calling g mk a) (Vm.Alike.refl U.vm) qK, qD, qhG.same rfl rfl⟩, va_recv hK hP (ci := 10) (q0 := 1) rfl rfl, fun U hU hW => ⟨rfl, by rw [hU], by rw [hU]; exact hPc, va_K.moved hW.alike hKc, hDc.weaken (fun _ _ _ _ => trivial), hG.call hS hU hW (fun q h => hFc q h)⟩⟩ rfl rfl hl.1 rfl (lv_room (Nat.le_of_ble_eq_true rfl)) dX11_drift_12 ⟨Nat.le_of_ble_eq_true rfl, Nat.le_of_ble_eq_true rfl⟩) hS (fun q _ h => hFc q h) hFc (fun r_7 u tC H1 locs htC hvm hw_8 hB hz1 hk1 hS => ?_)
    obtain ⟨fF2_9, rfl⟩ : ∃ z, z = u := ⟨_, rfl⟩
    try dsimp only at hw_8 hB
    obtain ⟨hP1, hK1, hD1⟩ := hB
    rw [htC] at hP1
    have hK1 := va_K.moved hvm.symm hK1
    obtain ⟨hP, hD⟩ := va_join (wr := [(h0, .inr (13, [.ref sc, .ref kp, .int 0, .ref bl, .ref go, .ref ch, .ref bo]))]) (w1 := [(sc, .inr (10, [.ref aTp, .int 0, .ref aHl, .int 0, .long 0, .int 0, .int 0, .ref aHs, .int 0, .ref aWk, .int 0, .ref aBk, .int 0, .ref aFc])), (aHl, .inr (7, [.int 3, .int 0, .ref bW, .ref bA, .ref bE, .ref bC, .int 0, .null, .int 0, .int 0, .int 0])), (aFc, .inl (cF, 6, .inl fF2_9))]) hP hD [1, 2, 3] [0] rfl rfl (by decide) (by decide) hk1 hFc hP1 hD1
    have hK := (hK.sub (tys' := []) [] rfl).app hK1
    generalize H1 = H at hP hS ⊢
    have hP : va_P (dC, dI) vwCl [(h0, .inr (13, [.ref sc, .ref kp, .int 0, .ref bl, .ref go, .ref ch, .ref bo])), (sc, .inr (10, [.ref aTp, .int 0, .ref aHl, .int 0, .long 0, .int 0, .int 0, .ref aHs, .int 0, .ref aWk, .int 0, .ref aBk, .int 0, .ref aFc])), (aHl, .inr (7, [.int 3, .int 0, .ref bW, .ref bA, .ref bE, .ref bC, .int 0, .null, .int 0, .int 0, .int 0])), (aFc, .inl (cF, 6, .inl fF2_9))] H := hP
    have hD : va_D A [(h0, .inr (13, [.ref sc, .ref kp, .int 0, .ref bl, .ref go, .ref ch, .ref bo])), (sc, .inr (10, [.ref aTp, .int 0, .ref aHl, .int 0, .long 0, .int 0, .int 0, .ref aHs, .int 0, .ref aWk, .int 0, .ref aBk, .int 0, .ref aFc])), (aHl, .inr (7, [.int 3, .int 0, .ref bW, .ref bA, .ref bE, .ref bC, .int 0, .null, .int 0, .int 0, .int 0])), (aFc, .inl (cF, 6, .inl fF2_9))] := hD
    have hK : va_K (dC, dI) vwCl [(cF, .int)] s := hK
    refine qi_as (y := 0) (hw_8) ?_
    refine lv_goto (tgt := 19) hx hb dX11_drift_15 (by decide) ?_
    rw [hQ]
    exact W.iret (v := 0) hx hb hr (fun tQ htQ hWQ => ⟨⟨0, (), rfl, by simp only [f_cell]; (repeat' split) <;> first | (simp_all; done) | (simp only [← Int32.not_lt] at *; simp_all), trivial⟩, hS.F htQ⟩) hS.2.2 dX11_drift_19
  · skip
    refine lv_if_eq (tgt := 18) hx hb dX11_drift_4 (by decide) (fun _ => ?_) (fun c_10 => absurd c_10 (by decide))
    refine lv_iconst (v := (-1)) hx hb dX11_drift_18 (by decide) ?_
    rw [hQ]
    exact W.iret (v := (-1)) hx hb hr (fun tQ htQ hWQ => ⟨⟨(-1), (), rfl, by simp only [f_cell]; (repeat' split) <;> first | (simp_all; done) | (simp only [← Int32.not_lt] at *; simp_all), trivial⟩, hS.F htQ⟩) hS.2.2 dX11_drift_19

theorem kc_begin_0 : ∀ w ∈ wsX00, w ∈ wsX0_begin := by decide +kernel
theorem kc_begin_1 : (.fieldLink RX0 9 "MistHeaps$Chances" "drifts" "[I" : Cond) ∈ wsX0_begin := by decide +kernel
theorem kc_begin_2 : (.fieldLink RX0 17 "MistHeaps$Chances" "times" "[[J" : Cond) ∈ wsX0_begin := by decide +kernel
set_option maxHeartbeats 4000000 in
set_option maxRecDepth 100000 in
theorem c_begin (l : Launch) (dC : Nat → ClassId) (dI : Nat → Nat → Nat) (gd : Nat → Nat) (ch dr tO hO : Nat) (ft : Int64) (fr : Int32) (rt rh : Nat → Nat) (cD cTO cHO cT cH : ClassId) (sc aTp aHl aHs aWk aBk aFc : Nat) (bW bA bE bC : Nat) (cF : ClassId) (fF : Nat → Int32) (fD : Nat → Int32) (f0 : Nat → Int64) (j : Nat) (sz : Nat) (zj : j < 36) : Met l yX0_begin wsX0_begin ({ frames := 3, cells := 0, slots := 0, locals := 65 } : Room) (va_Pc [.ref ch, .ref sc, .int (nI j)] (fun U => U.heap.size = sz ∧ va_P (dC, dI) vwCl [(ch, .inr (2, [.long ft, .int fr, .ref dr, .ref tO, .ref hO])), (sc, .inr (10, [.ref aTp, .int 0, .ref aHl, .int 0, .long 0, .int 0, .int 0, .ref aHs, .int 0, .ref aWk, .int 0, .ref aBk, .int 0, .ref aFc])), (aHl, .inr (7, [.int 3, .int 0, .ref bW, .ref bA, .ref bE, .ref bC, .int 0, .null, .int 0, .int 0, .int 0])), (aFc, .inl (cF, 6, .inl fF)), (dr, .inl (cD, 36, .inl fD)), (tO, .inl (cTO, 3, .inr (.inr (.inr (.inr (fun i => if i < 3 then some (rt i) else none)))))), ((rt 0), .inl (cT, 36, .inr (.inl f0)))] U.heap ∧ va_K (dC, dI) vwCl [(cF, .int), (cD, .int), (cTO, .array .long), (cT, .long)] U ∧ va_D (fun _ => True) [(ch, .inr (2, [.long ft, .int fr, .ref dr, .ref tO, .ref hO])), (sc, .inr (10, [.ref aTp, .int 0, .ref aHl, .int 0, .long 0, .int 0, .int 0, .ref aHs, .int 0, .ref aWk, .int 0, .ref aBk, .int 0, .ref aFc])), (aHl, .inr (7, [.int 3, .int 0, .ref bW, .ref bA, .ref bE, .ref bC, .int 0, .null, .int 0, .int 0, .int 0])), (aFc, .inl (cF, 6, .inl fF)), (dr, .inl (cD, 36, .inl fD)), (tO, .inl (cTO, 3, .inr (.inr (.inr (.inr (fun i => if i < 3 then some (rt i) else none)))))), ((rt 0), .inl (cT, 36, .inr (.inl f0)))] ∧ Gl gd (va_A [(ch, .inr (2, [.long ft, .int fr, .ref dr, .ref tO, .ref hO])), (sc, .inr (10, [.ref aTp, .int 0, .ref aHl, .int 0, .long 0, .int 0, .int 0, .ref aHs, .int 0, .ref aWk, .int 0, .ref aBk, .int 0, .ref aFc])), (aHl, .inr (7, [.int 3, .int 0, .ref bW, .ref bA, .ref bE, .ref bC, .int 0, .null, .int 0, .int 0, .int 0])), (aFc, .inl (cF, 6, .inl fF)), (dr, .inl (cD, 36, .inl fD)), (tO, .inl (cTO, 3, .inr (.inr (.inr (.inr (fun i => if i < 3 then some (rt i) else none)))))), ((rt 0), .inl (cT, 36, .inr (.inl f0)))] sz) U)) (va_Qv (fun (u : (Nat → Int32) × (Nat → Int32) × (Nat → Int64)) => match u with | (fF2, fD2, f02) => (∀ x, x < 36 → fD2 x = 0) ∧ ∀ x, x < 36 → f02 x = ind j 0 x) (fun (u : (Nat → Int32) × (Nat → Int32) × (Nat → Int64)) (t : State) => match u with | (fF2, fD2, f02) => va_P (dC, dI) vwCl [(ch, .inr (2, [.long ft, .int fr, .ref dr, .ref tO, .ref hO])), (sc, .inr (10, [.ref aTp, .int 0, .ref aHl, .int 0, .long 0, .int 0, .int 0, .ref aHs, .int 0, .ref aWk, .int 0, .ref aBk, .int 0, .ref aFc])), (aHl, .inr (7, [.int 3, .int 0, .ref bW, .ref bA, .ref bE, .ref bC, .int 0, .null, .int 0, .int 0, .int 0])), (aFc, .inl (cF, 6, .inl fF2)), (dr, .inl (cD, 36, .inl fD2)), (tO, .inl (cTO, 3, .inr (.inr (.inr (.inr (fun i => if i < 3 then some (rt i) else none)))))), ((rt 0), .inl (cT, 36, .inr (.inl f02)))] t.heap ∧ va_K (dC, dI) vwCl [(cF, .int), (cD, .int), (cTO, .array .long), (cT, .long)] t ∧ va_D (va_A [(ch, .inr (2, [.long ft, .int fr, .ref dr, .ref tO, .ref hO])), (sc, .inr (10, [.ref aTp, .int 0, .ref aHl, .int 0, .long 0, .int 0, .int 0, .ref aHs, .int 0, .ref aWk, .int 0, .ref aBk, .int 0, .ref aFc])), (aHl, .inr (7, [.int 3, .int 0, .ref bW, .ref bA, .ref bE, .ref bC, .int 0, .null, .int 0, .int 0, .int 0])), (aFc, .inl (cF, 6, .inl fF)), (dr, .inl (cD, 36, .inl fD)), (tO, .inl (cTO, 3, .inr (.inr (.inr (.inr (fun i => if i < 3 then some (rt i) else none)))))), ((rt 0), .inl (cT, 36, .inr (.inl f0)))] sz) [(ch, .inr (2, [.long ft, .int fr, .ref dr, .ref tO, .ref hO])), (sc, .inr (10, [.ref aTp, .int 0, .ref aHl, .int 0, .long 0, .int 0, .int 0, .ref aHs, .int 0, .ref aWk, .int 0, .ref aBk, .int 0, .ref aFc])), (aHl, .inr (7, [.int 3, .int 0, .ref bW, .ref bA, .ref bE, .ref bC, .int 0, .null, .int 0, .int 0, .int 0])), (aFc, .inl (cF, 6, .inl fF2)), (dr, .inl (cD, 36, .inl fD2)), (tO, .inl (cTO, 3, .inr (.inr (.inr (.inr (fun i => if i < 3 then some (rt i) else none)))))), ((rt 0), .inl (cT, 36, .inr (.inl f02)))]) (va_A [(ch, .inr (2, [.long ft, .int fr, .ref dr, .ref tO, .ref hO])), (sc, .inr (10, [.ref aTp, .int 0, .ref aHl, .int 0, .long 0, .int 0, .int 0, .ref aHs, .int 0, .ref aWk, .int 0, .ref aBk, .int 0, .ref aFc])), (aHl, .inr (7, [.int 3, .int 0, .ref bW, .ref bA, .ref bE, .ref bC, .int 0, .null, .int 0, .int 0, .int 0])), (aFc, .inl (cF, 6, .inl fF)), (dr, .inl (cD, 36, .inl fD)), (tO, .inl (cTO, 3, .inr (.inr (.inr (.inr (fun i => if i < 3 then some (rt i) else none)))))), ((rt 0), .inl (cT, 36, .inr (.inl f0)))] sz)) 0 0 (va_A [(ch, .inr (2, [.long ft, .int fr, .ref dr, .ref tO, .ref hO])), (sc, .inr (10, [.ref aTp, .int 0, .ref aHl, .int 0, .long 0, .int 0, .int 0, .ref aHs, .int 0, .ref aWk, .int 0, .ref aBk, .int 0, .ref aFc])), (aHl, .inr (7, [.int 3, .int 0, .ref bW, .ref bA, .ref bE, .ref bC, .int 0, .null, .int 0, .int 0, .int 0])), (aFc, .inl (cF, 6, .inl fF)), (dr, .inl (cD, 36, .inl fD)), (tO, .inl (cTO, 3, .inr (.inr (.inr (.inr (fun i => if i < 3 then some (rt i) else none)))))), ((rt 0), .inl (cT, 36, .inr (.inl f0)))] sz) := by
  refine met_ofQ (cc := cX0_begin) (maxL := 4) (ret := none) (by decide) rfl ?_
  intro p e s m args below meth c s₁ Q B hml hv hQ
  obtain ⟨rfl, hsz, hP, hK, hD0, hG⟩ := hv
  have hx := B.exec
  have hb := B.bytes
  have hr := B.returns
  have hts := atoms_spec (ws := wsX0_begin) B.pre
  have hown : s.vm.findClass RX0 = some m.cls := findClass_of_methodNamed B.named
  have hlocks := B.notSynchronized
  subst hsz
  have hD := hD0.self (sz := s.heap.size)
  generalize hAe : va_A [(ch, .inr (2, [.long ft, .int fr, .ref dr, .ref tO, .ref hO])), (sc, .inr (10, [.ref aTp, .int 0, .ref aHl, .int 0, .long 0, .int 0, .int 0, .ref aHs, .int 0, .ref aWk, .int 0, .ref aBk, .int 0, .ref aFc])), (aHl, .inr (7, [.int 3, .int 0, .ref bW, .ref bA, .ref bE, .ref bC, .int 0, .null, .int 0, .int 0, .int 0])), (aFc, .inl (cF, 6, .inl fF)), (dr, .inl (cD, 36, .inl fD)), (tO, .inl (cTO, 3, .inr (.inr (.inr (.inr (fun i => if i < 3 then some (rt i) else none)))))), ((rt 0), .inl (cT, 36, .inr (.inl f0)))] s.heap.size = A at hD hQ hG ⊢
  have hA : ∀ q : Nat, s.heap.size ≤ q → A q := fun q h => by rw [← hAe]; exact Or.inr h
  have hS : va_S A s.heap s.heap [] := va_S.rf
  have hl := lv_entry [.ref ch, .ref sc, .int (nI j)] (n := 4) (Nat.le_of_ble_eq_true rfl)
  rw [lg_entry_eq]
  generalize (lg_sl [.ref ch, .ref sc, .int (nI j)] ++ List.replicate (4 - (lg_sl [.ref ch, .ref sc, .int (nI j)]).length) Slot.unset).toArray = ls at hl ⊢
  generalize hag : ([.ref ch, .ref sc, .int (nI j)] : List Value).toArray = args at hts hQ ⊢
  have hl : lv_has ls 4 [(0, .ref ch), (1, .ref sc), (2, .int (nI j))] := hl
  obtain ⟨H, hH⟩ : ∃ H : Heap, H = s.heap := ⟨_, rfl⟩
  rw [← hH] at hP
  rw [← hH]
  have hS : va_S A s.heap H [] := by rw [hH]; exact hS
  obtain ⟨locs, hlo⟩ : ∃ L : List Loc, L = [] := ⟨_, rfl⟩
  rw [← hlo] at hS
  rw [← hlo]
  clear hH hlo
  refine lv_iconst (v := 0) hx hb dX0_begin_0 (by decide) ?_
  refine lv_istore_n (lv' := [(3, .int 0), (0, .ref ch), (1, .ref sc), (2, .int (nI j))]) hx hb dX0_begin_1 rfl hl (by decide) rfl (fun ls hl => ?_)
  have L2 : ∀ (nF : Nat) (i : Nat) (g : Nat → Int32) (d : Nat → Int32) (f : Nat → Int64), 36 - i < nF → (i ≤ 36) → (∀ x, x < i → d x = 0) → (∀ x, x < i → f x = ind j 0 x) → ∀ (H : Heap) (locs : List Loc), va_K (dC, dI) vwCl [(cF, .int), (cD, .int), (cTO, .array .long), (cT, .long)] s → va_P (dC, dI) vwCl [(ch, .inr (2, [.long ft, .int fr, .ref dr, .ref tO, .ref hO])), (sc, .inr (10, [.ref aTp, .int 0, .ref aHl, .int 0, .long 0, .int 0, .int 0, .ref aHs, .int 0, .ref aWk, .int 0, .ref aBk, .int 0, .ref aFc])), (aHl, .inr (7, [.int 3, .int 0, .ref bW, .ref bA, .ref bE, .ref bC, .int 0, .null, .int 0, .int 0, .int 0])), (aFc, .inl (cF, 6, .inl g)), (dr, .inl (cD, 36, .inl d)), (tO, .inl (cTO, 3, .inr (.inr (.inr (.inr (fun i => if i < 3 then some (rt i) else none)))))), ((rt 0), .inl (cT, 36, .inr (.inl f)))] H → va_D A [(ch, .inr (2, [.long ft, .int fr, .ref dr, .ref tO, .ref hO])), (sc, .inr (10, [.ref aTp, .int 0, .ref aHl, .int 0, .long 0, .int 0, .int 0, .ref aHs, .int 0, .ref aWk, .int 0, .ref aBk, .int 0, .ref aFc])), (aHl, .inr (7, [.int 3, .int 0, .ref bW, .ref bA, .ref bE, .ref bC, .int 0, .null, .int 0, .int 0, .int 0])), (aFc, .inl (cF, 6, .inl g)), (dr, .inl (cD, 36, .inl d)), (tO, .inl (cTO, 3, .inr (.inr (.inr (.inr (fun i => if i < 3 then some (rt i) else none)))))), ((rt 0), .inl (cT, 36, .inr (.inl f)))] → va_S A s.heap H locs → ∀ (ls : Array Slot), lv_has ls 4 [(0, .ref ch), (1, .ref sc), (2, .int (nI j)), (3, .int (nI i))] → W p l e ({ frames := 3, cells := 0, slots := 0, locals := 65 } : Room) s m args below meth c H locs 0 0 Q (F0 m 2 ls []) := by
    intro nF
    induction nF with
    | zero => intro i g d f hm; exact absurd hm (Nat.not_lt_zero _)
    | succ nF ih2 =>
      intro i g d f hm hi hd hf H locs hK hP hD hS ls hl
      refine lv_iload_n hx hb dX0_begin_2 rfl (lv_at hl 3 rfl) ?_
      refine lv_bipush (v := 36) hx hb dX0_begin_3 (by decide) ?_
      refine lv_icmp_ge (tgt := 43) hx hb dX0_begin_5 (by decide) (fun c_1 => ?_) (fun c_1 => ?_)
      · skip
        have c_1 : 36 ≤ i := (nI_leI (a := 36) (b := i) (by omega) (by omega)).mp c_1
        rw [hQ]
        have hP9 := hP.sub (ws' := [(ch, .inr (2, [.long ft, .int fr, .ref dr, .ref tO, .ref hO])), (sc, .inr (10, [.ref aTp, .int 0, .ref aHl, .int 0, .long 0, .int 0, .int 0, .ref aHs, .int 0, .ref aWk, .int 0, .ref aBk, .int 0, .ref aFc])), (aHl, .inr (7, [.int 3, .int 0, .ref bW, .ref bA, .ref bE, .ref bC, .int 0, .null, .int 0, .int 0, .int 0])), (aFc, .inl (cF, 6, .inl g)), (dr, .inl (cD, 36, .inl d)), (tO, .inl (cTO, 3, .inr (.inr (.inr (.inr (fun i => if i < 3 then some (rt i) else none)))))), ((rt 0), .inl (cT, 36, .inr (.inl f)))]) [0, 1, 2, 3, 4, 5, 6] rfl
        have hD9 := hD.sub (ws' := [(ch, .inr (2, [.long ft, .int fr, .ref dr, .ref tO, .ref hO])), (sc, .inr (10, [.ref aTp, .int 0, .ref aHl, .int 0, .long 0, .int 0, .int 0, .ref aHs, .int 0, .ref aWk, .int 0, .ref aBk, .int 0, .ref aFc])), (aHl, .inr (7, [.int 3, .int 0, .ref bW, .ref bA, .ref bE, .ref bC, .int 0, .null, .int 0, .int 0, .int 0])), (aFc, .inl (cF, 6, .inl g)), (dr, .inl (cD, 36, .inl d)), (tO, .inl (cTO, 3, .inr (.inr (.inr (.inr (fun i => if i < 3 then some (rt i) else none)))))), ((rt 0), .inl (cT, 36, .inr (.inl f)))]) [0, 1, 2, 3, 4, 5, 6] (by decide) rfl
        have hK9 := hK.sub (tys' := [(cF, .int), (cD, .int), (cTO, .array .long), (cT, .long)]) [0, 1, 2, 3] rfl
        exact W.vret hx hb hr (fun tQ htQ hWQ => ⟨⟨(g, d, f), rfl, ⟨fun x hx => hd x (by omega), fun x hx => hf x (by omega)⟩, by rw [htQ]; exact hP9, va_K.moved hWQ.alike hK9, hD9⟩, hS.F htQ⟩) hS.2.2 dX0_begin_43
      · skip
        have c_1 : ¬ 36 ≤ i := fun q => c_1 ((nI_leI (a := 36) (b := i) (by omega) (by omega)).mpr q)
        refine lv_aload_n hx hb dX0_begin_8 rfl (lv_at hl 0 rfl) ?_
        refine va_get (D := (dC, dI)) (ci := 2) (v := .ref dr) (C := RX0) (T := TX0) (N := 5) hx hb hts kc_begin_0 hown hK hP 0 rfl rfl 2 (by decide) (hts (.fieldLink RX0 9 "MistHeaps$Chances" "drifts" "[I") kc_begin_1) (fun _ h9 => h9) rfl dX0_begin_9 ?_
        refine lv_iload_n hx hb dX0_begin_12 rfl (lv_at hl 3 rfl) ?_
        refine lv_aload_n hx hb dX0_begin_13 rfl (lv_at hl 1 rfl) ?_
        refine lv_iload_n hx hb dX0_begin_14 rfl (lv_at hl 3 rfl) ?_
        have hPc := hP.sub (ws' := [(sc, .inr (10, [.ref aTp, .int 0, .ref aHl, .int 0, .long 0, .int 0, .int 0, .ref aHs, .int 0, .ref aWk, .int 0, .ref aBk, .int 0, .ref aFc])), (aHl, .inr (7, [.int 3, .int 0, .ref bW, .ref bA, .ref bE, .ref bC, .int 0, .null, .int 0, .int 0, .int 0])), (aFc, .inl (cF, 6, .inl g))]) [1, 2, 3] rfl
        have hDc := hD.sub (ws' := [(sc, .inr (10, [.ref aTp, .int 0, .ref aHl, .int 0, .long 0, .int 0, .int 0, .ref aHs, .int 0, .ref aWk, .int 0, .ref aBk, .int 0, .ref aFc])), (aHl, .inr (7, [.int 3, .int 0, .ref bW, .ref bA, .ref bE, .ref bC, .int 0, .null, .int 0, .int 0, .int 0])), (aFc, .inl (cF, 6, .inl g))]) [1, 2, 3] (by decide) rfl
        have hKc := hK.sub (tys' := [(cF, .int)]) [0] rfl
        have hFc := va_free (wc := [(sc, .inr (10, [.ref aTp, .int 0, .ref aHl, .int 0, .long 0, .int 0, .int 0, .ref aHs, .int 0, .ref aWk, .int 0, .ref aBk, .int 0, .ref aFc])), (aHl, .inr (7, [.int 3, .int 0, .ref bW, .ref bA, .ref bE, .ref bC, .int 0, .null, .int 0, .int 0, .int 0])), (aFc, .inl (cF, 6, .inl g))]) hD hS hA [1, 2, 3] rfl
        refine va_calli (va_runV (As := [.int (nI i)]) (rest := [.int (nI i), .ref dr]) ⟨hx, hb, hml, hown, hts⟩ (c_driftOn0 l dC dI gd sc aTp aHl aHs aWk aBk aFc bW bA bE bC cF (g) (nI i) H.size) (cwV 1 hts gX0_begin_X8_driftOn rfl rfl rfl (by decide +kernel) ⟨Nat.le_of_ble_eq_true rfl, Nat.le_of_ble_eq_true rfl⟩) ⟨fun a U g mk q => by obtain ⟨q0, q1, qP, qK, qD, qhG⟩ := q; exact ⟨q0, q1, qP, va_K.moved (u := U) (U := U.calling g mk a) (Vm.Alike.refl U.vm) qK, qD, qhG.same rfl rfl⟩, va_recv hK hP (ci := 10) (q0 := 1) rfl rfl, fun U hU hW => ⟨rfl, by rw [hU], by rw [hU]; exact hPc, va_K.moved hW.alike hKc, hDc.weaken (fun _ _ _ _ => trivial), hG.call hS hU hW (fun q h => hFc q h)⟩⟩ rfl rfl hl.1 rfl (lv_room (Nat.le_of_ble_eq_true rfl)) dX0_begin_15 ⟨Nat.le_of_ble_eq_true rfl, Nat.le_of_ble_eq_true rfl⟩) hS (fun q _ h => hFc q h) hFc (fun r_2 u tC H1 locs htC hvm hw_3 hB hz1 hk1 hS => ?_)
        obtain ⟨fF2_4, rfl⟩ : ∃ z, z = u := ⟨_, rfl⟩
        try dsimp only at hw_3 hB
        obtain ⟨hP1, hK1, hD1⟩ := hB
        rw [htC] at hP1
        have hK1 := va_K.moved hvm.symm hK1
        obtain ⟨hP, hD⟩ := va_join (wr := [(ch, .inr (2, [.long ft, .int fr, .ref dr, .ref tO, .ref hO])), (dr, .inl (cD, 36, .inl d)), (tO, .inl (cTO, 3, .inr (.inr (.inr (.inr (fun i => if i < 3 then some (rt i) else none)))))), ((rt 0), .inl (cT, 36, .inr (.inl f)))]) (w1 := [(sc, .inr (10, [.ref aTp, .int 0, .ref aHl, .int 0, .long 0, .int 0, .int 0, .ref aHs, .int 0, .ref aWk, .int 0, .ref aBk, .int 0, .ref aFc])), (aHl, .inr (7, [.int 3, .int 0, .ref bW, .ref bA, .ref bE, .ref bC, .int 0, .null, .int 0, .int 0, .int 0])), (aFc, .inl (cF, 6, .inl fF2_4))]) hP hD [1, 2, 3] [0, 4, 5, 6] rfl rfl (by decide) (by decide) hk1 hFc hP1 hD1
        have hK := (hK.sub (tys' := [(cD, .int), (cTO, .array .long), (cT, .long)]) [1, 2, 3] rfl).app hK1
        generalize H1 = H at hP hS ⊢
        have hP : va_P (dC, dI) vwCl [(ch, .inr (2, [.long ft, .int fr, .ref dr, .ref tO, .ref hO])), (dr, .inl (cD, 36, .inl d)), (tO, .inl (cTO, 3, .inr (.inr (.inr (.inr (fun i => if i < 3 then some (rt i) else none)))))), ((rt 0), .inl (cT, 36, .inr (.inl f))), (sc, .inr (10, [.ref aTp, .int 0, .ref aHl, .int 0, .long 0, .int 0, .int 0, .ref aHs, .int 0, .ref aWk, .int 0, .ref aBk, .int 0, .ref aFc])), (aHl, .inr (7, [.int 3, .int 0, .ref bW, .ref bA, .ref bE, .ref bC, .int 0, .null, .int 0, .int 0, .int 0])), (aFc, .inl (cF, 6, .inl fF2_4))] H := hP
        have hD : va_D A [(ch, .inr (2, [.long ft, .int fr, .ref dr, .ref tO, .ref hO])), (dr, .inl (cD, 36, .inl d)), (tO, .inl (cTO, 3, .inr (.inr (.inr (.inr (fun i => if i < 3 then some (rt i) else none)))))), ((rt 0), .inl (cT, 36, .inr (.inl f))), (sc, .inr (10, [.ref aTp, .int 0, .ref aHl, .int 0, .long 0, .int 0, .int 0, .ref aHs, .int 0, .ref aWk, .int 0, .ref aBk, .int 0, .ref aFc])), (aHl, .inr (7, [.int 3, .int 0, .ref bW, .ref bA, .ref bE, .ref bC, .int 0, .null, .int 0, .int 0, .int 0])), (aFc, .inl (cF, 6, .inl fF2_4))] := hD
        have hK : va_K (dC, dI) vwCl [(cD, .int), (cTO, .array .long), (cT, .long), (cF, .int)] s := hK
        refine qi_as (y := 0) (hw_3) ?_
        refine va_iast hx hb hK hP hD hS 1 0 rfl rfl (vp_in_nI (n := i) (N := 36) (by omega) (by omega)) dX0_begin_18 (fun H locs hP hD hS => ?_)
        rw [nI_clamp (n := i) (by omega)] at hP hD
        have hP : va_P (dC, dI) vwCl [(ch, .inr (2, [.long ft, .int fr, .ref dr, .ref tO, .ref hO])), (dr, .inl (cD, 36, .inl (upd d i 0))), (tO, .inl (cTO, 3, .inr (.inr (.inr (.inr (fun i => if i < 3 then some (rt i) else none)))))), ((rt 0), .inl (cT, 36, .inr (.inl f))), (sc, .inr (10, [.ref aTp, .int 0, .ref aHl, .int 0, .long 0, .int 0, .int 0, .ref aHs, .int 0, .ref aWk, .int 0, .ref aBk, .int 0, .ref aFc])), (aHl, .inr (7, [.int 3, .int 0, .ref bW, .ref bA, .ref bE, .ref bC, .int 0, .null, .int 0, .int 0, .int 0])), (aFc, .inl (cF, 6, .inl fF2_4))] H := hP
        have hD : va_D A [(ch, .inr (2, [.long ft, .int fr, .ref dr, .ref tO, .ref hO])), (dr, .inl (cD, 36, .inl (upd d i 0))), (tO, .inl (cTO, 3, .inr (.inr (.inr (.inr (fun i => if i < 3 then some (rt i) else none)))))), ((rt 0), .inl (cT, 36, .inr (.inl f))), (sc, .inr (10, [.ref aTp, .int 0, .ref aHl, .int 0, .long 0, .int 0, .int 0, .ref aHs, .int 0, .ref aWk, .int 0, .ref aBk, .int 0, .ref aFc])), (aHl, .inr (7, [.int 3, .int 0, .ref bW, .ref bA, .ref bE, .ref bC, .int 0, .null, .int 0, .int 0, .int 0])), (aFc, .inl (cF, 6, .inl fF2_4))] := hD
        refine lv_aload_n hx hb dX0_begin_19 rfl (lv_at hl 0 rfl) ?_
        refine va_get (D := (dC, dI)) (ci := 2) (v := .ref tO) (C := RX0) (T := TX0) (N := 5) hx hb hts kc_begin_0 hown hK hP 0 rfl rfl 3 (by decide) (hts (.fieldLink RX0 17 "MistHeaps$Chances" "times" "[[J") kc_begin_2) (fun _ h9 => h9) rfl dX0_begin_20 ?_
        refine lv_iconst (v := 0) hx hb dX0_begin_23 (by decide) ?_
        refine va_alda hx hb hK hP 2 1 rfl rfl (vp_in_nI (n := 0) (N := 3) (by omega) (by omega)) dX0_begin_24 ?_
        refine qq_as (v := .ref (rt 0)) (rfl) ?_
        refine lv_iload_n hx hb dX0_begin_25 rfl (lv_at hl 3 rfl) ?_
        refine lv_iload_n hx hb dX0_begin_26 rfl (lv_at hl 3 rfl) ?_
        refine lv_iload_n hx hb dX0_begin_27 rfl (lv_at hl 2 rfl) ?_
        refine lv_icmp_ne (tgt := 35) hx hb dX0_begin_28 (by decide) (fun c_5 => ?_) (fun c_5 => ?_)
        · skip
          have c_5 : ¬ i = j := fun q => c_5 ((nI_eq (a := i) (b := j) (by omega) (by omega)).mpr q)
          refine lv_lconst (v := 0) hx hb dX0_begin_35 (by decide) ?_
          refine va_last hx hb hK hP hD hS 3 2 rfl rfl (vp_in_nI (n := i) (N := 36) (by omega) (by omega)) dX0_begin_36 (fun H locs hP hD hS => ?_)
          rw [nI_clamp (n := i) (by omega)] at hP hD
          have hP : va_P (dC, dI) vwCl [(ch, .inr (2, [.long ft, .int fr, .ref dr, .ref tO, .ref hO])), (dr, .inl (cD, 36, .inl (upd d i 0))), (tO, .inl (cTO, 3, .inr (.inr (.inr (.inr (fun i => if i < 3 then some (rt i) else none)))))), ((rt 0), .inl (cT, 36, .inr (.inl (vp_updL f i 0)))), (sc, .inr (10, [.ref aTp, .int 0, .ref aHl, .int 0, .long 0, .int 0, .int 0, .ref aHs, .int 0, .ref aWk, .int 0, .ref aBk, .int 0, .ref aFc])), (aHl, .inr (7, [.int 3, .int 0, .ref bW, .ref bA, .ref bE, .ref bC, .int 0, .null, .int 0, .int 0, .int 0])), (aFc, .inl (cF, 6, .inl fF2_4))] H := hP
          have hD : va_D A [(ch, .inr (2, [.long ft, .int fr, .ref dr, .ref tO, .ref hO])), (dr, .inl (cD, 36, .inl (upd d i 0))), (tO, .inl (cTO, 3, .inr (.inr (.inr (.inr (fun i => if i < 3 then some (rt i) else none)))))), ((rt 0), .inl (cT, 36, .inr (.inl (vp_updL f i 0)))), (sc, .inr (10, [.ref aTp, .int 0, .ref aHl, .int 0, .long 0, .int 0, .int 0, .ref aHs, .int 0, .ref aWk, .int 0, .ref aBk, .int 0, .ref aFc])), (aHl, .inr (7, [.int 3, .int 0, .ref bW, .ref bA, .ref bE, .ref bC, .int 0, .null, .int 0, .int 0, .int 0])), (aFc, .inl (cF, 6, .inl fF2_4))] := hD
          refine lv_iinc (v := nI (i + 1)) (lv' := [(3, .int (nI (i + 1))), (0, .ref ch), (1, .ref sc), (2, .int (nI j))]) hx hb dX0_begin_37 hl (k := 3) rfl (nI_add i 1) (by decide) rfl (fun ls hl => ?_)
          refine lv_goto (tgt := 2) hx hb dX0_begin_40 (by decide) ?_
          exact ih2 _ _ _ _ (by omega) (by omega) (upd_fill (v := fun _ => 0) hd rfl) (updL_fill (v := ind j 0) hf (by unfold ind; simp_all <;> rfl)) _ _ (hK.sub [3, 0, 1, 2] rfl) (hP.sub [0, 4, 5, 6, 1, 2, 3] rfl) (hD.sub [0, 4, 5, 6, 1, 2, 3] (by decide) rfl) hS ls (lv_sub hl [1, 2, 3, 0] rfl)
        · skip
          have c_5 : i = j := (nI_eq (a := i) (b := j) (by omega) (by omega)).mp c_5
          refine lv_lconst (v := 1) hx hb dX0_begin_31 (by decide) ?_
          refine lv_goto (tgt := 36) hx hb dX0_begin_32 (by decide) ?_
          refine va_last hx hb hK hP hD hS 3 2 rfl rfl (vp_in_nI (n := i) (N := 36) (by omega) (by omega)) dX0_begin_36 (fun H locs hP hD hS => ?_)
          rw [nI_clamp (n := i) (by omega)] at hP hD
          have hP : va_P (dC, dI) vwCl [(ch, .inr (2, [.long ft, .int fr, .ref dr, .ref tO, .ref hO])), (dr, .inl (cD, 36, .inl (upd d i 0))), (tO, .inl (cTO, 3, .inr (.inr (.inr (.inr (fun i => if i < 3 then some (rt i) else none)))))), ((rt 0), .inl (cT, 36, .inr (.inl (vp_updL f i 1)))), (sc, .inr (10, [.ref aTp, .int 0, .ref aHl, .int 0, .long 0, .int 0, .int 0, .ref aHs, .int 0, .ref aWk, .int 0, .ref aBk, .int 0, .ref aFc])), (aHl, .inr (7, [.int 3, .int 0, .ref bW, .ref bA, .ref bE, .ref bC, .int 0, .null, .int 0, .int 0, .int 0])), (aFc, .inl (cF, 6, .inl fF2_4))] H := hP
          have hD : va_D A [(ch, .inr (2, [.long ft, .int fr, .ref dr, .ref tO, .ref hO])), (dr, .inl (cD, 36, .inl (upd d i 0))), (tO, .inl (cTO, 3, .inr (.inr (.inr (.inr (fun i => if i < 3 then some (rt i) else none)))))), ((rt 0), .inl (cT, 36, .inr (.inl (vp_updL f i 1)))), (sc, .inr (10, [.ref aTp, .int 0, .ref aHl, .int 0, .long 0, .int 0, .int 0, .ref aHs, .int 0, .ref aWk, .int 0, .ref aBk, .int 0, .ref aFc])), (aHl, .inr (7, [.int 3, .int 0, .ref bW, .ref bA, .ref bE, .ref bC, .int 0, .null, .int 0, .int 0, .int 0])), (aFc, .inl (cF, 6, .inl fF2_4))] := hD
          refine lv_iinc (v := nI (i + 1)) (lv' := [(3, .int (nI (i + 1))), (0, .ref ch), (1, .ref sc), (2, .int (nI j))]) hx hb dX0_begin_37 hl (k := 3) rfl (nI_add i 1) (by decide) rfl (fun ls hl => ?_)
          refine lv_goto (tgt := 2) hx hb dX0_begin_40 (by decide) ?_
          exact ih2 _ _ _ _ (by omega) (by omega) (upd_fill (v := fun _ => 0) hd rfl) (updL_fill (v := ind j 0) hf (by unfold ind; simp_all <;> rfl)) _ _ (hK.sub [3, 0, 1, 2] rfl) (hP.sub [0, 4, 5, 6, 1, 2, 3] rfl) (hD.sub [0, 4, 5, 6, 1, 2, 3] (by decide) rfl) hS ls (lv_sub hl [1, 2, 3, 0] rfl)
  exact L2 _ (0) _ _ _ (Nat.lt_succ_self _) (by omega) (fun x h => absurd h (Nat.not_lt_zero x)) (fun x h => absurd h (Nat.not_lt_zero x)) _ _ (hK.sub [0, 1, 2, 3] rfl) (hP.sub [0, 1, 2, 3, 4, 5, 6] rfl) (hD.sub [0, 1, 2, 3, 4, 5, 6] (by decide) rfl) hS ls (lv_sub hl [1, 2, 3, 0] rfl)

theorem kc_spread_0 : ∀ w ∈ wsX80, w ∈ wsX0_spread := by decide +kernel
theorem kc_spread_1 : (.fieldLink RX0 52 "MistHeaps$Scene" "edges" "J" : Cond) ∈ wsX0_spread := by decide +kernel
theorem kc_spread_2 : (.initialized RX11 : Cond) ∈ wsX0_spread := by decide +kernel
theorem kc_spread_3 : (.static yX11_isIn : Cond) ∈ wsX0_spread := by decide +kernel
theorem kc_spread_4 : ∀ w ∈ wsX00, w ∈ wsX0_spread := by decide +kernel
theorem kc_spread_5 : (.fieldLink RX0 9 "MistHeaps$Chances" "drifts" "[I" : Cond) ∈ wsX0_spread := by decide +kernel
theorem kc_spread_6 : (.static yX11_besideOrSame : Cond) ∈ wsX0_spread := by decide +kernel
set_option maxHeartbeats 4000000 in
set_option maxRecDepth 100000 in
theorem c_spread (l : Launch) (dC : Nat → ClassId) (dI : Nat → Nat → Nat) (gd : Nat → Nat) (ch dr tO hO : Nat) (ft : Int64) (fr : Int32) (cD : ClassId) (sc aTp aHl aHs aWk aBk aFc : Nat) (fa ta : Nat) (cA1 cA2 : ClassId) (fD : Nat → Int32) (ff ft0 : Nat → Int64) (j k w : Nat) (sz : Nat) (zj : j < 36) (zk : k ≤ 2) (zw : w < 8) (zO : ∀ x, x < 36 → ff x = ind j k x) (zD : ∀ x, x < 36 → fD x = 0) : Met l yX0_spread wsX0_spread ({ frames := 2, cells := 0, slots := 0, locals := 44 } : Room) (va_Pc [.ref ch, .ref sc, .ref fa, .int (nI w), .ref ta] (fun U => U.heap.size = sz ∧ va_P (dC, dI) vwCl [(ch, .inr (2, [.long ft, .int fr, .ref dr, .ref tO, .ref hO])), (sc, .inr (10, [.ref aTp, .int 0, .ref aHl, .int 0, .long 0, .int 0, .int 0, .ref aHs, .int 0, .ref aWk, .int 0, .ref aBk, .int 0, .ref aFc])), (dr, .inl (cD, 36, .inl fD)), (fa, .inl (cA1, 36, .inr (.inl ff))), (ta, .inl (cA2, 36, .inr (.inl ft0)))] U.heap ∧ va_K (dC, dI) vwCl [(cD, .int), (cA1, .long), (cA2, .long)] U ∧ va_D (fun _ => True) [(ch, .inr (2, [.long ft, .int fr, .ref dr, .ref tO, .ref hO])), (sc, .inr (10, [.ref aTp, .int 0, .ref aHl, .int 0, .long 0, .int 0, .int 0, .ref aHs, .int 0, .ref aWk, .int 0, .ref aBk, .int 0, .ref aFc])), (dr, .inl (cD, 36, .inl fD)), (fa, .inl (cA1, 36, .inr (.inl ff))), (ta, .inl (cA2, 36, .inr (.inl ft0)))] ∧ Gl gd (va_A [(ch, .inr (2, [.long ft, .int fr, .ref dr, .ref tO, .ref hO])), (sc, .inr (10, [.ref aTp, .int 0, .ref aHl, .int 0, .long 0, .int 0, .int 0, .ref aHs, .int 0, .ref aWk, .int 0, .ref aBk, .int 0, .ref aFc])), (dr, .inl (cD, 36, .inl fD)), (fa, .inl (cA1, 36, .inr (.inl ff))), (ta, .inl (cA2, 36, .inr (.inl ft0)))] sz) U)) (va_Qv (fun (u : Nat → Int64) => match u with | ft2 => ∀ x, x < 36 → ft2 x = ind (nb j w) (k + 1) x) (fun (u : Nat → Int64) (t : State) => match u with | ft2 => va_P (dC, dI) vwCl [(ch, .inr (2, [.long ft, .int fr, .ref dr, .ref tO, .ref hO])), (sc, .inr (10, [.ref aTp, .int 0, .ref aHl, .int 0, .long 0, .int 0, .int 0, .ref aHs, .int 0, .ref aWk, .int 0, .ref aBk, .int 0, .ref aFc])), (dr, .inl (cD, 36, .inl fD)), (fa, .inl (cA1, 36, .inr (.inl ff))), (ta, .inl (cA2, 36, .inr (.inl ft2)))] t.heap ∧ va_K (dC, dI) vwCl [(cD, .int), (cA1, .long), (cA2, .long)] t ∧ va_D (va_A [(ch, .inr (2, [.long ft, .int fr, .ref dr, .ref tO, .ref hO])), (sc, .inr (10, [.ref aTp, .int 0, .ref aHl, .int 0, .long 0, .int 0, .int 0, .ref aHs, .int 0, .ref aWk, .int 0, .ref aBk, .int 0, .ref aFc])), (dr, .inl (cD, 36, .inl fD)), (fa, .inl (cA1, 36, .inr (.inl ff))), (ta, .inl (cA2, 36, .inr (.inl ft0)))] sz) [(ch, .inr (2, [.long ft, .int fr, .ref dr, .ref tO, .ref hO])), (sc, .inr (10, [.ref aTp, .int 0, .ref aHl, .int 0, .long 0, .int 0, .int 0, .ref aHs, .int 0, .ref aWk, .int 0, .ref aBk, .int 0, .ref aFc])), (dr, .inl (cD, 36, .inl fD)), (fa, .inl (cA1, 36, .inr (.inl ff))), (ta, .inl (cA2, 36, .inr (.inl ft2)))]) (va_A [(ch, .inr (2, [.long ft, .int fr, .ref dr, .ref tO, .ref hO])), (sc, .inr (10, [.ref aTp, .int 0, .ref aHl, .int 0, .long 0, .int 0, .int 0, .ref aHs, .int 0, .ref aWk, .int 0, .ref aBk, .int 0, .ref aFc])), (dr, .inl (cD, 36, .inl fD)), (fa, .inl (cA1, 36, .inr (.inl ff))), (ta, .inl (cA2, 36, .inr (.inl ft0)))] sz)) 0 0 (va_A [(ch, .inr (2, [.long ft, .int fr, .ref dr, .ref tO, .ref hO])), (sc, .inr (10, [.ref aTp, .int 0, .ref aHl, .int 0, .long 0, .int 0, .int 0, .ref aHs, .int 0, .ref aWk, .int 0, .ref aBk, .int 0, .ref aFc])), (dr, .inl (cD, 36, .inl fD)), (fa, .inl (cA1, 36, .inr (.inl ff))), (ta, .inl (cA2, 36, .inr (.inl ft0)))] sz) := by
  refine met_ofQ (cc := cX0_spread) (maxL := 9) (ret := none) (by decide) rfl ?_
  intro p e s m args below meth c s₁ Q B hml hv hQ
  obtain ⟨rfl, hsz, hP, hK, hD0, hG⟩ := hv
  have hx := B.exec
  have hb := B.bytes
  have hr := B.returns
  have hts := atoms_spec (ws := wsX0_spread) B.pre
  have hown : s.vm.findClass RX0 = some m.cls := findClass_of_methodNamed B.named
  have hlocks := B.notSynchronized
  subst hsz
  have hD := hD0.self (sz := s.heap.size)
  generalize hAe : va_A [(ch, .inr (2, [.long ft, .int fr, .ref dr, .ref tO, .ref hO])), (sc, .inr (10, [.ref aTp, .int 0, .ref aHl, .int 0, .long 0, .int 0, .int 0, .ref aHs, .int 0, .ref aWk, .int 0, .ref aBk, .int 0, .ref aFc])), (dr, .inl (cD, 36, .inl fD)), (fa, .inl (cA1, 36, .inr (.inl ff))), (ta, .inl (cA2, 36, .inr (.inl ft0)))] s.heap.size = A at hD hQ hG ⊢
  have hA : ∀ q : Nat, s.heap.size ≤ q → A q := fun q h => by rw [← hAe]; exact Or.inr h
  have hS : va_S A s.heap s.heap [] := va_S.rf
  have hl := lv_entry [.ref ch, .ref sc, .ref fa, .int (nI w), .ref ta] (n := 9) (Nat.le_of_ble_eq_true rfl)
  rw [lg_entry_eq]
  generalize (lg_sl [.ref ch, .ref sc, .ref fa, .int (nI w), .ref ta] ++ List.replicate (9 - (lg_sl [.ref ch, .ref sc, .ref fa, .int (nI w), .ref ta]).length) Slot.unset).toArray = ls at hl ⊢
  generalize hag : ([.ref ch, .ref sc, .ref fa, .int (nI w), .ref ta] : List Value).toArray = args at hts hQ ⊢
  have hl : lv_has ls 9 [(0, .ref ch), (1, .ref sc), (2, .ref fa), (3, .int (nI w)), (4, .ref ta)] := hl
  obtain ⟨H, hH⟩ : ∃ H : Heap, H = s.heap := ⟨_, rfl⟩
  rw [← hH] at hP
  rw [← hH]
  have hS : va_S A s.heap H [] := by rw [hH]; exact hS
  obtain ⟨locs, hlo⟩ : ∃ L : List Loc, L = [] := ⟨_, rfl⟩
  rw [← hlo] at hS
  rw [← hlo]
  clear hH hlo
  refine lv_iconst (v := 0) hx hb dX0_spread_0 (by decide) ?_
  refine lv_istore (lv' := [(5, .int 0), (0, .ref ch), (1, .ref sc), (2, .ref fa), (3, .int (nI w)), (4, .ref ta)]) hx hb dX0_spread_1 hl (by decide) rfl (fun ls hl => ?_)
  have L3 : ∀ (nF : Nat) (i : Nat) (t : Nat → Int64), 36 - i < nF → (i ≤ 36) → (∀ x, x < i → t x = 0) → ∀ (H : Heap) (locs : List Loc), va_K (dC, dI) vwCl [(cD, .int), (cA1, .long), (cA2, .long)] s → va_P (dC, dI) vwCl [(ch, .inr (2, [.long ft, .int fr, .ref dr, .ref tO, .ref hO])), (sc, .inr (10, [.ref aTp, .int 0, .ref aHl, .int 0, .long 0, .int 0, .int 0, .ref aHs, .int 0, .ref aWk, .int 0, .ref aBk, .int 0, .ref aFc])), (dr, .inl (cD, 36, .inl fD)), (fa, .inl (cA1, 36, .inr (.inl ff))), (ta, .inl (cA2, 36, .inr (.inl t)))] H → va_D A [(ch, .inr (2, [.long ft, .int fr, .ref dr, .ref tO, .ref hO])), (sc, .inr (10, [.ref aTp, .int 0, .ref aHl, .int 0, .long 0, .int 0, .int 0, .ref aHs, .int 0, .ref aWk, .int 0, .ref aBk, .int 0, .ref aFc])), (dr, .inl (cD, 36, .inl fD)), (fa, .inl (cA1, 36, .inr (.inl ff))), (ta, .inl (cA2, 36, .inr (.inl t)))] → va_S A s.heap H locs → ∀ (ls : Array Slot), lv_has ls 9 [(0, .ref ch), (1, .ref sc), (2, .ref fa), (3, .int (nI w)), (4, .ref ta), (5, .int (nI i))] → W p l e ({ frames := 2, cells := 0, slots := 0, locals := 44 } : Room) s m args below meth c H locs 0 0 Q (F0 m 3 ls []) := by
    intro nF
    induction nF with
    | zero => intro i t hm; exact absurd hm (Nat.not_lt_zero _)
    | succ nF ih3 =>
      intro i t hm hi ht H locs hK hP hD hS ls hl
      refine lv_iload hx hb dX0_spread_3 (lv_at hl 5 rfl) ?_
      refine lv_bipush (v := 36) hx hb dX0_spread_5 (by decide) ?_
      refine lv_icmp_ge (tgt := 22) hx hb dX0_spread_7 (by decide) (fun c_1 => ?_) (fun c_1 => ?_)
      · skip
        have c_1 : 36 ≤ i := (nI_leI (a := 36) (b := i) (by omega) (by omega)).mp c_1
        refine lv_iconst (v := 0) hx hb dX0_spread_22 (by decide) ?_
        refine lv_istore (lv' := [(5, .int 0), (0, .ref ch), (1, .ref sc), (2, .ref fa), (3, .int (nI w)), (4, .ref ta)]) hx hb dX0_spread_23 hl (by decide) rfl (fun ls hl => ?_)
        have L25 : ∀ (nF : Nat) (i : Nat) (t : Nat → Int64), 36 - i < nF → (i ≤ 36) → (∀ x, x < 36 → t x = if j < i then ind (nb j w) (k + 1) x else 0) → ∀ (H : Heap) (locs : List Loc), va_K (dC, dI) vwCl [(cD, .int), (cA1, .long), (cA2, .long)] s → va_P (dC, dI) vwCl [(ch, .inr (2, [.long ft, .int fr, .ref dr, .ref tO, .ref hO])), (sc, .inr (10, [.ref aTp, .int 0, .ref aHl, .int 0, .long 0, .int 0, .int 0, .ref aHs, .int 0, .ref aWk, .int 0, .ref aBk, .int 0, .ref aFc])), (dr, .inl (cD, 36, .inl fD)), (fa, .inl (cA1, 36, .inr (.inl ff))), (ta, .inl (cA2, 36, .inr (.inl t)))] H → va_D A [(ch, .inr (2, [.long ft, .int fr, .ref dr, .ref tO, .ref hO])), (sc, .inr (10, [.ref aTp, .int 0, .ref aHl, .int 0, .long 0, .int 0, .int 0, .ref aHs, .int 0, .ref aWk, .int 0, .ref aBk, .int 0, .ref aFc])), (dr, .inl (cD, 36, .inl fD)), (fa, .inl (cA1, 36, .inr (.inl ff))), (ta, .inl (cA2, 36, .inr (.inl t)))] → va_S A s.heap H locs → ∀ (ls : Array Slot), lv_has ls 9 [(0, .ref ch), (1, .ref sc), (2, .ref fa), (3, .int (nI w)), (4, .ref ta), (5, .int (nI i))] → W p l e ({ frames := 2, cells := 0, slots := 0, locals := 44 } : Room) s m args below meth c H locs 0 0 Q (F0 m 25 ls []) := by
          intro nF
          induction nF with
          | zero => intro i t hm; exact absurd hm (Nat.not_lt_zero _)
          | succ nF ih25 =>
            intro i t hm hi ht H locs hK hP hD hS ls hl
            refine lv_iload hx hb dX0_spread_25 (lv_at hl 5 rfl) ?_
            refine lv_bipush (v := 36) hx hb dX0_spread_27 (by decide) ?_
            refine lv_icmp_ge (tgt := 162) hx hb dX0_spread_29 (by decide) (fun c_2 => ?_) (fun c_2 => ?_)
            · skip
              have c_2 : 36 ≤ i := (nI_leI (a := 36) (b := i) (by omega) (by omega)).mp c_2
              rw [hQ]
              have hP9 := hP.sub (ws' := [(ch, .inr (2, [.long ft, .int fr, .ref dr, .ref tO, .ref hO])), (sc, .inr (10, [.ref aTp, .int 0, .ref aHl, .int 0, .long 0, .int 0, .int 0, .ref aHs, .int 0, .ref aWk, .int 0, .ref aBk, .int 0, .ref aFc])), (dr, .inl (cD, 36, .inl fD)), (fa, .inl (cA1, 36, .inr (.inl ff))), (ta, .inl (cA2, 36, .inr (.inl t)))]) [0, 1, 2, 3, 4] rfl
              have hD9 := hD.sub (ws' := [(ch, .inr (2, [.long ft, .int fr, .ref dr, .ref tO, .ref hO])), (sc, .inr (10, [.ref aTp, .int 0, .ref aHl, .int 0, .long 0, .int 0, .int 0, .ref aHs, .int 0, .ref aWk, .int 0, .ref aBk, .int 0, .ref aFc])), (dr, .inl (cD, 36, .inl fD)), (fa, .inl (cA1, 36, .inr (.inl ff))), (ta, .inl (cA2, 36, .inr (.inl t)))]) [0, 1, 2, 3, 4] (by decide) rfl
              have hK9 := hK.sub (tys' := [(cD, .int), (cA1, .long), (cA2, .long)]) [0, 1, 2] rfl
              exact W.vret hx hb hr (fun tQ htQ hWQ => ⟨⟨t, rfl, (fun x hx => by rw [ht x (by omega), if_pos (by omega)]), by rw [htQ]; exact hP9, va_K.moved hWQ.alike hK9, hD9⟩, hS.F htQ⟩) hS.2.2 dX0_spread_162
            · skip
              have c_2 : ¬ 36 ≤ i := fun q => c_2 ((nI_leI (a := 36) (b := i) (by omega) (by omega)).mpr q)
              by_cases hij : i = j
              · skip
                refine lv_aload_n hx hb dX0_spread_32 rfl (lv_at hl 2 rfl) ?_
                refine lv_iload hx hb dX0_spread_33 (lv_at hl 5 rfl) ?_
                refine va_lald hx hb hK hP 3 1 rfl rfl (vp_in_nI (n := i) (N := 36) (by omega) (by omega)) dX0_spread_35 ?_
                refine ql_as (y := lN (20 ^ k)) ((show ff (nI i).toNatClampNeg = ff i from by rw [nI_clamp (by omega)]).trans (by rw [zO i (by omega), ind, if_pos hij])) ?_
                refine lv_lstore (lv' := [(6, .long (lN (20 ^ k))), (0, .ref ch), (1, .ref sc), (2, .ref fa), (3, .int (nI w)), (4, .ref ta), (5, .int (nI i))]) hx hb dX0_spread_36 hl (by decide) rfl (fun ls hl => ?_)
                refine lv_lload hx hb dX0_spread_38 (lv_at hl 0 rfl) ?_
                refine lv_lconst (v := 0) hx hb dX0_spread_40 (by decide) ?_
                refine W.lcmp hx hb dX0_spread_41 ?_
                refine lv_if_ne (tgt := 48) hx hb dX0_spread_42 (by decide) (fun c_3 => ?_) (fun c_3 => absurd c_3 (fun q => ne20 (k := k) (by omega) ((lg_cmp_eq _ _).mp q)))
                refine lv_aload_n hx hb dX0_spread_48 rfl (lv_at hl 2 rfl) ?_
                refine va_get (D := (dC, dI)) (ci := 10) (v := .long 0) (C := RX8) (T := TX8) (N := 14) hx hb hts kc_spread_0 hown hK hP 1 rfl rfl 4 (by decide) (hts (.fieldLink RX0 52 "MistHeaps$Scene" "edges" "J") kc_spread_1) (fun _ h9 => h9) rfl dX0_spread_49 ?_
                refine lv_iload hx hb dX0_spread_52 (lv_at hl 6 rfl) ?_
                refine vp_callSi (va_runSN (As := [.long 0, .int (nI i)]) (rest := []) ⟨hx, hb, hml, hown, hts⟩ (c_isIn l dC dI 0 i) ⟨va_cnB 2 hts ggX0_spread_X11_isIn rfl rfl rfl (hG.1 (.methodLinkNest RX0 44 yX11_isIn "MistHeaps") (by decide +kernel)) (hts (.initialized RX11) kc_spread_2) (by decide +kernel) ⟨Nat.le_of_ble_eq_true rfl, Nat.le_of_ble_eq_true rfl⟩, (hts (.static yX11_isIn) kc_spread_3), trivial⟩ ⟨fun a U g mk q => ⟨q.1, trivial⟩, fun U hU hW => ⟨rfl, trivial⟩⟩ rfl rfl hl.1 rfl (lv_room (Nat.le_of_ble_eq_true rfl)) dX0_spread_54 ⟨Nat.le_of_ble_eq_true rfl, Nat.le_of_ble_eq_true rfl⟩).run (fun r_4 hw_5 => ?_)
                refine qi_as (y := 0) (hw_5.trans (hz_e0 i (by omega))) ?_
                refine lv_if_eq (tgt := 77) hx hb dX0_spread_57 (by decide) (fun _ => ?_) (fun c_6 => absurd c_6 (by decide))
                refine lv_aload_n hx hb dX0_spread_77 rfl (lv_at hl 1 rfl) ?_
                refine va_get (D := (dC, dI)) (ci := 2) (v := .ref dr) (C := RX0) (T := TX0) (N := 5) hx hb hts kc_spread_4 hown hK hP 0 rfl rfl 2 (by decide) (hts (.fieldLink RX0 9 "MistHeaps$Chances" "drifts" "[I") kc_spread_5) (fun _ h9 => h9) rfl dX0_spread_78 ?_
                refine lv_iload hx hb dX0_spread_81 (lv_at hl 6 rfl) ?_
                refine va_iald hx hb hK hP 2 0 rfl rfl (vp_in_nI (n := i) (N := 36) (by omega) (by omega)) dX0_spread_83 ?_
                refine qi_as (y := 0) ((show fD (nI i).toNatClampNeg = fD i from by rw [nI_clamp (by omega)]).trans (zD i (by omega))) ?_
                refine lv_istore (lv' := [(8, .int 0), (6, .long (lN (20 ^ k))), (0, .ref ch), (1, .ref sc), (2, .ref fa), (3, .int (nI w)), (4, .ref ta), (5, .int (nI i))]) hx hb dX0_spread_84 hl (by decide) rfl (fun ls hl => ?_)
                refine lv_aload hx hb dX0_spread_86 (lv_at hl 6 rfl) ?_
                refine lv_iload hx hb dX0_spread_88 (lv_at hl 7 rfl) ?_
                refine lv_iload_n hx hb dX0_spread_90 rfl (lv_at hl 5 rfl) ?_
                refine vp_callSi (va_runSN (As := [.int (nI i), .int (nI w)]) (rest := [.ref ta]) ⟨hx, hb, hml, hown, hts⟩ (c_beside l dC dI gd i (w) (by omega) (by omega)) ⟨va_cnB 2 hts ggX0_spread_X11_besideOrSame rfl rfl rfl (hG.1 (.methodLinkNest RX0 56 yX11_besideOrSame "MistHeaps") (by decide +kernel)) (hts (.initialized RX11) kc_spread_2) (by decide +kernel) ⟨Nat.le_of_ble_eq_true rfl, Nat.le_of_ble_eq_true rfl⟩, (hts (.static yX11_besideOrSame) kc_spread_6), trivial⟩ ⟨fun a U g mk q => by obtain ⟨q0, qhG⟩ := q; exact ⟨q0, qhG.same rfl rfl⟩, fun U hU hW => ⟨rfl, hG.callF hS hU hW⟩⟩ rfl rfl hl.1 rfl (lv_room (Nat.le_of_ble_eq_true rfl)) dX0_spread_91 ⟨Nat.le_of_ble_eq_true rfl, Nat.le_of_ble_eq_true rfl⟩).run (fun r_7 hw_8 => ?_)
                refine qi_as (y := nI (nb i w)) (hw_8) ?_
                have hn_9 : nb i w < 36 := nb_lt (by omega) (by omega)
                refine lv_dup2_11 hx hb dX0_spread_94 rfl rfl ?_
                refine va_lald hx hb hK hP 4 2 rfl rfl (vp_in_nI (n := nb i w) (N := 36) (by omega) (by omega)) dX0_spread_95 ?_
                refine ql_as (y := 0) ((show t (nI (nb i w)).toNatClampNeg = t (nb i w) from by rw [nI_clamp (by omega)]).trans (by rw [ht _ (by omega), if_neg (by omega)])) ?_
                refine lv_lload hx hb dX0_spread_96 (lv_at hl 1 rfl) ?_
                refine lv_bipush (v := 20) hx hb dX0_spread_98 (by decide) ?_
                refine lv_iconst (v := 2) hx hb dX0_spread_100 (by decide) ?_
                refine lv_iload hx hb dX0_spread_101 (lv_at hl 0 rfl) ?_
                refine lv_imul hx hb dX0_spread_103 ?_
                refine qi_as (y := 0) (by decide) ?_
                refine lv_isub hx hb dX0_spread_104 ?_
                refine qi_as (y := 20) (by decide) ?_
                refine lv_i2l (v := 20) hx hb dX0_spread_105 (by decide) ?_
                refine lv_lmul hx hb dX0_spread_106 ?_
                refine ql_as (y := lN (20 ^ (k + 1))) (mul20' k) ?_
                refine lv_ladd hx hb dX0_spread_107 ?_
                refine ql_as (y := lN (20 ^ (k + 1))) (Int64.zero_add _) ?_
                refine va_last hx hb hK hP hD hS 4 2 rfl rfl (vp_in_nI (n := nb i w) (N := 36) (by omega) (by omega)) dX0_spread_108 (fun H locs hP hD hS => ?_)
                rw [nI_clamp (n := nb i w) (by omega)] at hP hD
                have hP : va_P (dC, dI) vwCl [(ch, .inr (2, [.long ft, .int fr, .ref dr, .ref tO, .ref hO])), (sc, .inr (10, [.ref aTp, .int 0, .ref aHl, .int 0, .long 0, .int 0, .int 0, .ref aHs, .int 0, .ref aWk, .int 0, .ref aBk, .int 0, .ref aFc])), (dr, .inl (cD, 36, .inl fD)), (fa, .inl (cA1, 36, .inr (.inl ff))), (ta, .inl (cA2, 36, .inr (.inl (vp_updL t (nb i w) (lN (20 ^ (k + 1)))))))] H := hP
                have hD : va_D A [(ch, .inr (2, [.long ft, .int fr, .ref dr, .ref tO, .ref hO])), (sc, .inr (10, [.ref aTp, .int 0, .ref aHl, .int 0, .long 0, .int 0, .int 0, .ref aHs, .int 0, .ref aWk, .int 0, .ref aBk, .int 0, .ref aFc])), (dr, .inl (cD, 36, .inl fD)), (fa, .inl (cA1, 36, .inr (.inl ff))), (ta, .inl (cA2, 36, .inr (.inl (vp_updL t (nb i w) (lN (20 ^ (k + 1)))))))] := hD
                refine lv_aload hx hb dX0_spread_109 (lv_at hl 6 rfl) ?_
                refine lv_iload hx hb dX0_spread_111 (lv_at hl 7 rfl) ?_
                refine lv_iload_n hx hb dX0_spread_113 rfl (lv_at hl 5 rfl) ?_
                refine lv_bipush (v := 7) hx hb dX0_spread_114 (by decide) ?_
                refine lv_iadd hx hb dX0_spread_116 ?_
                refine qi_as (y := nI (w + 7)) (nI_add w 7) ?_
                refine lv_bipush (v := 7) hx hb dX0_spread_117 (by decide) ?_
                refine lv_iand hx hb dX0_spread_119 ?_
                refine qi_as (y := nI ((w + 7) % 8)) (pk_andN (n := w + 7) (by omega) 3 (by decide)) ?_
                refine vp_callSi (va_runSN (As := [.int (nI i), .int (nI ((w + 7) % 8))]) (rest := [.ref ta]) ⟨hx, hb, hml, hown, hts⟩ (c_beside l dC dI gd i ((w + 7) % 8) (by omega) (by omega)) ⟨va_cnB 2 hts ggX0_spread_X11_besideOrSame rfl rfl rfl (hG.1 (.methodLinkNest RX0 56 yX11_besideOrSame "MistHeaps") (by decide +kernel)) (hts (.initialized RX11) kc_spread_2) (by decide +kernel) ⟨Nat.le_of_ble_eq_true rfl, Nat.le_of_ble_eq_true rfl⟩, (hts (.static yX11_besideOrSame) kc_spread_6), trivial⟩ ⟨fun a U g mk q => by obtain ⟨q0, qhG⟩ := q; exact ⟨q0, qhG.same rfl rfl⟩, fun U hU hW => ⟨rfl, hG.callF hS hU hW⟩⟩ rfl rfl hl.1 rfl (lv_room (Nat.le_of_ble_eq_true rfl)) dX0_spread_120 ⟨Nat.le_of_ble_eq_true rfl, Nat.le_of_ble_eq_true rfl⟩).run (fun r_10 hw_11 => ?_)
                refine qi_as (y := nI (nb i ((w + 7) % 8))) (hw_11) ?_
                have hn_12 : nb i ((w + 7) % 8) < 36 := nb_lt (by omega) (by omega)
                refine lv_dup2_11 hx hb dX0_spread_123 rfl rfl ?_
                refine va_lald hx hb hK hP 4 2 rfl rfl (vp_in_nI (n := nb i ((w + 7) % 8)) (N := 36) (by omega) (by omega)) dX0_spread_124 ?_
                refine ql_as (y := (vp_updL t (nb i w) (lN (20 ^ (k + 1)))) (nb i ((w + 7) % 8))) (by rw [nI_clamp (by omega)]) ?_
                refine lv_lload hx hb dX0_spread_125 (lv_at hl 1 rfl) ?_
                refine lv_iload hx hb dX0_spread_127 (lv_at hl 0 rfl) ?_
                refine lv_i2l (v := 0) hx hb dX0_spread_129 (by decide) ?_
                refine lv_lmul hx hb dX0_spread_130 ?_
                refine ql_as (y := 0) (Int64.mul_zero) ?_
                refine lv_ladd hx hb dX0_spread_131 ?_
                refine ql_as (y := ((vp_updL t (nb i w) (lN (20 ^ (k + 1)))) (nb i ((w + 7) % 8)))) (Int64.add_zero _) ?_
                refine va_last hx hb hK hP hD hS 4 2 rfl rfl (vp_in_nI (n := nb i ((w + 7) % 8)) (N := 36) (by omega) (by omega)) dX0_spread_132 (fun H locs hP hD hS => ?_)
                rw [nI_clamp (n := nb i ((w + 7) % 8)) (by omega)] at hP hD
                have hP : va_P (dC, dI) vwCl [(ch, .inr (2, [.long ft, .int fr, .ref dr, .ref tO, .ref hO])), (sc, .inr (10, [.ref aTp, .int 0, .ref aHl, .int 0, .long 0, .int 0, .int 0, .ref aHs, .int 0, .ref aWk, .int 0, .ref aBk, .int 0, .ref aFc])), (dr, .inl (cD, 36, .inl fD)), (fa, .inl (cA1, 36, .inr (.inl ff))), (ta, .inl (cA2, 36, .inr (.inl (vp_updL (vp_updL t (nb i w) (lN (20 ^ (k + 1)))) (nb i ((w + 7) % 8)) ((vp_updL t (nb i w) (lN (20 ^ (k + 1)))) (nb i ((w + 7) % 8)))))))] H := hP
                have hD : va_D A [(ch, .inr (2, [.long ft, .int fr, .ref dr, .ref tO, .ref hO])), (sc, .inr (10, [.ref aTp, .int 0, .ref aHl, .int 0, .long 0, .int 0, .int 0, .ref aHs, .int 0, .ref aWk, .int 0, .ref aBk, .int 0, .ref aFc])), (dr, .inl (cD, 36, .inl fD)), (fa, .inl (cA1, 36, .inr (.inl ff))), (ta, .inl (cA2, 36, .inr (.inl (vp_updL (vp_updL t (nb i w) (lN (20 ^ (k + 1)))) (nb i ((w + 7) % 8)) ((vp_updL t (nb i w) (lN (20 ^ (k + 1)))) (nb i ((w + 7) % 8)))))))] := hD
                rw [show vp_updL (vp_updL t (nb i w) (lN (20 ^ (k + 1)))) (nb i ((w + 7) % 8)) ((vp_updL t (nb i w) (lN (20 ^ (k + 1)))) (nb i ((w + 7) % 8))) = vp_updL t (nb i w) (lN (20 ^ (k + 1))) from updL_self _ _] at hP hD
                have hP : va_P (dC, dI) vwCl [(ch, .inr (2, [.long ft, .int fr, .ref dr, .ref tO, .ref hO])), (sc, .inr (10, [.ref aTp, .int 0, .ref aHl, .int 0, .long 0, .int 0, .int 0, .ref aHs, .int 0, .ref aWk, .int 0, .ref aBk, .int 0, .ref aFc])), (dr, .inl (cD, 36, .inl fD)), (fa, .inl (cA1, 36, .inr (.inl ff))), (ta, .inl (cA2, 36, .inr (.inl (vp_updL t (nb i w) (lN (20 ^ (k + 1)))))))] H := hP
                have hD : va_D A [(ch, .inr (2, [.long ft, .int fr, .ref dr, .ref tO, .ref hO])), (sc, .inr (10, [.ref aTp, .int 0, .ref aHl, .int 0, .long 0, .int 0, .int 0, .ref aHs, .int 0, .ref aWk, .int 0, .ref aBk, .int 0, .ref aFc])), (dr, .inl (cD, 36, .inl fD)), (fa, .inl (cA1, 36, .inr (.inl ff))), (ta, .inl (cA2, 36, .inr (.inl (vp_updL t (nb i w) (lN (20 ^ (k + 1)))))))] := hD
                refine lv_aload hx hb dX0_spread_133 (lv_at hl 6 rfl) ?_
                refine lv_iload hx hb dX0_spread_135 (lv_at hl 7 rfl) ?_
                refine lv_iload_n hx hb dX0_spread_137 rfl (lv_at hl 5 rfl) ?_
                refine lv_iconst (v := 1) hx hb dX0_spread_138 (by decide) ?_
                refine lv_iadd hx hb dX0_spread_139 ?_
                refine qi_as (y := nI (w + 1)) (nI_add w 1) ?_
                refine lv_bipush (v := 7) hx hb dX0_spread_140 (by decide) ?_
                refine lv_iand hx hb dX0_spread_142 ?_
                refine qi_as (y := nI ((w + 1) % 8)) (pk_andN (n := w + 1) (by omega) 3 (by decide)) ?_
                refine vp_callSi (va_runSN (As := [.int (nI i), .int (nI ((w + 1) % 8))]) (rest := [.ref ta]) ⟨hx, hb, hml, hown, hts⟩ (c_beside l dC dI gd i ((w + 1) % 8) (by omega) (by omega)) ⟨va_cnB 2 hts ggX0_spread_X11_besideOrSame rfl rfl rfl (hG.1 (.methodLinkNest RX0 56 yX11_besideOrSame "MistHeaps") (by decide +kernel)) (hts (.initialized RX11) kc_spread_2) (by decide +kernel) ⟨Nat.le_of_ble_eq_true rfl, Nat.le_of_ble_eq_true rfl⟩, (hts (.static yX11_besideOrSame) kc_spread_6), trivial⟩ ⟨fun a U g mk q => by obtain ⟨q0, qhG⟩ := q; exact ⟨q0, qhG.same rfl rfl⟩, fun U hU hW => ⟨rfl, hG.callF hS hU hW⟩⟩ rfl rfl hl.1 rfl (lv_room (Nat.le_of_ble_eq_true rfl)) dX0_spread_143 ⟨Nat.le_of_ble_eq_true rfl, Nat.le_of_ble_eq_true rfl⟩).run (fun r_13 hw_14 => ?_)
                refine qi_as (y := nI (nb i ((w + 1) % 8))) (hw_14) ?_
                have hn_15 : nb i ((w + 1) % 8) < 36 := nb_lt (by omega) (by omega)
                refine lv_dup2_11 hx hb dX0_spread_146 rfl rfl ?_
                refine va_lald hx hb hK hP 4 2 rfl rfl (vp_in_nI (n := nb i ((w + 1) % 8)) (N := 36) (by omega) (by omega)) dX0_spread_147 ?_
                refine ql_as (y := (vp_updL t (nb i w) (lN (20 ^ (k + 1)))) (nb i ((w + 1) % 8))) (by rw [nI_clamp (by omega)]) ?_
                refine lv_lload hx hb dX0_spread_148 (lv_at hl 1 rfl) ?_
                refine lv_iload hx hb dX0_spread_150 (lv_at hl 0 rfl) ?_
                refine lv_i2l (v := 0) hx hb dX0_spread_152 (by decide) ?_
                refine lv_lmul hx hb dX0_spread_153 ?_
                refine ql_as (y := 0) (Int64.mul_zero) ?_
                refine lv_ladd hx hb dX0_spread_154 ?_
                refine ql_as (y := ((vp_updL t (nb i w) (lN (20 ^ (k + 1)))) (nb i ((w + 1) % 8)))) (Int64.add_zero _) ?_
                refine va_last hx hb hK hP hD hS 4 2 rfl rfl (vp_in_nI (n := nb i ((w + 1) % 8)) (N := 36) (by omega) (by omega)) dX0_spread_155 (fun H locs hP hD hS => ?_)
                rw [nI_clamp (n := nb i ((w + 1) % 8)) (by omega)] at hP hD
                have hP : va_P (dC, dI) vwCl [(ch, .inr (2, [.long ft, .int fr, .ref dr, .ref tO, .ref hO])), (sc, .inr (10, [.ref aTp, .int 0, .ref aHl, .int 0, .long 0, .int 0, .int 0, .ref aHs, .int 0, .ref aWk, .int 0, .ref aBk, .int 0, .ref aFc])), (dr, .inl (cD, 36, .inl fD)), (fa, .inl (cA1, 36, .inr (.inl ff))), (ta, .inl (cA2, 36, .inr (.inl (vp_updL (vp_updL t (nb i w) (lN (20 ^ (k + 1)))) (nb i ((w + 1) % 8)) ((vp_updL t (nb i w) (lN (20 ^ (k + 1)))) (nb i ((w + 1) % 8)))))))] H := hP
                have hD : va_D A [(ch, .inr (2, [.long ft, .int fr, .ref dr, .ref tO, .ref hO])), (sc, .inr (10, [.ref aTp, .int 0, .ref aHl, .int 0, .long 0, .int 0, .int 0, .ref aHs, .int 0, .ref aWk, .int 0, .ref aBk, .int 0, .ref aFc])), (dr, .inl (cD, 36, .inl fD)), (fa, .inl (cA1, 36, .inr (.inl ff))), (ta, .inl (cA2, 36, .inr (.inl (vp_updL (vp_updL t (nb i w) (lN (20 ^ (k + 1)))) (nb i ((w + 1) % 8)) ((vp_updL t (nb i w) (lN (20 ^ (k + 1)))) (nb i ((w + 1) % 8)))))))] := hD
                rw [show vp_updL (vp_updL t (nb i w) (lN (20 ^ (k + 1)))) (nb i ((w + 1) % 8)) ((vp_updL t (nb i w) (lN (20 ^ (k + 1)))) (nb i ((w + 1) % 8))) = vp_updL t (nb i w) (lN (20 ^ (k + 1))) from updL_self _ _] at hP hD
                have hP : va_P (dC, dI) vwCl [(ch, .inr (2, [.long ft, .int fr, .ref dr, .ref tO, .ref hO])), (sc, .inr (10, [.ref aTp, .int 0, .ref aHl, .int 0, .long 0, .int 0, .int 0, .ref aHs, .int 0, .ref aWk, .int 0, .ref aBk, .int 0, .ref aFc])), (dr, .inl (cD, 36, .inl fD)), (fa, .inl (cA1, 36, .inr (.inl ff))), (ta, .inl (cA2, 36, .inr (.inl (vp_updL t (nb i w) (lN (20 ^ (k + 1)))))))] H := hP
                have hD : va_D A [(ch, .inr (2, [.long ft, .int fr, .ref dr, .ref tO, .ref hO])), (sc, .inr (10, [.ref aTp, .int 0, .ref aHl, .int 0, .long 0, .int 0, .int 0, .ref aHs, .int 0, .ref aWk, .int 0, .ref aBk, .int 0, .ref aFc])), (dr, .inl (cD, 36, .inl fD)), (fa, .inl (cA1, 36, .inr (.inl ff))), (ta, .inl (cA2, 36, .inr (.inl (vp_updL t (nb i w) (lN (20 ^ (k + 1)))))))] := hD
                refine lv_iinc (v := nI (i + 1)) (lv' := [(5, .int (nI (i + 1))), (8, .int 0), (6, .long (lN (20 ^ k))), (0, .ref ch), (1, .ref sc), (2, .ref fa), (3, .int (nI w)), (4, .ref ta)]) hx hb dX0_spread_156 hl (k := 7) rfl (nI_add i 1) (by decide) rfl (fun ls hl => ?_)
                refine lv_goto (tgt := 25) hx hb dX0_spread_159 (by decide) ?_
                exact ih25 _ _ (by omega) (by omega) (go_put hij ht) _ _ (hK.sub [0, 1, 2] rfl) (hP.sub [0, 1, 2, 3, 4] rfl) (hD.sub [0, 1, 2, 3, 4] (by decide) rfl) hS ls (lv_sub hl [3, 4, 5, 6, 7, 0] rfl)
              · skip
                refine lv_aload_n hx hb dX0_spread_32 rfl (lv_at hl 2 rfl) ?_
                refine lv_iload hx hb dX0_spread_33 (lv_at hl 5 rfl) ?_
                refine va_lald hx hb hK hP 3 1 rfl rfl (vp_in_nI (n := i) (N := 36) (by omega) (by omega)) dX0_spread_35 ?_
                refine ql_as (y := 0) ((show ff (nI i).toNatClampNeg = ff i from by rw [nI_clamp (by omega)]).trans (by rw [zO i (by omega), ind, if_neg hij])) ?_
                refine lv_lstore (lv' := [(6, .long 0), (0, .ref ch), (1, .ref sc), (2, .ref fa), (3, .int (nI w)), (4, .ref ta), (5, .int (nI i))]) hx hb dX0_spread_36 hl (by decide) rfl (fun ls hl => ?_)
                refine lv_lload hx hb dX0_spread_38 (lv_at hl 0 rfl) ?_
                refine lv_lconst (v := 0) hx hb dX0_spread_40 (by decide) ?_
                refine W.lcmp hx hb dX0_spread_41 ?_
                refine qi_as (y := 0) (by decide) ?_
                refine lv_if_ne (tgt := 48) hx hb dX0_spread_42 (by decide) (fun c_16 => absurd c_16 (by decide)) (fun _ => ?_)
                refine lv_goto (tgt := 156) hx hb dX0_spread_45 (by decide) ?_
                refine lv_iinc (v := nI (i + 1)) (lv' := [(5, .int (nI (i + 1))), (6, .long 0), (0, .ref ch), (1, .ref sc), (2, .ref fa), (3, .int (nI w)), (4, .ref ta)]) hx hb dX0_spread_156 hl (k := 6) rfl (nI_add i 1) (by decide) rfl (fun ls hl => ?_)
                refine lv_goto (tgt := 25) hx hb dX0_spread_159 (by decide) ?_
                exact ih25 _ _ (by omega) (by omega) (go_skip hij ht) _ _ (hK.sub [0, 1, 2] rfl) (hP.sub [0, 1, 2, 3, 4] rfl) (hD.sub [0, 1, 2, 3, 4] (by decide) rfl) hS ls (lv_sub hl [2, 3, 4, 5, 6, 0] rfl)
        exact L25 _ (0) _ (Nat.lt_succ_self _) (by omega) (fun x hx => by rw [if_neg (Nat.not_lt_zero j)]; exact ht x (by omega)) _ _ (hK.sub [0, 1, 2] rfl) (hP.sub [0, 1, 2, 3, 4] rfl) (hD.sub [0, 1, 2, 3, 4] (by decide) rfl) hS ls (lv_sub hl [1, 2, 3, 4, 5, 0] rfl)
      · skip
        have c_1 : ¬ 36 ≤ i := fun q => c_1 ((nI_leI (a := 36) (b := i) (by omega) (by omega)).mpr q)
        refine lv_aload hx hb dX0_spread_10 (lv_at hl 4 rfl) ?_
        refine lv_iload hx hb dX0_spread_12 (lv_at hl 5 rfl) ?_
        refine lv_lconst (v := 0) hx hb dX0_spread_14 (by decide) ?_
        refine va_last hx hb hK hP hD hS 4 2 rfl rfl (vp_in_nI (n := i) (N := 36) (by omega) (by omega)) dX0_spread_15 (fun H locs hP hD hS => ?_)
        rw [nI_clamp (n := i) (by omega)] at hP hD
        have hP : va_P (dC, dI) vwCl [(ch, .inr (2, [.long ft, .int fr, .ref dr, .ref tO, .ref hO])), (sc, .inr (10, [.ref aTp, .int 0, .ref aHl, .int 0, .long 0, .int 0, .int 0, .ref aHs, .int 0, .ref aWk, .int 0, .ref aBk, .int 0, .ref aFc])), (dr, .inl (cD, 36, .inl fD)), (fa, .inl (cA1, 36, .inr (.inl ff))), (ta, .inl (cA2, 36, .inr (.inl (vp_updL t i 0))))] H := hP
        have hD : va_D A [(ch, .inr (2, [.long ft, .int fr, .ref dr, .ref tO, .ref hO])), (sc, .inr (10, [.ref aTp, .int 0, .ref aHl, .int 0, .long 0, .int 0, .int 0, .ref aHs, .int 0, .ref aWk, .int 0, .ref aBk, .int 0, .ref aFc])), (dr, .inl (cD, 36, .inl fD)), (fa, .inl (cA1, 36, .inr (.inl ff))), (ta, .inl (cA2, 36, .inr (.inl (vp_updL t i 0))))] := hD
        refine lv_iinc (v := nI (i + 1)) (lv' := [(5, .int (nI (i + 1))), (0, .ref ch), (1, .ref sc), (2, .ref fa), (3, .int (nI w)), (4, .ref ta)]) hx hb dX0_spread_16 hl (k := 5) rfl (nI_add i 1) (by decide) rfl (fun ls hl => ?_)
        refine lv_goto (tgt := 3) hx hb dX0_spread_19 (by decide) ?_
        exact ih3 _ _ (by omega) (by omega) (updL_fill (v := fun _ => 0) ht rfl) _ _ (hK.sub [0, 1, 2] rfl) (hP.sub [0, 1, 2, 3, 4] rfl) (hD.sub [0, 1, 2, 3, 4] (by decide) rfl) hS ls (lv_sub hl [1, 2, 3, 4, 5, 0] rfl)
  exact L3 _ (0) _ (Nat.lt_succ_self _) (by omega) (fun x h => absurd h (Nat.not_lt_zero x)) _ _ (hK.sub [0, 1, 2] rfl) (hP.sub [0, 1, 2, 3, 4] rfl) (hD.sub [0, 1, 2, 3, 4] (by decide) rfl) hS ls (lv_sub hl [1, 2, 3, 4, 5, 0] rfl)
