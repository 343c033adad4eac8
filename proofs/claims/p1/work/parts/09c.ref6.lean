theorem dX12_wayOf_0 : decode cX12_wayOf 0 = .ok (.iload_n 1, 1) := by decide +kernel
theorem dX12_wayOf_1 : decode cX12_wayOf 1 = .ok (.iconst 1, 1) := by decide +kernel
theorem dX12_wayOf_2 : decode cX12_wayOf 2 = .ok (.isub, 1) := by decide +kernel
theorem dX12_wayOf_3 : decode cX12_wayOf 3 = .ok (.iload_n 2, 1) := by decide +kernel
theorem dX12_wayOf_4 : decode cX12_wayOf 4 = .ok (.isub, 1) := by decide +kernel
theorem dX12_wayOf_5 : decode cX12_wayOf 5 = .ok (.istore_n 3, 1) := by decide +kernel
theorem dX12_wayOf_6 : decode cX12_wayOf 6 = .ok (.iload_n 3, 1) := by decide +kernel
theorem dX12_wayOf_7 : decode cX12_wayOf 7 = .ok (.iconst 2, 1) := by decide +kernel
theorem dX12_wayOf_8 : decode cX12_wayOf 8 = .ok (.if_icmp .ne 10, 3) := by decide +kernel
theorem dX12_wayOf_18 : decode cX12_wayOf 18 = .ok (.iload_n 3, 1) := by decide +kernel
theorem dX12_wayOf_19 : decode cX12_wayOf 19 = .ok (.iconst 1, 1) := by decide +kernel
theorem dX12_wayOf_20 : decode cX12_wayOf 20 = .ok (.if_icmp .ne 13, 3) := by decide +kernel
theorem dX12_wayOf_33 : decode cX12_wayOf 33 = .ok (.iload_n 0, 1) := by decide +kernel
theorem dX12_wayOf_34 : decode cX12_wayOf 34 = .ok (.bipush 8, 2) := by decide +kernel
theorem dX12_wayOf_36 : decode cX12_wayOf 36 = .ok (.irem, 1) := by decide +kernel
theorem dX12_wayOf_37 : decode cX12_wayOf 37 = .ok (.ireturn, 1) := by decide +kernel
theorem dX12_wayOf_23 : decode cX12_wayOf 23 = .ok (.iload_n 0, 1) := by decide +kernel
theorem dX12_wayOf_24 : decode cX12_wayOf 24 = .ok (.bipush 8, 2) := by decide +kernel
theorem dX12_wayOf_26 : decode cX12_wayOf 26 = .ok (.idiv, 1) := by decide +kernel
theorem dX12_wayOf_27 : decode cX12_wayOf 27 = .ok (.bipush 8, 2) := by decide +kernel
theorem dX12_wayOf_29 : decode cX12_wayOf 29 = .ok (.irem, 1) := by decide +kernel
theorem dX12_wayOf_30 : decode cX12_wayOf 30 = .ok (.goto 7, 3) := by decide +kernel
theorem dX12_wayOf_11 : decode cX12_wayOf 11 = .ok (.iload_n 0, 1) := by decide +kernel
theorem dX12_wayOf_12 : decode cX12_wayOf 12 = .ok (.bipush 64, 2) := by decide +kernel
theorem dX12_wayOf_14 : decode cX12_wayOf 14 = .ok (.idiv, 1) := by decide +kernel
theorem dX12_wayOf_15 : decode cX12_wayOf 15 = .ok (.goto 22, 3) := by decide +kernel
theorem dX12_best_0 : decode cX12_best 0 = .ok (.iload_n 1, 1) := by decide +kernel
set_option maxRecDepth 20000 in
theorem ggX12_best_X12_isCell : GoodIn wsX12_best wsX12_isCell := goodIn_r _ [4, 5, 6, 3, 7] (by decide +kernel) (by decide +kernel)
set_option maxRecDepth 20000 in
theorem gX12_best_X12_isCell : GoodIn wsX12_best (va_wsS RX12 149 yX12_isCell wsX12_isCell) := goodIn_app (goodIn_of _ (by decide +kernel)) ggX12_best_X12_isCell
theorem dX12_best_1 : decode cX12_best 1 = .ok (.invokestatic 149, 3) := by decide +kernel
theorem dX12_best_4 : decode cX12_best 4 = .ok (.ifCond .eq 20, 3) := by decide +kernel
theorem dX12_best_7 : decode cX12_best 7 = .ok (.iload_n 2, 1) := by decide +kernel
theorem dX12_best_8 : decode cX12_best 8 = .ok (.invokestatic 149, 3) := by decide +kernel
theorem dX12_best_11 : decode cX12_best 11 = .ok (.ifCond .eq 13, 3) := by decide +kernel
theorem dX12_best_14 : decode cX12_best 14 = .ok (.iload 4, 2) := by decide +kernel
theorem dX12_best_16 : decode cX12_best 16 = .ok (.iconst 0, 1) := by decide +kernel
theorem dX12_best_17 : decode cX12_best 17 = .ok (.iconst 2, 1) := by decide +kernel
set_option maxRecDepth 20000 in
theorem ggX12_best_X12_in : GoodIn wsX12_best wsX12_in := goodIn_r _ [7] (by decide +kernel) (by decide +kernel)
set_option maxRecDepth 20000 in
theorem gX12_best_X12_in : GoodIn wsX12_best (va_wsS RX12 45 yX12_in wsX12_in) := goodIn_app (goodIn_of _ (by decide +kernel)) ggX12_best_X12_in
theorem dX12_best_18 : decode cX12_best 18 = .ok (.invokestatic 45, 3) := by decide +kernel
theorem dX12_best_21 : decode cX12_best 21 = .ok (.ifCond .ne 5, 3) := by decide +kernel
theorem dX12_best_26 : decode cX12_best 26 = .ok (.iload_n 3, 1) := by decide +kernel
theorem dX12_best_27 : decode cX12_best 27 = .ok (.iconst 1, 1) := by decide +kernel
theorem dX12_best_28 : decode cX12_best 28 = .ok (.iconst 3, 1) := by decide +kernel
theorem dX12_best_29 : decode cX12_best 29 = .ok (.invokestatic 45, 3) := by decide +kernel
theorem dX12_best_32 : decode cX12_best 32 = .ok (.ifCond .ne 6, 3) := by decide +kernel
theorem dX12_best_38 : decode cX12_best 38 = .ok (.iload 4, 2) := by decide +kernel
theorem dX12_best_40 : decode cX12_best 40 = .ok (.iload_n 3, 1) := by decide +kernel
theorem dX12_best_41 : decode cX12_best 41 = .ok (.if_icmp .lt 7, 3) := by decide +kernel
theorem dX12_best_48 : decode cX12_best 48 = .ok (.aload_n 0, 1) := by decide +kernel
theorem dX12_best_49 : decode cX12_best 49 = .ok (.iload_n 1, 1) := by decide +kernel
theorem dX12_best_50 : decode cX12_best 50 = .ok (.iload_n 2, 1) := by decide +kernel
theorem dX12_best_51 : decode cX12_best 51 = .ok (.iload_n 3, 1) := by decide +kernel
set_option maxRecDepth 20000 in
theorem ggX12_best_X12_bestRow : GoodIn wsX12_best wsX12_bestRow := goodIn_r _ [11, 12, 13, 14, 15, 16, 3, 17, 18, 19, 20, 21, 22, 23, 24, 25, 26, 27, 28, 29, 30, 31, 32, 33, 34, 35, 36, 37, 38, 39, 40, 41, 42, 43, 44, 45, 46, 47, 48, 49, 50, 51, 52, 53, 54, 5, 6, 7, 55, 56, 57, 58, 62, 63, 64, 65, 66, 67, 68, 69, 70, 71, 72, 73, 74, 75, 76, 77, 78, 79, 80, 81, 82, 83, 84] (by decide +kernel) (by decide +kernel)
set_option maxRecDepth 20000 in
theorem gX12_best_X12_bestRow : GoodIn wsX12_best (wsV RX12 240 RX12 yX12_bestRow wsX12_bestRow) := goodIn_app (goodIn_of _ (by decide +kernel)) ggX12_best_X12_bestRow
theorem dX12_best_52 : decode cX12_best 52 = .ok (.invokevirtual 240, 3) := by decide +kernel
theorem dX12_best_55 : decode cX12_best 55 = .ok (.iload_n 3, 1) := by decide +kernel
theorem dX12_best_56 : decode cX12_best 56 = .ok (.iload 4, 2) := by decide +kernel
set_option maxRecDepth 20000 in
theorem ggX12_best_X12_wayOf : GoodIn wsX12_best wsX12_wayOf := goodIn_r _ [61] (by decide +kernel) (by decide +kernel)
set_option maxRecDepth 20000 in
theorem gX12_best_X12_wayOf : GoodIn wsX12_best (va_wsS RX12 243 yX12_wayOf wsX12_wayOf) := goodIn_app (goodIn_of _ (by decide +kernel)) ggX12_best_X12_wayOf
theorem dX12_best_58 : decode cX12_best 58 = .ok (.invokestatic 243, 3) := by decide +kernel
theorem dX12_best_61 : decode cX12_best 61 = .ok (.ireturn, 1) := by decide +kernel
theorem dX12_best_44 : decode cX12_best 44 = .ok (.iconst (-1), 1) := by decide +kernel
theorem dX12_best_45 : decode cX12_best 45 = .ok (.goto 16, 3) := by decide +kernel
theorem dX12_best_35 : decode cX12_best 35 = .ok (.bipush (-2), 2) := by decide +kernel
theorem dX12_best_37 : decode cX12_best 37 = .ok (.ireturn, 1) := by decide +kernel
theorem dX12_best_24 : decode cX12_best 24 = .ok (.iconst (-1), 1) := by decide +kernel
theorem dX12_best_25 : decode cX12_best 25 = .ok (.ireturn, 1) := by decide +kernel
theorem dX12_safe_0 : decode cX12_safe 0 = .ok (.iload_n 1, 1) := by decide +kernel
set_option maxRecDepth 20000 in
theorem ggX12_safe_X12_isCell : GoodIn wsX12_safe wsX12_isCell := goodIn_r _ [4, 5, 6, 3, 7] (by decide +kernel) (by decide +kernel)
set_option maxRecDepth 20000 in
theorem gX12_safe_X12_isCell : GoodIn wsX12_safe (va_wsS RX12 149 yX12_isCell wsX12_isCell) := goodIn_app (goodIn_of _ (by decide +kernel)) ggX12_safe_X12_isCell
theorem dX12_safe_1 : decode cX12_safe 1 = .ok (.invokestatic 149, 3) := by decide +kernel
theorem dX12_safe_4 : decode cX12_safe 4 = .ok (.ifCond .eq 12, 3) := by decide +kernel
theorem dX12_safe_7 : decode cX12_safe 7 = .ok (.iload_n 3, 1) := by decide +kernel
theorem dX12_safe_8 : decode cX12_safe 8 = .ok (.iconst 0, 1) := by decide +kernel
theorem dX12_safe_9 : decode cX12_safe 9 = .ok (.iconst 2, 1) := by decide +kernel
set_option maxRecDepth 20000 in
theorem ggX12_safe_X12_in : GoodIn wsX12_safe wsX12_in := goodIn_r _ [7] (by decide +kernel) (by decide +kernel)
set_option maxRecDepth 20000 in
theorem gX12_safe_X12_in : GoodIn wsX12_safe (va_wsS RX12 45 yX12_in wsX12_in) := goodIn_app (goodIn_of _ (by decide +kernel)) ggX12_safe_X12_in
theorem dX12_safe_10 : decode cX12_safe 10 = .ok (.invokestatic 45, 3) := by decide +kernel
theorem dX12_safe_13 : decode cX12_safe 13 = .ok (.ifCond .ne 5, 3) := by decide +kernel
theorem dX12_safe_18 : decode cX12_safe 18 = .ok (.iload_n 2, 1) := by decide +kernel
theorem dX12_safe_19 : decode cX12_safe 19 = .ok (.iconst 1, 1) := by decide +kernel
theorem dX12_safe_20 : decode cX12_safe 20 = .ok (.iconst 3, 1) := by decide +kernel
theorem dX12_safe_21 : decode cX12_safe 21 = .ok (.invokestatic 45, 3) := by decide +kernel
theorem dX12_safe_24 : decode cX12_safe 24 = .ok (.ifCond .ne 6, 3) := by decide +kernel
theorem dX12_safe_30 : decode cX12_safe 30 = .ok (.iload_n 3, 1) := by decide +kernel
theorem dX12_safe_31 : decode cX12_safe 31 = .ok (.iload_n 2, 1) := by decide +kernel
theorem dX12_safe_32 : decode cX12_safe 32 = .ok (.if_icmp .lt 7, 3) := by decide +kernel
theorem dX12_safe_39 : decode cX12_safe 39 = .ok (.aload_n 0, 1) := by decide +kernel
theorem dX12_safe_40 : decode cX12_safe 40 = .ok (.iload_n 1, 1) := by decide +kernel
theorem dX12_safe_41 : decode cX12_safe 41 = .ok (.iconst (-1), 1) := by decide +kernel
theorem dX12_safe_42 : decode cX12_safe 42 = .ok (.iload_n 2, 1) := by decide +kernel
set_option maxRecDepth 20000 in
theorem ggX12_safe_X12_bestRow : GoodIn wsX12_safe wsX12_bestRow := goodIn_r _ [11, 12, 13, 14, 15, 16, 3, 17, 18, 19, 20, 21, 22, 23, 24, 25, 26, 27, 28, 29, 30, 31, 32, 33, 34, 35, 36, 37, 38, 39, 40, 41, 42, 43, 44, 45, 46, 47, 48, 49, 50, 51, 52, 53, 54, 5, 6, 7, 55, 56, 57, 58, 62, 63, 64, 65, 66, 67, 68, 69, 70, 71, 72, 73, 74, 75, 76, 77, 78, 79, 80, 81, 82, 83, 84] (by decide +kernel) (by decide +kernel)
set_option maxRecDepth 20000 in
theorem gX12_safe_X12_bestRow : GoodIn wsX12_safe (wsV RX12 240 RX12 yX12_bestRow wsX12_bestRow) := goodIn_app (goodIn_of _ (by decide +kernel)) ggX12_safe_X12_bestRow
theorem dX12_safe_43 : decode cX12_safe 43 = .ok (.invokevirtual 240, 3) := by decide +kernel
theorem dX12_safe_46 : decode cX12_safe 46 = .ok (.iload_n 2, 1) := by decide +kernel
theorem dX12_safe_47 : decode cX12_safe 47 = .ok (.iload_n 3, 1) := by decide +kernel
set_option maxRecDepth 20000 in
theorem ggX12_safe_X12_wayOf : GoodIn wsX12_safe wsX12_wayOf := goodIn_r _ [61] (by decide +kernel) (by decide +kernel)
set_option maxRecDepth 20000 in
theorem gX12_safe_X12_wayOf : GoodIn wsX12_safe (va_wsS RX12 243 yX12_wayOf wsX12_wayOf) := goodIn_app (goodIn_of _ (by decide +kernel)) ggX12_safe_X12_wayOf
theorem dX12_safe_48 : decode cX12_safe 48 = .ok (.invokestatic 243, 3) := by decide +kernel
theorem dX12_safe_51 : decode cX12_safe 51 = .ok (.ireturn, 1) := by decide +kernel
theorem dX12_safe_35 : decode cX12_safe 35 = .ok (.iconst (-1), 1) := by decide +kernel
theorem dX12_safe_36 : decode cX12_safe 36 = .ok (.goto 15, 3) := by decide +kernel
theorem dX12_safe_27 : decode cX12_safe 27 = .ok (.bipush (-2), 2) := by decide +kernel
theorem dX12_safe_29 : decode cX12_safe 29 = .ok (.ireturn, 1) := by decide +kernel
theorem dX12_safe_16 : decode cX12_safe 16 = .ok (.iconst (-1), 1) := by decide +kernel
theorem dX12_safe_17 : decode cX12_safe 17 = .ok (.ireturn, 1) := by decide +kernel
theorem dX12_bestOdds_0 : decode cX12_bestOdds 0 = .ok (.iload_n 1, 1) := by decide +kernel
set_option maxRecDepth 20000 in
theorem ggX12_bestOdds_X12_isCell : GoodIn wsX12_bestOdds wsX12_isCell := goodIn_r _ [6, 7, 8, 5, 9] (by decide +kernel) (by decide +kernel)
set_option maxRecDepth 20000 in
theorem gX12_bestOdds_X12_isCell : GoodIn wsX12_bestOdds (va_wsS RX12 149 yX12_isCell wsX12_isCell) := goodIn_app (goodIn_of _ (by decide +kernel)) ggX12_bestOdds_X12_isCell
theorem dX12_bestOdds_1 : decode cX12_bestOdds 1 = .ok (.invokestatic 149, 3) := by decide +kernel
theorem dX12_bestOdds_4 : decode cX12_bestOdds 4 = .ok (.ifCond .eq 29, 3) := by decide +kernel
theorem dX12_bestOdds_7 : decode cX12_bestOdds 7 = .ok (.iload_n 2, 1) := by decide +kernel
theorem dX12_bestOdds_8 : decode cX12_bestOdds 8 = .ok (.invokestatic 149, 3) := by decide +kernel
theorem dX12_bestOdds_11 : decode cX12_bestOdds 11 = .ok (.ifCond .eq 22, 3) := by decide +kernel
theorem dX12_bestOdds_14 : decode cX12_bestOdds 14 = .ok (.iload_n 3, 1) := by decide +kernel
theorem dX12_bestOdds_15 : decode cX12_bestOdds 15 = .ok (.iconst 1, 1) := by decide +kernel
theorem dX12_bestOdds_16 : decode cX12_bestOdds 16 = .ok (.iconst 3, 1) := by decide +kernel
set_option maxRecDepth 20000 in
theorem ggX12_bestOdds_X12_in : GoodIn wsX12_bestOdds wsX12_in := goodIn_r _ [9] (by decide +kernel) (by decide +kernel)
set_option maxRecDepth 20000 in
theorem gX12_bestOdds_X12_in : GoodIn wsX12_bestOdds (va_wsS RX12 45 yX12_in wsX12_in) := goodIn_app (goodIn_of _ (by decide +kernel)) ggX12_bestOdds_X12_in
theorem dX12_bestOdds_17 : decode cX12_bestOdds 17 = .ok (.invokestatic 45, 3) := by decide +kernel
theorem dX12_bestOdds_20 : decode cX12_bestOdds 20 = .ok (.ifCond .eq 13, 3) := by decide +kernel
theorem dX12_bestOdds_23 : decode cX12_bestOdds 23 = .ok (.iload 4, 2) := by decide +kernel
theorem dX12_bestOdds_25 : decode cX12_bestOdds 25 = .ok (.iconst 0, 1) := by decide +kernel
theorem dX12_bestOdds_26 : decode cX12_bestOdds 26 = .ok (.iconst 1, 1) := by decide +kernel
theorem dX12_bestOdds_27 : decode cX12_bestOdds 27 = .ok (.invokestatic 45, 3) := by decide +kernel
theorem dX12_bestOdds_30 : decode cX12_bestOdds 30 = .ok (.ifCond .ne 7, 3) := by decide +kernel
theorem dX12_bestOdds_37 : decode cX12_bestOdds 37 = .ok (.aload_n 0, 1) := by decide +kernel
theorem dX12_bestOdds_38 : decode cX12_bestOdds 38 = .ok (.iload_n 1, 1) := by decide +kernel
theorem dX12_bestOdds_39 : decode cX12_bestOdds 39 = .ok (.iload_n 2, 1) := by decide +kernel
theorem dX12_bestOdds_40 : decode cX12_bestOdds 40 = .ok (.iload_n 3, 1) := by decide +kernel
set_option maxRecDepth 20000 in
theorem ggX12_bestOdds_X12_bestRow : GoodIn wsX12_bestOdds wsX12_bestRow := goodIn_r _ [13, 14, 2, 15, 16, 17, 5, 18, 19, 20, 21, 22, 23, 24, 25, 26, 27, 28, 29, 30, 31, 32, 33, 34, 35, 36, 37, 38, 39, 40, 41, 42, 43, 44, 45, 46, 47, 48, 49, 50, 51, 52, 53, 54, 55, 7, 8, 9, 56, 57, 58, 59, 66, 67, 68, 69, 70, 71, 72, 73, 74, 75, 76, 77, 78, 79, 80, 81, 82, 83, 84, 85, 86, 87, 88] (by decide +kernel) (by decide +kernel)
set_option maxRecDepth 20000 in
theorem gX12_bestOdds_X12_bestRow : GoodIn wsX12_bestOdds (wsV RX12 240 RX12 yX12_bestRow wsX12_bestRow) := goodIn_app (goodIn_of _ (by decide +kernel)) ggX12_bestOdds_X12_bestRow
theorem dX12_bestOdds_41 : decode cX12_bestOdds 41 = .ok (.invokevirtual 240, 3) := by decide +kernel
theorem dX12_bestOdds_44 : decode cX12_bestOdds 44 = .ok (.istore 5, 2) := by decide +kernel
theorem dX12_bestOdds_46 : decode cX12_bestOdds 46 = .ok (.iload 5, 2) := by decide +kernel
theorem dX12_bestOdds_48 : decode cX12_bestOdds 48 = .ok (.iconst (-1), 1) := by decide +kernel
theorem dX12_bestOdds_49 : decode cX12_bestOdds 49 = .ok (.if_icmp .ne 9, 3) := by decide +kernel
theorem dX12_bestOdds_58 : decode cX12_bestOdds 58 = .ok (.aload_n 0, 1) := by decide +kernel
theorem dX12_bestOdds_59 : decode cX12_bestOdds 59 = .ok (.getfield 236, 3) := by decide +kernel
theorem dX12_bestOdds_62 : decode cX12_bestOdds 62 = .ok (.iload_n 3, 1) := by decide +kernel
set_option maxRecDepth 20000 in
theorem ggX12_bestOdds_X12_twenties : GoodIn wsX12_bestOdds wsX12_twenties := goodIn_r _ [62, 46] (by decide +kernel) (by decide +kernel)
set_option maxRecDepth 20000 in
theorem gX12_bestOdds_X12_twenties : GoodIn wsX12_bestOdds (va_wsS RX12 226 yX12_twenties wsX12_twenties) := goodIn_app (goodIn_of _ (by decide +kernel)) ggX12_bestOdds_X12_twenties
theorem dX12_bestOdds_63 : decode cX12_bestOdds 63 = .ok (.invokestatic 226, 3) := by decide +kernel
theorem dX12_bestOdds_66 : decode cX12_bestOdds 66 = .ok (.iload 4, 2) := by decide +kernel
set_option maxRecDepth 20000 in
theorem ggX12_bestOdds_X12_lowest : GoodIn wsX12_bestOdds wsX12_lowest := goodIn_r _ [65] (by decide +kernel) (by decide +kernel)
set_option maxRecDepth 20000 in
theorem gX12_bestOdds_X12_lowest : GoodIn wsX12_bestOdds (va_wsS RX12 229 yX12_lowest wsX12_lowest) := goodIn_app (goodIn_of _ (by decide +kernel)) ggX12_bestOdds_X12_lowest
theorem dX12_bestOdds_68 : decode cX12_bestOdds 68 = .ok (.invokestatic 229, 3) := by decide +kernel
theorem dX12_bestOdds_71 : decode cX12_bestOdds 71 = .ok (.lreturn, 1) := by decide +kernel
theorem dX12_bestOdds_33 : decode cX12_bestOdds 33 = .ok (.ldc2_w 181, 3) := by decide +kernel
theorem dX12_bestOdds_36 : decode cX12_bestOdds 36 = .ok (.lreturn, 1) := by decide +kernel
theorem dX12_clauseHere_0 : decode cX12_clauseHere 0 = .ok (.aload_n 0, 1) := by decide +kernel
set_option maxRecDepth 20000 in
theorem ggX12_clauseHere_X12_here : GoodIn wsX12_clauseHere wsX12_here := goodIn_r _ [6, 7, 8, 9, 104, 105, 106, 107, 108, 109, 110, 111, 112, 113, 114, 115, 116, 117, 118, 119, 120, 121, 122, 123, 124, 125, 126] (by decide +kernel) (by decide +kernel)
set_option maxRecDepth 20000 in
theorem gX12_clauseHere_X12_here : GoodIn wsX12_clauseHere (wsV RX12 69 RX12 yX12_here wsX12_here) := goodIn_app (goodIn_of _ (by decide +kernel)) ggX12_clauseHere_X12_here
theorem dX12_clauseHere_1 : decode cX12_clauseHere 1 = .ok (.invokevirtual 69, 3) := by decide +kernel
theorem dX12_clauseHere_4 : decode cX12_clauseHere 4 = .ok (.lookupswitch 67 #[(100, 55), (104, 43), (115, 36)], 36) := by decide +kernel
theorem dX12_clauseHere_71 : decode cX12_clauseHere 71 = .ok (.aload_n 0, 1) := by decide +kernel
theorem dX12_clauseHere_72 : decode cX12_clauseHere 72 = .ok (.iconst 1, 1) := by decide +kernel
theorem dX12_clauseHere_73 : decode cX12_clauseHere 73 = .ok (.putfield 65, 3) := by decide +kernel
theorem dX12_clauseHere_76 : decode cX12_clauseHere 76 = .ok (.return_, 1) := by decide +kernel
theorem dX12_hill_0 : decode cX12_hill 0 = .ok (.aload_n 0, 1) := by decide +kernel
theorem dX12_hill_1 : decode cX12_hill 1 = .ok (.getfield 9, 3) := by decide +kernel
theorem dX12_hill_4 : decode cX12_hill 4 = .ok (.iconst 1, 1) := by decide +kernel
theorem dX12_hill_5 : decode cX12_hill 5 = .ok (.iaload, 1) := by decide +kernel
theorem dX12_hill_6 : decode cX12_hill 6 = .ok (.iconst 5, 1) := by decide +kernel
theorem dX12_hill_7 : decode cX12_hill 7 = .ok (.if_icmp .ne 6, 3) := by decide +kernel
theorem dX12_hill_13 : decode cX12_hill 13 = .ok (.aload_n 0, 1) := by decide +kernel
theorem dX12_hill_14 : decode cX12_hill 14 = .ok (.aload_n 0, 1) := by decide +kernel
theorem dX12_hill_15 : decode cX12_hill 15 = .ok (.getfield 9, 3) := by decide +kernel
theorem dX12_hill_18 : decode cX12_hill 18 = .ok (.iconst 1, 1) := by decide +kernel
theorem dX12_hill_19 : decode cX12_hill 19 = .ok (.iaload, 1) := by decide +kernel
theorem dX12_hill_20 : decode cX12_hill 20 = .ok (.putfield 86, 3) := by decide +kernel
theorem dX12_hill_23 : decode cX12_hill 23 = .ok (.aload_n 0, 1) := by decide +kernel
theorem dX12_hill_24 : decode cX12_hill 24 = .ok (.aload_n 0, 1) := by decide +kernel
theorem dX12_hill_25 : decode cX12_hill 25 = .ok (.getfield 9, 3) := by decide +kernel
theorem dX12_hill_28 : decode cX12_hill 28 = .ok (.iconst 4, 1) := by decide +kernel
theorem dX12_hill_29 : decode cX12_hill 29 = .ok (.iaload, 1) := by decide +kernel
theorem dX12_hill_30 : decode cX12_hill 30 = .ok (.putfield 62, 3) := by decide +kernel
theorem dX12_hill_33 : decode cX12_hill 33 = .ok (.aload_n 0, 1) := by decide +kernel
theorem dX12_hill_34 : decode cX12_hill 34 = .ok (.getfield 9, 3) := by decide +kernel
theorem dX12_hill_37 : decode cX12_hill 37 = .ok (.iconst 4, 1) := by decide +kernel
theorem dX12_hill_38 : decode cX12_hill 38 = .ok (.iconst 0, 1) := by decide +kernel
theorem dX12_hill_39 : decode cX12_hill 39 = .ok (.iastore, 1) := by decide +kernel
theorem dX12_hill_40 : decode cX12_hill 40 = .ok (.aload_n 0, 1) := by decide +kernel
theorem dX12_hill_41 : decode cX12_hill 41 = .ok (.getfield 9, 3) := by decide +kernel
theorem dX12_hill_44 : decode cX12_hill 44 = .ok (.sipush 191, 3) := by decide +kernel
theorem dX12_hill_47 : decode cX12_hill 47 = .ok (.aload_n 0, 1) := by decide +kernel
theorem dX12_hill_48 : decode cX12_hill 48 = .ok (.getfield 86, 3) := by decide +kernel
theorem dX12_hill_51 : decode cX12_hill 51 = .ok (.iadd, 1) := by decide +kernel
theorem dX12_hill_52 : decode cX12_hill 52 = .ok (.iconst 3, 1) := by decide +kernel
theorem dX12_hill_53 : decode cX12_hill 53 = .ok (.iastore, 1) := by decide +kernel
theorem dX12_hill_54 : decode cX12_hill 54 = .ok (.aload_n 0, 1) := by decide +kernel
theorem dX12_hill_55 : decode cX12_hill 55 = .ok (.getfield 9, 3) := by decide +kernel
theorem dX12_hill_58 : decode cX12_hill 58 = .ok (.sipush 196, 3) := by decide +kernel
theorem dX12_hill_61 : decode cX12_hill 61 = .ok (.aload_n 0, 1) := by decide +kernel
theorem dX12_hill_62 : decode cX12_hill 62 = .ok (.getfield 86, 3) := by decide +kernel
theorem dX12_hill_65 : decode cX12_hill 65 = .ok (.iadd, 1) := by decide +kernel
theorem dX12_hill_66 : decode cX12_hill 66 = .ok (.iconst 0, 1) := by decide +kernel
theorem dX12_hill_67 : decode cX12_hill 67 = .ok (.iastore, 1) := by decide +kernel
theorem dX12_hill_68 : decode cX12_hill 68 = .ok (.aload_n 0, 1) := by decide +kernel
theorem dX12_hill_69 : decode cX12_hill 69 = .ok (.iconst 0, 1) := by decide +kernel
theorem dX12_hill_70 : decode cX12_hill 70 = .ok (.putfield 59, 3) := by decide +kernel
theorem dX12_hill_73 : decode cX12_hill 73 = .ok (.aload_n 0, 1) := by decide +kernel
theorem dX12_hill_74 : decode cX12_hill 74 = .ok (.iconst 0, 1) := by decide +kernel
theorem dX12_hill_75 : decode cX12_hill 75 = .ok (.putfield 65, 3) := by decide +kernel
theorem dX12_hill_78 : decode cX12_hill 78 = .ok (.aload_n 0, 1) := by decide +kernel
theorem dX12_hill_79 : decode cX12_hill 79 = .ok (.iconst 0, 1) := by decide +kernel
theorem dX12_hill_80 : decode cX12_hill 80 = .ok (.putfield 89, 3) := by decide +kernel
theorem dX12_hill_83 : decode cX12_hill 83 = .ok (.iconst 1, 1) := by decide +kernel
theorem dX12_hill_84 : decode cX12_hill 84 = .ok (.istore_n 1, 1) := by decide +kernel
theorem dX12_hill_85 : decode cX12_hill 85 = .ok (.aload_n 0, 1) := by decide +kernel
set_option maxRecDepth 20000 in
theorem ggX12_hill_X12_clauseHere : GoodIn wsX12_hill wsX12_clauseHere := goodIn_r _ [11, 5, 12, 13, 14, 10, 15, 4, 3, 1, 16, 17, 18, 19, 2, 20, 21, 22, 23, 24, 25, 26, 27, 28, 29, 30, 31, 32, 33, 34, 35, 36, 37, 38, 39, 40, 41, 42, 43, 44, 45, 46, 47, 48, 49, 50, 51, 52, 53, 54, 55, 56, 57, 58, 59, 60, 61, 62, 63, 64, 65, 66, 67, 68, 69, 70, 71, 72, 73, 74, 75, 76, 77, 78, 79, 80, 81, 82, 83, 84, 85, 86, 87, 88, 89, 90, 91, 92, 93, 94, 95, 96, 97, 98, 99, 100, 101, 102, 103, 6, 104, 105, 106, 107, 108, 109, 110, 111, 112, 113, 114, 115, 116, 117, 118, 119, 120, 121, 122, 123, 124, 125, 126, 127, 128, 129, 130] (by decide +kernel) (by decide +kernel)
set_option maxRecDepth 20000 in
theorem gX12_hill_X12_clauseHere : GoodIn wsX12_hill (wsV RX12 134 RX12 yX12_clauseHere wsX12_clauseHere) := goodIn_app (goodIn_of _ (by decide +kernel)) ggX12_hill_X12_clauseHere
theorem dX12_hill_86 : decode cX12_hill 86 = .ok (.invokevirtual 134, 3) := by decide +kernel
theorem dX12_hill_89 : decode cX12_hill 89 = .ok (.aload_n 0, 1) := by decide +kernel
theorem dX12_hill_90 : decode cX12_hill 90 = .ok (.getfield 65, 3) := by decide +kernel
theorem dX12_hill_93 : decode cX12_hill 93 = .ok (.ifCond .ne 38, 3) := by decide +kernel
theorem dX12_hill_131 : decode cX12_hill 131 = .ok (.aload_n 0, 1) := by decide +kernel
theorem dX12_hill_132 : decode cX12_hill 132 = .ok (.getfield 65, 3) := by decide +kernel
theorem dX12_hill_135 : decode cX12_hill 135 = .ok (.ifCond .ne 14, 3) := by decide +kernel
theorem dX12_hill_149 : decode cX12_hill 149 = .ok (.bipush (-10), 2) := by decide +kernel
theorem dX12_hill_151 : decode cX12_hill 151 = .ok (.aload_n 0, 1) := by decide +kernel
theorem dX12_hill_152 : decode cX12_hill 152 = .ok (.getfield 59, 3) := by decide +kernel
theorem dX12_hill_155 : decode cX12_hill 155 = .ok (.isub, 1) := by decide +kernel
theorem dX12_hill_156 : decode cX12_hill 156 = .ok (.ireturn, 1) := by decide +kernel
set_option maxHeartbeats 4000000 in
set_option maxRecDepth 100000 in
theorem c_wayOf (l : Launch) (dC : Nat → ClassId) (dI : Nat → Nat → Nat) (b n k : Nat) (zb : b < 512) (zk : k < n) (zn : n ≤ 3) : Met l yX12_wayOf wsX12_wayOf ({ frames := 0, cells := 0, slots := 0, locals := 0 } : Room) (va_Pc [.int (nI b), .int (nI n), .int (nI k)] (fun U => True)) (vp_Si (fun r => r = nI (wy b n k))) 0 0 (fun _ => False) := by
  refine met_ofQ (cc := cX12_wayOf) (maxL := 4) (ret := (some .int)) (by decide) rfl ?_
  intro p e s m args below meth c s₁ Q B hml hv hQ
  obtain ⟨rfl, -⟩ := hv
  have hx := B.exec
  have hb := B.bytes
  have hr := B.returns
  have hts := atoms_spec (ws := wsX12_wayOf) B.pre
  have hown : s.vm.findClass RX12 = some m.cls := findClass_of_methodNamed B.named
  have hlocks := B.notSynchronized
  obtain ⟨A, hAe⟩ : ∃ A : Nat → Prop, A = fun _ => False := ⟨_, rfl⟩
  rw [← hAe] at hQ
  have hS : va_S A s.heap s.heap [] := va_S.rf
  have hl := lv_entry [.int (nI b), .int (nI n), .int (nI k)] (n := 4) (Nat.le_of_ble_eq_true rfl)
  rw [lg_entry_eq]
  generalize (lg_sl [.int (nI b), .int (nI n), .int (nI k)] ++ List.replicate (4 - (lg_sl [.int (nI b), .int (nI n), .int (nI k)]).length) Slot.unset).toArray = ls at hl ⊢
  generalize hag : ([.int (nI b), .int (nI n), .int (nI k)] : List Value).toArray = args at hts hQ ⊢
  have hl : lv_has ls 4 [(0, .int (nI b)), (1, .int (nI n)), (2, .int (nI k))] := hl
  refine lv_iload_n hx hb dX12_wayOf_0 rfl (lv_at hl 1 rfl) ?_
  refine lv_iconst (v := 1) hx hb dX12_wayOf_1 (by decide) ?_
  refine lv_isub hx hb dX12_wayOf_2 ?_
  refine qi_as (y := nI (n - 1)) (pk_sub (a := n) (b := 1) (by omega)) ?_
  refine lv_iload_n hx hb dX12_wayOf_3 rfl (lv_at hl 2 rfl) ?_
  refine lv_isub hx hb dX12_wayOf_4 ?_
  refine qi_as (y := nI ((n - 1) - k)) (pk_sub (a := n - 1) (b := k) (by omega)) ?_
  refine lv_istore_n (lv' := [(3, .int (nI ((n - 1) - k))), (0, .int (nI b)), (1, .int (nI n)), (2, .int (nI k))]) hx hb dX12_wayOf_5 rfl hl (by decide) rfl (fun ls hl => ?_)
  refine lv_iload_n hx hb dX12_wayOf_6 rfl (lv_at hl 0 rfl) ?_
  refine lv_iconst (v := 2) hx hb dX12_wayOf_7 (by decide) ?_
  refine lv_icmp_ne (tgt := 18) hx hb dX12_wayOf_8 (by decide) (fun c_1 => ?_) (fun c_1 => ?_)
  · skip
    have c_1 : ¬ ((n - 1) - k) = 2 := fun q => c_1 ((nI_eq (a := ((n - 1) - k)) (b := 2) (by omega) (by omega)).mpr q)
    refine lv_iload_n hx hb dX12_wayOf_18 rfl (lv_at hl 0 rfl) ?_
    refine lv_iconst (v := 1) hx hb dX12_wayOf_19 (by decide) ?_
    refine lv_icmp_ne (tgt := 33) hx hb dX12_wayOf_20 (by decide) (fun c_2 => ?_) (fun c_2 => ?_)
    · skip
      have c_2 : ¬ ((n - 1) - k) = 1 := fun q => c_2 ((nI_eq (a := ((n - 1) - k)) (b := 1) (by omega) (by omega)).mpr q)
      refine lv_iload_n hx hb dX12_wayOf_33 rfl (lv_at hl 1 rfl) ?_
      refine lv_bipush (v := 8) hx hb dX12_wayOf_34 (by decide) ?_
      refine lv_irem hx hb dX12_wayOf_36 (by decide) ?_
      refine qi_as (y := nI (b % 8)) (pk_rem (a := b) (d := 8) (by omega) (by omega) (by omega)) ?_
      rw [hQ]
      exact W.iret (v := nI (b % 8)) hx hb hr (fun tQ htQ hWQ => ⟨nI (b % 8), rfl, by simp only [wy]; simp_all, by rw [htQ]⟩) (fun q hq => absurd hq List.not_mem_nil) dX12_wayOf_37
    · skip
      have c_2 : ((n - 1) - k) = 1 := (nI_eq (a := ((n - 1) - k)) (b := 1) (by omega) (by omega)).mp c_2
      refine lv_iload_n hx hb dX12_wayOf_23 rfl (lv_at hl 1 rfl) ?_
      refine lv_bipush (v := 8) hx hb dX12_wayOf_24 (by decide) ?_
      refine lv_idiv hx hb dX12_wayOf_26 (by decide) ?_
      refine qi_as (y := nI (b / 8)) (pk_div (a := b) (d := 8) (by omega) (by omega) (by omega)) ?_
      refine lv_bipush (v := 8) hx hb dX12_wayOf_27 (by decide) ?_
      refine lv_irem hx hb dX12_wayOf_29 (by decide) ?_
      refine qi_as (y := nI ((b / 8) % 8)) (pk_rem (a := b / 8) (d := 8) (by omega) (by omega) (by omega)) ?_
      refine lv_goto (tgt := 37) hx hb dX12_wayOf_30 (by decide) ?_
      rw [hQ]
      exact W.iret (v := nI ((b / 8) % 8)) hx hb hr (fun tQ htQ hWQ => ⟨nI ((b / 8) % 8), rfl, by simp only [wy]; simp_all, by rw [htQ]⟩) (fun q hq => absurd hq List.not_mem_nil) dX12_wayOf_37
  · skip
    have c_1 : ((n - 1) - k) = 2 := (nI_eq (a := ((n - 1) - k)) (b := 2) (by omega) (by omega)).mp c_1
    refine lv_iload_n hx hb dX12_wayOf_11 rfl (lv_at hl 1 rfl) ?_
    refine lv_bipush (v := 64) hx hb dX12_wayOf_12 (by decide) ?_
    refine lv_idiv hx hb dX12_wayOf_14 (by decide) ?_
    refine qi_as (y := nI (b / 64)) (pk_div (a := b) (d := 64) (by omega) (by omega) (by omega)) ?_
    refine lv_goto (tgt := 37) hx hb dX12_wayOf_15 (by decide) ?_
    rw [hQ]
    exact W.iret (v := nI (b / 64)) hx hb hr (fun tQ htQ hWQ => ⟨nI (b / 64), rfl, by simp only [wy]; simp_all, by rw [htQ]⟩) (fun q hq => absurd hq List.not_mem_nil) dX12_wayOf_37

set_option maxHeartbeats 4000000 in
set_option maxRecDepth 100000 in
theorem c_mBest (l : Launch) (dC : Nat → ClassId) (dI : Nat → Nat → Nat) (m0 aS aI aB aT aG aO aN aD aY : Nat) (bv : Int64) (cS cB cO cN cD : ClassId) (fB fD : Nat → Int32) (fO fN : Nat → Int64) (x y n k : Int32) (sz : Nat) : Met l yX12_best wsX12_best ({ frames := 6, cells := 0, slots := 0, locals := 142 } : Room) (va_Pc [.ref m0, .int x, .int y, .int n, .int k] (fun U => U.heap.size = sz ∧ va_P (dC, dI) vwCl [(m0, .inr (14, [.int 0, .ref aS, .ref aI, .int 0, .int 0, .int 0, .int 0, .int 0, .int 0, .ref aB, .ref aT, .int 0, .int 0, .ref aG, .ref aO, .ref aN, .ref aD, .long bv, .ref aY, .int 0, .int 0, .int 0, .int 0])), (aS, .inl (cS, 901, .inl s0)), (aB, .inl (cB, 6, .inl fB)), (aO, .inl (cO, 36, .inr (.inl fO))), (aN, .inl (cN, 36, .inr (.inl fN))), (aD, .inl (cD, 36, .inl fD))] U.heap ∧ va_K (dC, dI) vwCl [(cS, .int), (cB, .int), (cO, .long), (cN, .long), (cD, .int)] U ∧ va_D (fun _ => True) [(m0, .inr (14, [.int 0, .ref aS, .ref aI, .int 0, .int 0, .int 0, .int 0, .int 0, .int 0, .ref aB, .ref aT, .int 0, .int 0, .ref aG, .ref aO, .ref aN, .ref aD, .long bv, .ref aY, .int 0, .int 0, .int 0, .int 0])), (aS, .inl (cS, 901, .inl s0)), (aB, .inl (cB, 6, .inl fB)), (aO, .inl (cO, 36, .inr (.inl fO))), (aN, .inl (cN, 36, .inr (.inl fN))), (aD, .inl (cD, 36, .inl fD))])) (va_Qi (fun (r : Int32) (u : Unit) => match u with | () => r = f_best x y n k) (fun (u : Unit) (t : State) => match u with | () => True) (va_A [(m0, .inr (14, [.int 0, .ref aS, .ref aI, .int 0, .int 0, .int 0, .int 0, .int 0, .int 0, .ref aB, .ref aT, .int 0, .int 0, .ref aG, .ref aO, .ref aN, .ref aD, .long bv, .ref aY, .int 0, .int 0, .int 0, .int 0])), (aS, .inl (cS, 901, .inl s0)), (aB, .inl (cB, 6, .inl fB)), (aO, .inl (cO, 36, .inr (.inl fO))), (aN, .inl (cN, 36, .inr (.inl fN))), (aD, .inl (cD, 36, .inl fD))] sz)) 0 0 (va_A [(m0, .inr (14, [.int 0, .ref aS, .ref aI, .int 0, .int 0, .int 0, .int 0, .int 0, .int 0, .ref aB, .ref aT, .int 0, .int 0, .ref aG, .ref aO, .ref aN, .ref aD, .long bv, .ref aY, .int 0, .int 0, .int 0, .int 0])), (aS, .inl (cS, 901, .inl s0)), (aB, .inl (cB, 6, .inl fB)), (aO, .inl (cO, 36, .inr (.inl fO))), (aN, .inl (cN, 36, .inr (.inl fN))), (aD, .inl (cD, 36, .inl fD))] sz) := by
  refine met_ofQ (cc := cX12_best) (maxL := 5) (ret := (some .int)) (by decide) rfl ?_
  intro p e s m args below meth c s₁ Q B hml hv hQ
  obtain ⟨rfl, hsz, hP, hK, hD0⟩ := hv
  have hx := B.exec
  have hb := B.bytes
  have hr := B.returns
  have hts := atoms_spec (ws := wsX12_best) B.pre
  have hown : s.vm.findClass RX12 = some m.cls := findClass_of_methodNamed B.named
  have hlocks := B.notSynchronized
  subst hsz
  have hD := hD0.self (sz := s.heap.size)
  generalize hAe : va_A [(m0, .inr (14, [.int 0, .ref aS, .ref aI, .int 0, .int 0, .int 0, .int 0, .int 0, .int 0, .ref aB, .ref aT, .int 0, .int 0, .ref aG, .ref aO, .ref aN, .ref aD, .long bv, .ref aY, .int 0, .int 0, .int 0, .int 0])), (aS, .inl (cS, 901, .inl s0)), (aB, .inl (cB, 6, .inl fB)), (aO, .inl (cO, 36, .inr (.inl fO))), (aN, .inl (cN, 36, .inr (.inl fN))), (aD, .inl (cD, 36, .inl fD))] s.heap.size = A at hD hQ ⊢
  have hA : ∀ q : Nat, s.heap.size ≤ q → A q := fun q h => by rw [← hAe]; exact Or.inr h
  have hS : va_S A s.heap s.heap [] := va_S.rf
  have hl := lv_entry [.ref m0, .int x, .int y, .int n, .int k] (n := 5) (Nat.le_of_ble_eq_true rfl)
  rw [lg_entry_eq]
  generalize (lg_sl [.ref m0, .int x, .int y, .int n, .int k] ++ List.replicate (5 - (lg_sl [.ref m0, .int x, .int y, .int n, .int k]).length) Slot.unset).toArray = ls at hl ⊢
  generalize hag : ([.ref m0, .int x, .int y, .int n, .int k] : List Value).toArray = args at hts hQ ⊢
  have hl : lv_has ls 5 [(0, .ref m0), (1, .int x), (2, .int y), (3, .int n), (4, .int k)] := hl
  obtain ⟨H, hH⟩ : ∃ H : Heap, H = s.heap := ⟨_, rfl⟩
  rw [← hH] at hP
  rw [← hH]
  have hS : va_S A s.heap H [] := by rw [hH]; exact hS
  obtain ⟨locs, hlo⟩ : ∃ L : List Loc, L = [] := ⟨_, rfl⟩
  rw [← hlo] at hS
  rw [← hlo]
  clear hH hlo
  refine lv_iload_n hx hb dX12_best_0 rfl (lv_at hl 1 rfl) ?_
  refine vp_callSi (va_runS (As := [.int x]) (rest := []) ⟨hx, hb, hml, hown, hts⟩ (c_mCell l dC dI x) (va_cwS 1 hts gX12_best_X12_isCell rfl rfl rfl (by decide +kernel) ⟨Nat.le_of_ble_eq_true rfl, Nat.le_of_ble_eq_true rfl⟩) ⟨fun a U g mk q => ⟨q.1, trivial⟩, fun U hU hW => ⟨rfl, trivial⟩⟩ rfl rfl hl.1 rfl (lv_room (Nat.le_of_ble_eq_true rfl)) dX12_best_1 ⟨Nat.le_of_ble_eq_true rfl, Nat.le_of_ble_eq_true rfl⟩).run (fun r_1 hw_2 => ?_)
  rcases hw_2 with ⟨rfl, h_3, h_4⟩ | ⟨rfl, h_5⟩
  · skip
    obtain ⟨jx_6, hj_7, rfl⟩ := in_of (n := 35) (M := 35) rfl h_3 h_4
    refine lv_if_eq (tgt := 24) hx hb dX12_best_4 (by decide) (fun c_8 => absurd c_8 (by decide)) (fun _ => ?_)
    refine lv_iload_n hx hb dX12_best_7 rfl (lv_at hl 2 rfl) ?_
    refine vp_callSi (va_runS (As := [.int y]) (rest := []) ⟨hx, hb, hml, hown, hts⟩ (c_mCell l dC dI y) (va_cwS 1 hts gX12_best_X12_isCell rfl rfl rfl (by decide +kernel) ⟨Nat.le_of_ble_eq_true rfl, Nat.le_of_ble_eq_true rfl⟩) ⟨fun a U g mk q => ⟨q.1, trivial⟩, fun U hU hW => ⟨rfl, trivial⟩⟩ rfl rfl hl.1 rfl (lv_room (Nat.le_of_ble_eq_true rfl)) dX12_best_8 ⟨Nat.le_of_ble_eq_true rfl, Nat.le_of_ble_eq_true rfl⟩).run (fun r_9 hw_10 => ?_)
    rcases hw_10 with ⟨rfl, h_11, h_12⟩ | ⟨rfl, h_13⟩
    · skip
      obtain ⟨jy_14, hj_15, rfl⟩ := in_of (n := 35) (M := 35) rfl h_11 h_12
      refine lv_if_eq (tgt := 24) hx hb dX12_best_11 (by decide) (fun c_16 => absurd c_16 (by decide)) (fun _ => ?_)
      refine lv_iload hx hb dX12_best_14 (lv_at hl 4 rfl) ?_
      refine lv_iconst (v := 0) hx hb dX12_best_16 (by decide) ?_
      refine lv_iconst (v := 2) hx hb dX12_best_17 (by decide) ?_
      refine vp_callSi (va_runS (As := [.int k, .int 0, .int 2]) (rest := []) ⟨hx, hb, hml, hown, hts⟩ (c_in l dC dI k 0 2) (va_cwS 3 hts gX12_best_X12_in rfl rfl rfl (by decide +kernel) ⟨Nat.le_of_ble_eq_true rfl, Nat.le_of_ble_eq_true rfl⟩) ⟨fun a U g mk q => ⟨q.1, trivial⟩, fun U hU hW => ⟨rfl, trivial⟩⟩ rfl rfl hl.1 rfl (lv_room (Nat.le_of_ble_eq_true rfl)) dX12_best_18 ⟨Nat.le_of_ble_eq_true rfl, Nat.le_of_ble_eq_true rfl⟩).run (fun r_17 hw_18 => ?_)
      rcases hw_18 with ⟨rfl, h_19, h_20⟩ | ⟨rfl, h_21⟩
      · skip
        obtain ⟨kk_22, hj_23, rfl⟩ := in_of (n := 2) (M := 2) rfl h_19 h_20
        refine lv_if_ne (tgt := 26) hx hb dX12_best_21 (by decide) (fun _ => ?_) (fun c_24 => absurd c_24 (by decide))
        refine lv_iload_n hx hb dX12_best_26 rfl (lv_at hl 3 rfl) ?_
        refine lv_iconst (v := 1) hx hb dX12_best_27 (by decide) ?_
        refine lv_iconst (v := 3) hx hb dX12_best_28 (by decide) ?_
        refine vp_callSi (va_runS (As := [.int n, .int 1, .int 3]) (rest := []) ⟨hx, hb, hml, hown, hts⟩ (c_in l dC dI n 1 3) (va_cwS 3 hts gX12_best_X12_in rfl rfl rfl (by decide +kernel) ⟨Nat.le_of_ble_eq_true rfl, Nat.le_of_ble_eq_true rfl⟩) ⟨fun a U g mk q => ⟨q.1, trivial⟩, fun U hU hW => ⟨rfl, trivial⟩⟩ rfl rfl hl.1 rfl (lv_room (Nat.le_of_ble_eq_true rfl)) dX12_best_29 ⟨Nat.le_of_ble_eq_true rfl, Nat.le_of_ble_eq_true rfl⟩).run (fun r_25 hw_26 => ?_)
        rcases hw_26 with ⟨rfl, h_27, h_28⟩ | ⟨rfl, h_29⟩
        · skip
          rcases three h_27 h_28 with rfl | rfl | rfl
          · skip
            refine lv_if_ne (tgt := 38) hx hb dX12_best_32 (by decide) (fun _ => ?_) (fun c_30 => absurd c_30 (by decide))
            refine lv_iload hx hb dX12_best_38 (lv_at hl 4 rfl) ?_
            refine lv_iload_n hx hb dX12_best_40 rfl (lv_at hl 3 rfl) ?_
            refine lv_icmp_lt (tgt := 48) hx hb dX12_best_41 (by decide) (fun c_31 => ?_) (fun c_31 => ?_)
            · skip
              have c_31 : kk_22 < 1 := (nI_ltI (a := kk_22) (b := 1) (by omega) (by omega)).mp c_31
              refine lv_aload_n hx hb dX12_best_48 rfl (lv_at hl 0 rfl) ?_
              refine lv_iload_n hx hb dX12_best_49 rfl (lv_at hl 1 rfl) ?_
              refine lv_iload_n hx hb dX12_best_50 rfl (lv_at hl 2 rfl) ?_
              refine lv_iload_n hx hb dX12_best_51 rfl (lv_at hl 3 rfl) ?_
              have hPc := hP.sub (ws' := [(m0, .inr (14, [.int 0, .ref aS, .ref aI, .int 0, .int 0, .int 0, .int 0, .int 0, .int 0, .ref aB, .ref aT, .int 0, .int 0, .ref aG, .ref aO, .ref aN, .ref aD, .long bv, .ref aY, .int 0, .int 0, .int 0, .int 0])), (aS, .inl (cS, 901, .inl s0)), (aB, .inl (cB, 6, .inl fB)), (aO, .inl (cO, 36, .inr (.inl fO))), (aN, .inl (cN, 36, .inr (.inl fN))), (aD, .inl (cD, 36, .inl fD))]) [0, 1, 2, 3, 4, 5] rfl
              have hDc := hD.sub (ws' := [(m0, .inr (14, [.int 0, .ref aS, .ref aI, .int 0, .int 0, .int 0, .int 0, .int 0, .int 0, .ref aB, .ref aT, .int 0, .int 0, .ref aG, .ref aO, .ref aN, .ref aD, .long bv, .ref aY, .int 0, .int 0, .int 0, .int 0])), (aS, .inl (cS, 901, .inl s0)), (aB, .inl (cB, 6, .inl fB)), (aO, .inl (cO, 36, .inr (.inl fO))), (aN, .inl (cN, 36, .inr (.inl fN))), (aD, .inl (cD, 36, .inl fD))]) [0, 1, 2, 3, 4, 5] (by decide) rfl
              have hKc := hK.sub (tys' := [(cS, .int), (cB, .int), (cO, .long), (cN, .long), (cD, .int)]) [0, 1, 2, 3, 4] rfl
              have hFc := va_free (wc := [(m0, .inr (14, [.int 0, .ref aS, .ref aI, .int 0, .int 0, .int 0, .int 0, .int 0, .int 0, .ref aB, .ref aT, .int 0, .int 0, .ref aG, .ref aO, .ref aN, .ref aD, .long bv, .ref aY, .int 0, .int 0, .int 0, .int 0])), (aS, .inl (cS, 901, .inl s0)), (aB, .inl (cB, 6, .inl fB)), (aO, .inl (cO, 36, .inr (.inl fO))), (aN, .inl (cN, 36, .inr (.inl fN))), (aD, .inl (cD, 36, .inl fD))]) hD hS hA [0, 1, 2, 3, 4, 5] rfl
              refine va_calli (va_runV (As := [.int (nI jx_6), .int (nI jy_14), .int 1]) (rest := []) ⟨hx, hb, hml, hown, hts⟩ (c_bestRow1 l dC dI m0 aS aI aB aT aG aO aN aD aY bv cS cB cO cN cD fB fD fO fN jx_6 jy_14 H.size (by omega) (by omega)) (cwV 3 hts gX12_best_X12_bestRow rfl rfl rfl (by decide +kernel) ⟨Nat.le_of_ble_eq_true rfl, Nat.le_of_ble_eq_true rfl⟩) ⟨fun a U g mk q => by obtain ⟨q0, q1, qP, qK, qD⟩ := q; exact ⟨q0, q1, qP, va_K.moved (u := U) (U := U.calling g mk a) (Vm.Alike.refl U.vm) qK, qD⟩, va_recv hK hP (ci := 14) (q0 := 0) rfl rfl, fun U hU hW => ⟨rfl, by rw [hU], by rw [hU]; exact hPc, va_K.moved hW.alike hKc, hDc.weaken (fun _ _ _ _ => trivial)⟩⟩ rfl rfl hl.1 rfl (lv_room (Nat.le_of_ble_eq_true rfl)) dX12_best_52 ⟨Nat.le_of_ble_eq_true rfl, Nat.le_of_ble_eq_true rfl⟩) hS (fun q _ h => hFc q h) hFc (fun r_32 u tC H1 locs htC hvm hw_33 hB hz1 hk1 hS => ?_)
              obtain ⟨fB2_34, fO2_35, fN2_36, fD2_37, bv2_38⟩ := u
              try dsimp only at hw_33 hB
              obtain ⟨hP1, hK1, hD1⟩ := hB
              rw [htC] at hP1
              have hK1 := va_K.moved hvm.symm hK1
              obtain ⟨hP, hD⟩ := va_join (wr := []) (w1 := [(m0, .inr (14, [.int 0, .ref aS, .ref aI, .int 0, .int 0, .int 0, .int 0, .int 0, .int 0, .ref aB, .ref aT, .int 0, .int 0, .ref aG, .ref aO, .ref aN, .ref aD, .long bv2_38, .ref aY, .int 0, .int 0, .int 0, .int 0])), (aS, .inl (cS, 901, .inl s0)), (aB, .inl (cB, 6, .inl fB2_34)), (aO, .inl (cO, 36, .inr (.inl fO2_35))), (aN, .inl (cN, 36, .inr (.inl fN2_36))), (aD, .inl (cD, 36, .inl fD2_37))]) hP hD [0, 1, 2, 3, 4, 5] [] rfl rfl (by decide) (by decide) hk1 hFc hP1 hD1
              have hK := (hK.sub (tys' := []) [] rfl).app hK1
              generalize H1 = H at hP hS ⊢
              have hP : va_P (dC, dI) vwCl [(m0, .inr (14, [.int 0, .ref aS, .ref aI, .int 0, .int 0, .int 0, .int 0, .int 0, .int 0, .ref aB, .ref aT, .int 0, .int 0, .ref aG, .ref aO, .ref aN, .ref aD, .long bv2_38, .ref aY, .int 0, .int 0, .int 0, .int 0])), (aS, .inl (cS, 901, .inl s0)), (aB, .inl (cB, 6, .inl fB2_34)), (aO, .inl (cO, 36, .inr (.inl fO2_35))), (aN, .inl (cN, 36, .inr (.inl fN2_36))), (aD, .inl (cD, 36, .inl fD2_37))] H := hP
              have hD : va_D A [(m0, .inr (14, [.int 0, .ref aS, .ref aI, .int 0, .int 0, .int 0, .int 0, .int 0, .int 0, .ref aB, .ref aT, .int 0, .int 0, .ref aG, .ref aO, .ref aN, .ref aD, .long bv2_38, .ref aY, .int 0, .int 0, .int 0, .int 0])), (aS, .inl (cS, 901, .inl s0)), (aB, .inl (cB, 6, .inl fB2_34)), (aO, .inl (cO, 36, .inr (.inl fO2_35))), (aN, .inl (cN, 36, .inr (.inl fN2_36))), (aD, .inl (cD, 36, .inl fD2_37))] := hD
              have hK : va_K (dC, dI) vwCl [(cS, .int), (cB, .int), (cO, .long), (cN, .long), (cD, .int)] s := hK
              refine qi_as (y := nI (GG (fun q => ind (pth 1 jx_6 q) 1 jy_14) 8).2) (hw_33.1) ?_
              have hb_39 : (GG (fun q => ind (pth 1 jx_6 q) 1 jy_14) 8).2 < 8 := GG_lt _ _ (by omega)
              refine lv_iload_n hx hb dX12_best_55 rfl (lv_at hl 3 rfl) ?_
              refine lv_iload hx hb dX12_best_56 (lv_at hl 4 rfl) ?_
              refine vp_callSi (va_runS (As := [.int (nI ((GG (fun q => ind (pth 1 jx_6 q) 1 jy_14) 8).2)), .int 1, .int (nI kk_22)]) (rest := []) ⟨hx, hb, hml, hown, hts⟩ (c_wayOf l dC dI (GG (fun q => ind (pth 1 jx_6 q) 1 jy_14) 8).2 1 kk_22 (by omega) (by omega) (by omega)) (va_cwS 3 hts gX12_best_X12_wayOf rfl rfl rfl (by decide +kernel) ⟨Nat.le_of_ble_eq_true rfl, Nat.le_of_ble_eq_true rfl⟩) ⟨fun a U g mk q => ⟨q.1, trivial⟩, fun U hU hW => ⟨rfl, trivial⟩⟩ rfl rfl hl.1 rfl (lv_room (Nat.le_of_ble_eq_true rfl)) dX12_best_58 ⟨Nat.le_of_ble_eq_true rfl, Nat.le_of_ble_eq_true rfl⟩).run (fun r_40 hw_41 => ?_)
              rw [hQ]
              exact W.iret (v := r_40) hx hb hr (fun tQ htQ hWQ => ⟨⟨r_40, (), rfl, by rw [hw_41]; simp only [f_best]; (repeat' split) <;> first | contradiction | (simp only [nI_clamp (n := jx_6) (by omega), nI_clamp (n := jy_14) (by omega), nI_clamp (n := kk_22) (by omega)]; rfl) | simp_all, trivial⟩, hS.F htQ⟩) hS.2.2 dX12_best_61
            · skip
              have c_31 : ¬ kk_22 < 1 := fun q => c_31 ((nI_ltI (a := kk_22) (b := 1) (by omega) (by omega)).mpr q)
              refine lv_iconst (v := (-1)) hx hb dX12_best_44 (by decide) ?_
              refine lv_goto (tgt := 61) hx hb dX12_best_45 (by decide) ?_
              rw [hQ]
              exact W.iret (v := (-1)) hx hb hr (fun tQ htQ hWQ => ⟨⟨(-1), (), rfl, by simp only [f_best]; (repeat' split) <;> simp_all, trivial⟩, hS.F htQ⟩) hS.2.2 dX12_best_61
          · skip
            refine lv_if_ne (tgt := 38) hx hb dX12_best_32 (by decide) (fun _ => ?_) (fun c_42 => absurd c_42 (by decide))
            refine lv_iload hx hb dX12_best_38 (lv_at hl 4 rfl) ?_
            refine lv_iload_n hx hb dX12_best_40 rfl (lv_at hl 3 rfl) ?_
            refine lv_icmp_lt (tgt := 48) hx hb dX12_best_41 (by decide) (fun c_43 => ?_) (fun c_43 => ?_)
            · skip
              have c_43 : kk_22 < 2 := (nI_ltI (a := kk_22) (b := 2) (by omega) (by omega)).mp c_43
              refine lv_aload_n hx hb dX12_best_48 rfl (lv_at hl 0 rfl) ?_
              refine lv_iload_n hx hb dX12_best_49 rfl (lv_at hl 1 rfl) ?_
              refine lv_iload_n hx hb dX12_best_50 rfl (lv_at hl 2 rfl) ?_
              refine lv_iload_n hx hb dX12_best_51 rfl (lv_at hl 3 rfl) ?_
              have hPc := hP.sub (ws' := [(m0, .inr (14, [.int 0, .ref aS, .ref aI, .int 0, .int 0, .int 0, .int 0, .int 0, .int 0, .ref aB, .ref aT, .int 0, .int 0, .ref aG, .ref aO, .ref aN, .ref aD, .long bv, .ref aY, .int 0, .int 0, .int 0, .int 0])), (aS, .inl (cS, 901, .inl s0)), (aB, .inl (cB, 6, .inl fB)), (aO, .inl (cO, 36, .inr (.inl fO))), (aN, .inl (cN, 36, .inr (.inl fN))), (aD, .inl (cD, 36, .inl fD))]) [0, 1, 2, 3, 4, 5] rfl
              have hDc := hD.sub (ws' := [(m0, .inr (14, [.int 0, .ref aS, .ref aI, .int 0, .int 0, .int 0, .int 0, .int 0, .int 0, .ref aB, .ref aT, .int 0, .int 0, .ref aG, .ref aO, .ref aN, .ref aD, .long bv, .ref aY, .int 0, .int 0, .int 0, .int 0])), (aS, .inl (cS, 901, .inl s0)), (aB, .inl (cB, 6, .inl fB)), (aO, .inl (cO, 36, .inr (.inl fO))), (aN, .inl (cN, 36, .inr (.inl fN))), (aD, .inl (cD, 36, .inl fD))]) [0, 1, 2, 3, 4, 5] (by decide) rfl
              have hKc := hK.sub (tys' := [(cS, .int), (cB, .int), (cO, .long), (cN, .long), (cD, .int)]) [0, 1, 2, 3, 4] rfl
              have hFc := va_free (wc := [(m0, .inr (14, [.int 0, .ref aS, .ref aI, .int 0, .int 0, .int 0, .int 0, .int 0, .int 0, .ref aB, .ref aT, .int 0, .int 0, .ref aG, .ref aO, .ref aN, .ref aD, .long bv, .ref aY, .int 0, .int 0, .int 0, .int 0])), (aS, .inl (cS, 901, .inl s0)), (aB, .inl (cB, 6, .inl fB)), (aO, .inl (cO, 36, .inr (.inl fO))), (aN, .inl (cN, 36, .inr (.inl fN))), (aD, .inl (cD, 36, .inl fD))]) hD hS hA [0, 1, 2, 3, 4, 5] rfl
              refine va_calli (va_runV (As := [.int (nI jx_6), .int (nI jy_14), .int 2]) (rest := []) ⟨hx, hb, hml, hown, hts⟩ (c_bestRow2 l dC dI m0 aS aI aB aT aG aO aN aD aY bv cS cB cO cN cD fB fD fO fN jx_6 jy_14 H.size (by omega) (by omega)) (cwV 3 hts gX12_best_X12_bestRow rfl rfl rfl (by decide +kernel) ⟨Nat.le_of_ble_eq_true rfl, Nat.le_of_ble_eq_true rfl⟩) ⟨fun a U g mk q => by obtain ⟨q0, q1, qP, qK, qD⟩ := q; exact ⟨q0, q1, qP, va_K.moved (u := U) (U := U.calling g mk a) (Vm.Alike.refl U.vm) qK, qD⟩, va_recv hK hP (ci := 14) (q0 := 0) rfl rfl, fun U hU hW => ⟨rfl, by rw [hU], by rw [hU]; exact hPc, va_K.moved hW.alike hKc, hDc.weaken (fun _ _ _ _ => trivial)⟩⟩ rfl rfl hl.1 rfl (lv_room (Nat.le_of_ble_eq_true rfl)) dX12_best_52 ⟨Nat.le_of_ble_eq_true rfl, Nat.le_of_ble_eq_true rfl⟩) hS (fun q _ h => hFc q h) hFc (fun r_44 u tC H1 locs htC hvm hw_45 hB hz1 hk1 hS => ?_)
              obtain ⟨fB2_46, fO2_47, fN2_48, fD2_49, bv2_50⟩ := u
              try dsimp only at hw_45 hB
              obtain ⟨hP1, hK1, hD1⟩ := hB
              rw [htC] at hP1
              have hK1 := va_K.moved hvm.symm hK1
              obtain ⟨hP, hD⟩ := va_join (wr := []) (w1 := [(m0, .inr (14, [.int 0, .ref aS, .ref aI, .int 0, .int 0, .int 0, .int 0, .int 0, .int 0, .ref aB, .ref aT, .int 0, .int 0, .ref aG, .ref aO, .ref aN, .ref aD, .long bv2_50, .ref aY, .int 0, .int 0, .int 0, .int 0])), (aS, .inl (cS, 901, .inl s0)), (aB, .inl (cB, 6, .inl fB2_46)), (aO, .inl (cO, 36, .inr (.inl fO2_47))), (aN, .inl (cN, 36, .inr (.inl fN2_48))), (aD, .inl (cD, 36, .inl fD2_49))]) hP hD [0, 1, 2, 3, 4, 5] [] rfl rfl (by decide) (by decide) hk1 hFc hP1 hD1
              have hK := (hK.sub (tys' := []) [] rfl).app hK1
              generalize H1 = H at hP hS ⊢
              have hP : va_P (dC, dI) vwCl [(m0, .inr (14, [.int 0, .ref aS, .ref aI, .int 0, .int 0, .int 0, .int 0, .int 0, .int 0, .ref aB, .ref aT, .int 0, .int 0, .ref aG, .ref aO, .ref aN, .ref aD, .long bv2_50, .ref aY, .int 0, .int 0, .int 0, .int 0])), (aS, .inl (cS, 901, .inl s0)), (aB, .inl (cB, 6, .inl fB2_46)), (aO, .inl (cO, 36, .inr (.inl fO2_47))), (aN, .inl (cN, 36, .inr (.inl fN2_48))), (aD, .inl (cD, 36, .inl fD2_49))] H := hP
              have hD : va_D A [(m0, .inr (14, [.int 0, .ref aS, .ref aI, .int 0, .int 0, .int 0, .int 0, .int 0, .int 0, .ref aB, .ref aT, .int 0, .int 0, .ref aG, .ref aO, .ref aN, .ref aD, .long bv2_50, .ref aY, .int 0, .int 0, .int 0, .int 0])), (aS, .inl (cS, 901, .inl s0)), (aB, .inl (cB, 6, .inl fB2_46)), (aO, .inl (cO, 36, .inr (.inl fO2_47))), (aN, .inl (cN, 36, .inr (.inl fN2_48))), (aD, .inl (cD, 36, .inl fD2_49))] := hD
              have hK : va_K (dC, dI) vwCl [(cS, .int), (cB, .int), (cO, .long), (cN, .long), (cD, .int)] s := hK
              refine qi_as (y := nI (GG (fun q => ind (pth 2 jx_6 q) 2 jy_14) 64).2) (hw_45.1) ?_
              have hb_51 : (GG (fun q => ind (pth 2 jx_6 q) 2 jy_14) 64).2 < 64 := GG_lt _ _ (by omega)
              refine lv_iload_n hx hb dX12_best_55 rfl (lv_at hl 3 rfl) ?_
              refine lv_iload hx hb dX12_best_56 (lv_at hl 4 rfl) ?_
              refine vp_callSi (va_runS (As := [.int (nI ((GG (fun q => ind (pth 2 jx_6 q) 2 jy_14) 64).2)), .int 2, .int (nI kk_22)]) (rest := []) ⟨hx, hb, hml, hown, hts⟩ (c_wayOf l dC dI (GG (fun q => ind (pth 2 jx_6 q) 2 jy_14) 64).2 2 kk_22 (by omega) (by omega) (by omega)) (va_cwS 3 hts gX12_best_X12_wayOf rfl rfl rfl (by decide +kernel) ⟨Nat.le_of_ble_eq_true rfl, Nat.le_of_ble_eq_true rfl⟩) ⟨fun a U g mk q => ⟨q.1, trivial⟩, fun U hU hW => ⟨rfl, trivial⟩⟩ rfl rfl hl.1 rfl (lv_room (Nat.le_of_ble_eq_true rfl)) dX12_best_58 ⟨Nat.le_of_ble_eq_true rfl, Nat.le_of_ble_eq_true rfl⟩).run (fun r_52 hw_53 => ?_)
              rw [hQ]
              exact W.iret (v := r_52) hx hb hr (fun tQ htQ hWQ => ⟨⟨r_52, (), rfl, by rw [hw_53]; simp only [f_best]; (repeat' split) <;> first | contradiction | (simp only [nI_clamp (n := jx_6) (by omega), nI_clamp (n := jy_14) (by omega), nI_clamp (n := kk_22) (by omega)]; rfl) | simp_all, trivial⟩, hS.F htQ⟩) hS.2.2 dX12_best_61
            · skip
              have c_43 : ¬ kk_22 < 2 := fun q => c_43 ((nI_ltI (a := kk_22) (b := 2) (by omega) (by omega)).mpr q)
              refine lv_iconst (v := (-1)) hx hb dX12_best_44 (by decide) ?_
              refine lv_goto (tgt := 61) hx hb dX12_best_45 (by decide) ?_
              rw [hQ]
              exact W.iret (v := (-1)) hx hb hr (fun tQ htQ hWQ => ⟨⟨(-1), (), rfl, by simp only [f_best]; (repeat' split) <;> simp_all, trivial⟩, hS.F htQ⟩) hS.2.2 dX12_best_61
          · skip
            refine lv_if_ne (tgt := 38) hx hb dX12_best_32 (by decide) (fun _ => ?_) (fun c_54 => absurd c_54 (by decide))
            refine lv_iload hx hb dX12_best_38 (lv_at hl 4 rfl) ?_
            refine lv_iload_n hx hb dX12_best_40 rfl (lv_at hl 3 rfl) ?_
            refine lv_icmp_lt (tgt := 48) hx hb dX12_best_41 (by decide) (fun c_55 => ?_) (fun c_55 => ?_)
            · skip
              have c_55 : kk_22 < 3 := (nI_ltI (a := kk_22) (b := 3) (by omega) (by omega)).mp c_55
              refine lv_aload_n hx hb dX12_best_48 rfl (lv_at hl 0 rfl) ?_
              refine lv_iload_n hx hb dX12_best_49 rfl (lv_at hl 1 rfl) ?_
              refine lv_iload_n hx hb dX12_best_50 rfl (lv_at hl 2 rfl) ?_
              refine lv_iload_n hx hb dX12_best_51 rfl (lv_at hl 3 rfl) ?_
              have hPc := hP.sub (ws' := [(m0, .inr (14, [.int 0, .ref aS, .ref aI, .int 0, .int 0, .int 0, .int 0, .int 0, .int 0, .ref aB, .ref aT, .int 0, .int 0, .ref aG, .ref aO, .ref aN, .ref aD, .long bv, .ref aY, .int 0, .int 0, .int 0, .int 0])), (aS, .inl (cS, 901, .inl s0)), (aB, .inl (cB, 6, .inl fB)), (aO, .inl (cO, 36, .inr (.inl fO))), (aN, .inl (cN, 36, .inr (.inl fN))), (aD, .inl (cD, 36, .inl fD))]) [0, 1, 2, 3, 4, 5] rfl
              have hDc := hD.sub (ws' := [(m0, .inr (14, [.int 0, .ref aS, .ref aI, .int 0, .int 0, .int 0, .int 0, .int 0, .int 0, .ref aB, .ref aT, .int 0, .int 0, .ref aG, .ref aO, .ref aN, .ref aD, .long bv, .ref aY, .int 0, .int 0, .int 0, .int 0])), (aS, .inl (cS, 901, .inl s0)), (aB, .inl (cB, 6, .inl fB)), (aO, .inl (cO, 36, .inr (.inl fO))), (aN, .inl (cN, 36, .inr (.inl fN))), (aD, .inl (cD, 36, .inl fD))]) [0, 1, 2, 3, 4, 5] (by decide) rfl
              have hKc := hK.sub (tys' := [(cS, .int), (cB, .int), (cO, .long), (cN, .long), (cD, .int)]) [0, 1, 2, 3, 4] rfl
              have hFc := va_free (wc := [(m0, .inr (14, [.int 0, .ref aS, .ref aI, .int 0, .int 0, .int 0, .int 0, .int 0, .int 0, .ref aB, .ref aT, .int 0, .int 0, .ref aG, .ref aO, .ref aN, .ref aD, .long bv, .ref aY, .int 0, .int 0, .int 0, .int 0])), (aS, .inl (cS, 901, .inl s0)), (aB, .inl (cB, 6, .inl fB)), (aO, .inl (cO, 36, .inr (.inl fO))), (aN, .inl (cN, 36, .inr (.inl fN))), (aD, .inl (cD, 36, .inl fD))]) hD hS hA [0, 1, 2, 3, 4, 5] rfl
              refine va_calli (va_runV (As := [.int (nI jx_6), .int (nI jy_14), .int 3]) (rest := []) ⟨hx, hb, hml, hown, hts⟩ (c_bestRow3 l dC dI m0 aS aI aB aT aG aO aN aD aY bv cS cB cO cN cD fB fD fO fN jx_6 jy_14 H.size (by omega) (by omega)) (cwV 3 hts gX12_best_X12_bestRow rfl rfl rfl (by decide +kernel) ⟨Nat.le_of_ble_eq_true rfl, Nat.le_of_ble_eq_true rfl⟩) ⟨fun a U g mk q => by obtain ⟨q0, q1, qP, qK, qD⟩ := q; exact ⟨q0, q1, qP, va_K.moved (u := U) (U := U.calling g mk a) (Vm.Alike.refl U.vm) qK, qD⟩, va_recv hK hP (ci := 14) (q0 := 0) rfl rfl, fun U hU hW => ⟨rfl, by rw [hU], by rw [hU]; exact hPc, va_K.moved hW.alike hKc, hDc.weaken (fun _ _ _ _ => trivial)⟩⟩ rfl rfl hl.1 rfl (lv_room (Nat.le_of_ble_eq_true rfl)) dX12_best_52 ⟨Nat.le_of_ble_eq_true rfl, Nat.le_of_ble_eq_true rfl⟩) hS (fun q _ h => hFc q h) hFc (fun r_56 u tC H1 locs htC hvm hw_57 hB hz1 hk1 hS => ?_)
              obtain ⟨fB2_58, fO2_59, fN2_60, fD2_61, bv2_62⟩ := u
              try dsimp only at hw_57 hB
              obtain ⟨hP1, hK1, hD1⟩ := hB
              rw [htC] at hP1
              have hK1 := va_K.moved hvm.symm hK1
              obtain ⟨hP, hD⟩ := va_join (wr := []) (w1 := [(m0, .inr (14, [.int 0, .ref aS, .ref aI, .int 0, .int 0, .int 0, .int 0, .int 0, .int 0, .ref aB, .ref aT, .int 0, .int 0, .ref aG, .ref aO, .ref aN, .ref aD, .long bv2_62, .ref aY, .int 0, .int 0, .int 0, .int 0])), (aS, .inl (cS, 901, .inl s0)), (aB, .inl (cB, 6, .inl fB2_58)), (aO, .inl (cO, 36, .inr (.inl fO2_59))), (aN, .inl (cN, 36, .inr (.inl fN2_60))), (aD, .inl (cD, 36, .inl fD2_61))]) hP hD [0, 1, 2, 3, 4, 5] [] rfl rfl (by decide) (by decide) hk1 hFc hP1 hD1
              have hK := (hK.sub (tys' := []) [] rfl).app hK1
              generalize H1 = H at hP hS ⊢
              have hP : va_P (dC, dI) vwCl [(m0, .inr (14, [.int 0, .ref aS, .ref aI, .int 0, .int 0, .int 0, .int 0, .int 0, .int 0, .ref aB, .ref aT, .int 0, .int 0, .ref aG, .ref aO, .ref aN, .ref aD, .long bv2_62, .ref aY, .int 0, .int 0, .int 0, .int 0])), (aS, .inl (cS, 901, .inl s0)), (aB, .inl (cB, 6, .inl fB2_58)), (aO, .inl (cO, 36, .inr (.inl fO2_59))), (aN, .inl (cN, 36, .inr (.inl fN2_60))), (aD, .inl (cD, 36, .inl fD2_61))] H := hP
              have hD : va_D A [(m0, .inr (14, [.int 0, .ref aS, .ref aI, .int 0, .int 0, .int 0, .int 0, .int 0, .int 0, .ref aB, .ref aT, .int 0, .int 0, .ref aG, .ref aO, .ref aN, .ref aD, .long bv2_62, .ref aY, .int 0, .int 0, .int 0, .int 0])), (aS, .inl (cS, 901, .inl s0)), (aB, .inl (cB, 6, .inl fB2_58)), (aO, .inl (cO, 36, .inr (.inl fO2_59))), (aN, .inl (cN, 36, .inr (.inl fN2_60))), (aD, .inl (cD, 36, .inl fD2_61))] := hD
              have hK : va_K (dC, dI) vwCl [(cS, .int), (cB, .int), (cO, .long), (cN, .long), (cD, .int)] s := hK
              refine qi_as (y := nI (GG (fun q => ind (pth 3 jx_6 q) 3 jy_14) 512).2) (hw_57.1) ?_
              have hb_63 : (GG (fun q => ind (pth 3 jx_6 q) 3 jy_14) 512).2 < 512 := GG_lt _ _ (by omega)
              refine lv_iload_n hx hb dX12_best_55 rfl (lv_at hl 3 rfl) ?_
              refine lv_iload hx hb dX12_best_56 (lv_at hl 4 rfl) ?_
              refine vp_callSi (va_runS (As := [.int (nI ((GG (fun q => ind (pth 3 jx_6 q) 3 jy_14) 512).2)), .int 3, .int (nI kk_22)]) (rest := []) ⟨hx, hb, hml, hown, hts⟩ (c_wayOf l dC dI (GG (fun q => ind (pth 3 jx_6 q) 3 jy_14) 512).2 3 kk_22 (by omega) (by omega) (by omega)) (va_cwS 3 hts gX12_best_X12_wayOf rfl rfl rfl (by decide +kernel) ⟨Nat.le_of_ble_eq_true rfl, Nat.le_of_ble_eq_true rfl⟩) ⟨fun a U g mk q => ⟨q.1, trivial⟩, fun U hU hW => ⟨rfl, trivial⟩⟩ rfl rfl hl.1 rfl (lv_room (Nat.le_of_ble_eq_true rfl)) dX12_best_58 ⟨Nat.le_of_ble_eq_true rfl, Nat.le_of_ble_eq_true rfl⟩).run (fun r_64 hw_65 => ?_)
              rw [hQ]
              exact W.iret (v := r_64) hx hb hr (fun tQ htQ hWQ => ⟨⟨r_64, (), rfl, by rw [hw_65]; simp only [f_best]; (repeat' split) <;> first | contradiction | (simp only [nI_clamp (n := jx_6) (by omega), nI_clamp (n := jy_14) (by omega), nI_clamp (n := kk_22) (by omega)]; rfl) | simp_all, trivial⟩, hS.F htQ⟩) hS.2.2 dX12_best_61
            · skip
              have c_55 : ¬ kk_22 < 3 := fun q => c_55 ((nI_ltI (a := kk_22) (b := 3) (by omega) (by omega)).mpr q)
              refine lv_iconst (v := (-1)) hx hb dX12_best_44 (by decide) ?_
              refine lv_goto (tgt := 61) hx hb dX12_best_45 (by decide) ?_
              rw [hQ]
              exact W.iret (v := (-1)) hx hb hr (fun tQ htQ hWQ => ⟨⟨(-1), (), rfl, by simp only [f_best]; (repeat' split) <;> simp_all, trivial⟩, hS.F htQ⟩) hS.2.2 dX12_best_61
        · skip
          refine lv_if_ne (tgt := 38) hx hb dX12_best_32 (by decide) (fun c_66 => absurd c_66 (by decide)) (fun _ => ?_)
          refine lv_bipush (v := (-2)) hx hb dX12_best_35 (by decide) ?_
          rw [hQ]
          exact W.iret (v := (-2)) hx hb hr (fun tQ htQ hWQ => ⟨⟨(-2), (), rfl, by simp only [f_best]; (repeat' split) <;> simp_all, trivial⟩, hS.F htQ⟩) hS.2.2 dX12_best_37
      · skip
        refine lv_if_ne (tgt := 26) hx hb dX12_best_21 (by decide) (fun c_67 => absurd c_67 (by decide)) (fun _ => ?_)
        refine lv_iconst (v := (-1)) hx hb dX12_best_24 (by decide) ?_
        rw [hQ]
        exact W.iret (v := (-1)) hx hb hr (fun tQ htQ hWQ => ⟨⟨(-1), (), rfl, by simp only [f_best]; (repeat' split) <;> simp_all, trivial⟩, hS.F htQ⟩) hS.2.2 dX12_best_25
    · skip
      refine lv_if_eq (tgt := 24) hx hb dX12_best_11 (by decide) (fun _ => ?_) (fun c_68 => absurd c_68 (by decide))
      refine lv_iconst (v := (-1)) hx hb dX12_best_24 (by decide) ?_
      rw [hQ]
      exact W.iret (v := (-1)) hx hb hr (fun tQ htQ hWQ => ⟨⟨(-1), (), rfl, by simp only [f_best]; (repeat' split) <;> simp_all, trivial⟩, hS.F htQ⟩) hS.2.2 dX12_best_25
  · skip
    refine lv_if_eq (tgt := 24) hx hb dX12_best_4 (by decide) (fun _ => ?_) (fun c_69 => absurd c_69 (by decide))
    refine lv_iconst (v := (-1)) hx hb dX12_best_24 (by decide) ?_
    rw [hQ]
    exact W.iret (v := (-1)) hx hb hr (fun tQ htQ hWQ => ⟨⟨(-1), (), rfl, by simp only [f_best]; (repeat' split) <;> simp_all, trivial⟩, hS.F htQ⟩) hS.2.2 dX12_best_25

set_option maxHeartbeats 4000000 in
set_option maxRecDepth 100000 in
theorem c_mSafe (l : Launch) (dC : Nat → ClassId) (dI : Nat → Nat → Nat) (m0 aS aI aB aT aG aO aN aD aY : Nat) (bv : Int64) (cS cB cO cN cD : ClassId) (fB fD : Nat → Int32) (fO fN : Nat → Int64) (x n k : Int32) (sz : Nat) : Met l yX12_safe wsX12_safe ({ frames := 6, cells := 0, slots := 0, locals := 142 } : Room) (va_Pc [.ref m0, .int x, .int n, .int k] (fun U => U.heap.size = sz ∧ va_P (dC, dI) vwCl [(m0, .inr (14, [.int 0, .ref aS, .ref aI, .int 0, .int 0, .int 0, .int 0, .int 0, .int 0, .ref aB, .ref aT, .int 0, .int 0, .ref aG, .ref aO, .ref aN, .ref aD, .long bv, .ref aY, .int 0, .int 0, .int 0, .int 0])), (aS, .inl (cS, 901, .inl s0)), (aB, .inl (cB, 6, .inl fB)), (aO, .inl (cO, 36, .inr (.inl fO))), (aN, .inl (cN, 36, .inr (.inl fN))), (aD, .inl (cD, 36, .inl fD))] U.heap ∧ va_K (dC, dI) vwCl [(cS, .int), (cB, .int), (cO, .long), (cN, .long), (cD, .int)] U ∧ va_D (fun _ => True) [(m0, .inr (14, [.int 0, .ref aS, .ref aI, .int 0, .int 0, .int 0, .int 0, .int 0, .int 0, .ref aB, .ref aT, .int 0, .int 0, .ref aG, .ref aO, .ref aN, .ref aD, .long bv, .ref aY, .int 0, .int 0, .int 0, .int 0])), (aS, .inl (cS, 901, .inl s0)), (aB, .inl (cB, 6, .inl fB)), (aO, .inl (cO, 36, .inr (.inl fO))), (aN, .inl (cN, 36, .inr (.inl fN))), (aD, .inl (cD, 36, .inl fD))])) (va_Qi (fun (r : Int32) (u : Unit) => match u with | () => r = f_safe x n k) (fun (u : Unit) (t : State) => match u with | () => True) (va_A [(m0, .inr (14, [.int 0, .ref aS, .ref aI, .int 0, .int 0, .int 0, .int 0, .int 0, .int 0, .ref aB, .ref aT, .int 0, .int 0, .ref aG, .ref aO, .ref aN, .ref aD, .long bv, .ref aY, .int 0, .int 0, .int 0, .int 0])), (aS, .inl (cS, 901, .inl s0)), (aB, .inl (cB, 6, .inl fB)), (aO, .inl (cO, 36, .inr (.inl fO))), (aN, .inl (cN, 36, .inr (.inl fN))), (aD, .inl (cD, 36, .inl fD))] sz)) 0 0 (va_A [(m0, .inr (14, [.int 0, .ref aS, .ref aI, .int 0, .int 0, .int 0, .int 0, .int 0, .int 0, .ref aB, .ref aT, .int 0, .int 0, .ref aG, .ref aO, .ref aN, .ref aD, .long bv, .ref aY, .int 0, .int 0, .int 0, .int 0])), (aS, .inl (cS, 901, .inl s0)), (aB, .inl (cB, 6, .inl fB)), (aO, .inl (cO, 36, .inr (.inl fO))), (aN, .inl (cN, 36, .inr (.inl fN))), (aD, .inl (cD, 36, .inl fD))] sz) := by
  refine met_ofQ (cc := cX12_safe) (maxL := 4) (ret := (some .int)) (by decide) rfl ?_
  intro p e s m args below meth c s₁ Q B hml hv hQ
  obtain ⟨rfl, hsz, hP, hK, hD0⟩ := hv
  have hx := B.exec
  have hb := B.bytes
  have hr := B.returns
  have hts := atoms_spec (ws := wsX12_safe) B.pre
  have hown : s.vm.findClass RX12 = some m.cls := findClass_of_methodNamed B.named
  have hlocks := B.notSynchronized
  subst hsz
  have hD := hD0.self (sz := s.heap.size)
  generalize hAe : va_A [(m0, .inr (14, [.int 0, .ref aS, .ref aI, .int 0, .int 0, .int 0, .int 0, .int 0, .int 0, .ref aB, .ref aT, .int 0, .int 0, .ref aG, .ref aO, .ref aN, .ref aD, .long bv, .ref aY, .int 0, .int 0, .int 0, .int 0])), (aS, .inl (cS, 901, .inl s0)), (aB, .inl (cB, 6, .inl fB)), (aO, .inl (cO, 36, .inr (.inl fO))), (aN, .inl (cN, 36, .inr (.inl fN))), (aD, .inl (cD, 36, .inl fD))] s.heap.size = A at hD hQ ⊢
  have hA : ∀ q : Nat, s.heap.size ≤ q → A q := fun q h => by rw [← hAe]; exact Or.inr h
  have hS : va_S A s.heap s.heap [] := va_S.rf
  have hl := lv_entry [.ref m0, .int x, .int n, .int k] (n := 4) (Nat.le_of_ble_eq_true rfl)
  rw [lg_entry_eq]
  generalize (lg_sl [.ref m0, .int x, .int n, .int k] ++ List.replicate (4 - (lg_sl [.ref m0, .int x, .int n, .int k]).length) Slot.unset).toArray = ls at hl ⊢
  generalize hag : ([.ref m0, .int x, .int n, .int k] : List Value).toArray = args at hts hQ ⊢
  have hl : lv_has ls 4 [(0, .ref m0), (1, .int x), (2, .int n), (3, .int k)] := hl
  obtain ⟨H, hH⟩ : ∃ H : Heap, H = s.heap := ⟨_, rfl⟩
  rw [← hH] at hP
  rw [← hH]
  have hS : va_S A s.heap H [] := by rw [hH]; exact hS
  obtain ⟨locs, hlo⟩ : ∃ L : List Loc, L = [] := ⟨_, rfl⟩
  rw [← hlo] at hS
  rw [← hlo]
  clear hH hlo
  refine lv_iload_n hx hb dX12_safe_0 rfl (lv_at hl 1 rfl) ?_
  refine vp_callSi (va_runS (As := [.int x]) (rest := []) ⟨hx, hb, hml, hown, hts⟩ (c_mCell l dC dI x) (va_cwS 1 hts gX12_safe_X12_isCell rfl rfl rfl (by decide +kernel) ⟨Nat.le_of_ble_eq_true rfl, Nat.le_of_ble_eq_true rfl⟩) ⟨fun a U g mk q => ⟨q.1, trivial⟩, fun U hU hW => ⟨rfl, trivial⟩⟩ rfl rfl hl.1 rfl (lv_room (Nat.le_of_ble_eq_true rfl)) dX12_safe_1 ⟨Nat.le_of_ble_eq_true rfl, Nat.le_of_ble_eq_true rfl⟩).run (fun r_1 hw_2 => ?_)
  rcases hw_2 with ⟨rfl, h_3, h_4⟩ | ⟨rfl, h_5⟩
  · skip
    obtain ⟨jx_6, hj_7, rfl⟩ := in_of (n := 35) (M := 35) rfl h_3 h_4
    refine lv_if_eq (tgt := 16) hx hb dX12_safe_4 (by decide) (fun c_8 => absurd c_8 (by decide)) (fun _ => ?_)
    refine lv_iload_n hx hb dX12_safe_7 rfl (lv_at hl 3 rfl) ?_
    refine lv_iconst (v := 0) hx hb dX12_safe_8 (by decide) ?_
    refine lv_iconst (v := 2) hx hb dX12_safe_9 (by decide) ?_
    refine vp_callSi (va_runS (As := [.int k, .int 0, .int 2]) (rest := []) ⟨hx, hb, hml, hown, hts⟩ (c_in l dC dI k 0 2) (va_cwS 3 hts gX12_safe_X12_in rfl rfl rfl (by decide +kernel) ⟨Nat.le_of_ble_eq_true rfl, Nat.le_of_ble_eq_true rfl⟩) ⟨fun a U g mk q => ⟨q.1, trivial⟩, fun U hU hW => ⟨rfl, trivial⟩⟩ rfl rfl hl.1 rfl (lv_room (Nat.le_of_ble_eq_true rfl)) dX12_safe_10 ⟨Nat.le_of_ble_eq_true rfl, Nat.le_of_ble_eq_true rfl⟩).run (fun r_9 hw_10 => ?_)
    rcases hw_10 with ⟨rfl, h_11, h_12⟩ | ⟨rfl, h_13⟩
    · skip
      obtain ⟨kk_14, hj_15, rfl⟩ := in_of (n := 2) (M := 2) rfl h_11 h_12
      refine lv_if_ne (tgt := 18) hx hb dX12_safe_13 (by decide) (fun _ => ?_) (fun c_16 => absurd c_16 (by decide))
      refine lv_iload_n hx hb dX12_safe_18 rfl (lv_at hl 2 rfl) ?_
      refine lv_iconst (v := 1) hx hb dX12_safe_19 (by decide) ?_
      refine lv_iconst (v := 3) hx hb dX12_safe_20 (by decide) ?_
      refine vp_callSi (va_runS (As := [.int n, .int 1, .int 3]) (rest := []) ⟨hx, hb, hml, hown, hts⟩ (c_in l dC dI n 1 3) (va_cwS 3 hts gX12_safe_X12_in rfl rfl rfl (by decide +kernel) ⟨Nat.le_of_ble_eq_true rfl, Nat.le_of_ble_eq_true rfl⟩) ⟨fun a U g mk q => ⟨q.1, trivial⟩, fun U hU hW => ⟨rfl, trivial⟩⟩ rfl rfl hl.1 rfl (lv_room (Nat.le_of_ble_eq_true rfl)) dX12_safe_21 ⟨Nat.le_of_ble_eq_true rfl, Nat.le_of_ble_eq_true rfl⟩).run (fun r_17 hw_18 => ?_)
      rcases hw_18 with ⟨rfl, h_19, h_20⟩ | ⟨rfl, h_21⟩
      · skip
        rcases three h_19 h_20 with rfl | rfl | rfl
        · skip
          refine lv_if_ne (tgt := 30) hx hb dX12_safe_24 (by decide) (fun _ => ?_) (fun c_22 => absurd c_22 (by decide))
          refine lv_iload_n hx hb dX12_safe_30 rfl (lv_at hl 3 rfl) ?_
          refine lv_iload_n hx hb dX12_safe_31 rfl (lv_at hl 2 rfl) ?_
          refine lv_icmp_lt (tgt := 39) hx hb dX12_safe_32 (by decide) (fun c_23 => ?_) (fun c_23 => ?_)
          · skip
            have c_23 : kk_14 < 1 := (nI_ltI (a := kk_14) (b := 1) (by omega) (by omega)).mp c_23
            refine lv_aload_n hx hb dX12_safe_39 rfl (lv_at hl 0 rfl) ?_
            refine lv_iload_n hx hb dX12_safe_40 rfl (lv_at hl 1 rfl) ?_
            refine lv_iconst (v := (-1)) hx hb dX12_safe_41 (by decide) ?_
            refine lv_iload_n hx hb dX12_safe_42 rfl (lv_at hl 2 rfl) ?_
            have hPc := hP.sub (ws' := [(m0, .inr (14, [.int 0, .ref aS, .ref aI, .int 0, .int 0, .int 0, .int 0, .int 0, .int 0, .ref aB, .ref aT, .int 0, .int 0, .ref aG, .ref aO, .ref aN, .ref aD, .long bv, .ref aY, .int 0, .int 0, .int 0, .int 0])), (aS, .inl (cS, 901, .inl s0)), (aB, .inl (cB, 6, .inl fB)), (aO, .inl (cO, 36, .inr (.inl fO))), (aN, .inl (cN, 36, .inr (.inl fN))), (aD, .inl (cD, 36, .inl fD))]) [0, 1, 2, 3, 4, 5] rfl
            have hDc := hD.sub (ws' := [(m0, .inr (14, [.int 0, .ref aS, .ref aI, .int 0, .int 0, .int 0, .int 0, .int 0, .int 0, .ref aB, .ref aT, .int 0, .int 0, .ref aG, .ref aO, .ref aN, .ref aD, .long bv, .ref aY, .int 0, .int 0, .int 0, .int 0])), (aS, .inl (cS, 901, .inl s0)), (aB, .inl (cB, 6, .inl fB)), (aO, .inl (cO, 36, .inr (.inl fO))), (aN, .inl (cN, 36, .inr (.inl fN))), (aD, .inl (cD, 36, .inl fD))]) [0, 1, 2, 3, 4, 5] (by decide) rfl
            have hKc := hK.sub (tys' := [(cS, .int), (cB, .int), (cO, .long), (cN, .long), (cD, .int)]) [0, 1, 2, 3, 4] rfl
            have hFc := va_free (wc := [(m0, .inr (14, [.int 0, .ref aS, .ref aI, .int 0, .int 0, .int 0, .int 0, .int 0, .int 0, .ref aB, .ref aT, .int 0, .int 0, .ref aG, .ref aO, .ref aN, .ref aD, .long bv, .ref aY, .int 0, .int 0, .int 0, .int 0])), (aS, .inl (cS, 901, .inl s0)), (aB, .inl (cB, 6, .inl fB)), (aO, .inl (cO, 36, .inr (.inl fO))), (aN, .inl (cN, 36, .inr (.inl fN))), (aD, .inl (cD, 36, .inl fD))]) hD hS hA [0, 1, 2, 3, 4, 5] rfl
            refine va_calli (va_runV (As := [.int (nI jx_6), .int (-1), .int 1]) (rest := []) ⟨hx, hb, hml, hown, hts⟩ (c_safeRow1 l dC dI m0 aS aI aB aT aG aO aN aD aY bv cS cB cO cN cD fB fD fO fN jx_6 H.size (by omega)) (cwV 3 hts gX12_safe_X12_bestRow rfl rfl rfl (by decide +kernel) ⟨Nat.le_of_ble_eq_true rfl, Nat.le_of_ble_eq_true rfl⟩) ⟨fun a U g mk q => by obtain ⟨q0, q1, qP, qK, qD⟩ := q; exact ⟨q0, q1, qP, va_K.moved (u := U) (U := U.calling g mk a) (Vm.Alike.refl U.vm) qK, qD⟩, va_recv hK hP (ci := 14) (q0 := 0) rfl rfl, fun U hU hW => ⟨rfl, by rw [hU], by rw [hU]; exact hPc, va_K.moved hW.alike hKc, hDc.weaken (fun _ _ _ _ => trivial)⟩⟩ rfl rfl hl.1 rfl (lv_room (Nat.le_of_ble_eq_true rfl)) dX12_safe_43 ⟨Nat.le_of_ble_eq_true rfl, Nat.le_of_ble_eq_true rfl⟩) hS (fun q _ h => hFc q h) hFc (fun r_24 u tC H1 locs htC hvm hw_25 hB hz1 hk1 hS => ?_)
            obtain ⟨fB2_26, fO2_27, fN2_28, fD2_29, bv2_30⟩ := u
            try dsimp only at hw_25 hB
            obtain ⟨hP1, hK1, hD1⟩ := hB
            rw [htC] at hP1
            have hK1 := va_K.moved hvm.symm hK1
            obtain ⟨hP, hD⟩ := va_join (wr := []) (w1 := [(m0, .inr (14, [.int 0, .ref aS, .ref aI, .int 0, .int 0, .int 0, .int 0, .int 0, .int 0, .ref aB, .ref aT, .int 0, .int 0, .ref aG, .ref aO, .ref aN, .ref aD, .long bv2_30, .ref aY, .int 0, .int 0, .int 0, .int 0])), (aS, .inl (cS, 901, .inl s0)), (aB, .inl (cB, 6, .inl fB2_26)), (aO, .inl (cO, 36, .inr (.inl fO2_27))), (aN, .inl (cN, 36, .inr (.inl fN2_28))), (aD, .inl (cD, 36, .inl fD2_29))]) hP hD [0, 1, 2, 3, 4, 5] [] rfl rfl (by decide) (by decide) hk1 hFc hP1 hD1
            have hK := (hK.sub (tys' := []) [] rfl).app hK1
            generalize H1 = H at hP hS ⊢
            have hP : va_P (dC, dI) vwCl [(m0, .inr (14, [.int 0, .ref aS, .ref aI, .int 0, .int 0, .int 0, .int 0, .int 0, .int 0, .ref aB, .ref aT, .int 0, .int 0, .ref aG, .ref aO, .ref aN, .ref aD, .long bv2_30, .ref aY, .int 0, .int 0, .int 0, .int 0])), (aS, .inl (cS, 901, .inl s0)), (aB, .inl (cB, 6, .inl fB2_26)), (aO, .inl (cO, 36, .inr (.inl fO2_27))), (aN, .inl (cN, 36, .inr (.inl fN2_28))), (aD, .inl (cD, 36, .inl fD2_29))] H := hP
            have hD : va_D A [(m0, .inr (14, [.int 0, .ref aS, .ref aI, .int 0, .int 0, .int 0, .int 0, .int 0, .int 0, .ref aB, .ref aT, .int 0, .int 0, .ref aG, .ref aO, .ref aN, .ref aD, .long bv2_30, .ref aY, .int 0, .int 0, .int 0, .int 0])), (aS, .inl (cS, 901, .inl s0)), (aB, .inl (cB, 6, .inl fB2_26)), (aO, .inl (cO, 36, .inr (.inl fO2_27))), (aN, .inl (cN, 36, .inr (.inl fN2_28))), (aD, .inl (cD, 36, .inl fD2_29))] := hD
            have hK : va_K (dC, dI) vwCl [(cS, .int), (cB, .int), (cO, .long), (cN, .long), (cD, .int)] s := hK
            refine qi_as (y := nI (GG (fun _ : Nat => (0 : Int64)) 8).2) (hw_25.1) ?_
            have hb_31 : (GG (fun _ : Nat => (0 : Int64)) 8).2 < 8 := GG_lt _ _ (by omega)
            refine lv_iload_n hx hb dX12_safe_46 rfl (lv_at hl 2 rfl) ?_
            refine lv_iload_n hx hb dX12_safe_47 rfl (lv_at hl 3 rfl) ?_
            refine vp_callSi (va_runS (As := [.int (nI ((GG (fun _ : Nat => (0 : Int64)) 8).2)), .int 1, .int (nI kk_14)]) (rest := []) ⟨hx, hb, hml, hown, hts⟩ (c_wayOf l dC dI (GG (fun _ : Nat => (0 : Int64)) 8).2 1 kk_14 (by omega) (by omega) (by omega)) (va_cwS 3 hts gX12_safe_X12_wayOf rfl rfl rfl (by decide +kernel) ⟨Nat.le_of_ble_eq_true rfl, Nat.le_of_ble_eq_true rfl⟩) ⟨fun a U g mk q => ⟨q.1, trivial⟩, fun U hU hW => ⟨rfl, trivial⟩⟩ rfl rfl hl.1 rfl (lv_room (Nat.le_of_ble_eq_true rfl)) dX12_safe_48 ⟨Nat.le_of_ble_eq_true rfl, Nat.le_of_ble_eq_true rfl⟩).run (fun r_32 hw_33 => ?_)
            rw [hQ]
            exact W.iret (v := r_32) hx hb hr (fun tQ htQ hWQ => ⟨⟨r_32, (), rfl, by rw [hw_33]; simp only [f_safe]; (repeat' split) <;> first | contradiction | (simp only [nI_clamp (n := jx_6) (by omega), nI_clamp (n := kk_14) (by omega)]; rfl) | simp_all, trivial⟩, hS.F htQ⟩) hS.2.2 dX12_safe_51
          · skip
            have c_23 : ¬ kk_14 < 1 := fun q => c_23 ((nI_ltI (a := kk_14) (b := 1) (by omega) (by omega)).mpr q)
            refine lv_iconst (v := (-1)) hx hb dX12_safe_35 (by decide) ?_
            refine lv_goto (tgt := 51) hx hb dX12_safe_36 (by decide) ?_
            rw [hQ]
            exact W.iret (v := (-1)) hx hb hr (fun tQ htQ hWQ => ⟨⟨(-1), (), rfl, by simp only [f_safe]; (repeat' split) <;> simp_all, trivial⟩, hS.F htQ⟩) hS.2.2 dX12_safe_51
        · skip
          refine lv_if_ne (tgt := 30) hx hb dX12_safe_24 (by decide) (fun _ => ?_) (fun c_34 => absurd c_34 (by decide))
          refine lv_iload_n hx hb dX12_safe_30 rfl (lv_at hl 3 rfl) ?_
          refine lv_iload_n hx hb dX12_safe_31 rfl (lv_at hl 2 rfl) ?_
          refine lv_icmp_lt (tgt := 39) hx hb dX12_safe_32 (by decide) (fun c_35 => ?_) (fun c_35 => ?_)
          · skip
            have c_35 : kk_14 < 2 := (nI_ltI (a := kk_14) (b := 2) (by omega) (by omega)).mp c_35
            refine lv_aload_n hx hb dX12_safe_39 rfl (lv_at hl 0 rfl) ?_
            refine lv_iload_n hx hb dX12_safe_40 rfl (lv_at hl 1 rfl) ?_
            refine lv_iconst (v := (-1)) hx hb dX12_safe_41 (by decide) ?_
            refine lv_iload_n hx hb dX12_safe_42 rfl (lv_at hl 2 rfl) ?_
            have hPc := hP.sub (ws' := [(m0, .inr (14, [.int 0, .ref aS, .ref aI, .int 0, .int 0, .int 0, .int 0, .int 0, .int 0, .ref aB, .ref aT, .int 0, .int 0, .ref aG, .ref aO, .ref aN, .ref aD, .long bv, .ref aY, .int 0, .int 0, .int 0, .int 0])), (aS, .inl (cS, 901, .inl s0)), (aB, .inl (cB, 6, .inl fB)), (aO, .inl (cO, 36, .inr (.inl fO))), (aN, .inl (cN, 36, .inr (.inl fN))), (aD, .inl (cD, 36, .inl fD))]) [0, 1, 2, 3, 4, 5] rfl
            have hDc := hD.sub (ws' := [(m0, .inr (14, [.int 0, .ref aS, .ref aI, .int 0, .int 0, .int 0, .int 0, .int 0, .int 0, .ref aB, .ref aT, .int 0, .int 0, .ref aG, .ref aO, .ref aN, .ref aD, .long bv, .ref aY, .int 0, .int 0, .int 0, .int 0])), (aS, .inl (cS, 901, .inl s0)), (aB, .inl (cB, 6, .inl fB)), (aO, .inl (cO, 36, .inr (.inl fO))), (aN, .inl (cN, 36, .inr (.inl fN))), (aD, .inl (cD, 36, .inl fD))]) [0, 1, 2, 3, 4, 5] (by decide) rfl
            have hKc := hK.sub (tys' := [(cS, .int), (cB, .int), (cO, .long), (cN, .long), (cD, .int)]) [0, 1, 2, 3, 4] rfl
            have hFc := va_free (wc := [(m0, .inr (14, [.int 0, .ref aS, .ref aI, .int 0, .int 0, .int 0, .int 0, .int 0, .int 0, .ref aB, .ref aT, .int 0, .int 0, .ref aG, .ref aO, .ref aN, .ref aD, .long bv, .ref aY, .int 0, .int 0, .int 0, .int 0])), (aS, .inl (cS, 901, .inl s0)), (aB, .inl (cB, 6, .inl fB)), (aO, .inl (cO, 36, .inr (.inl fO))), (aN, .inl (cN, 36, .inr (.inl fN))), (aD, .inl (cD, 36, .inl fD))]) hD hS hA [0, 1, 2, 3, 4, 5] rfl
            refine va_calli (va_runV (As := [.int (nI jx_6), .int (-1), .int 2]) (rest := []) ⟨hx, hb, hml, hown, hts⟩ (c_safeRow2 l dC dI m0 aS aI aB aT aG aO aN aD aY bv cS cB cO cN cD fB fD fO fN jx_6 H.size (by omega)) (cwV 3 hts gX12_safe_X12_bestRow rfl rfl rfl (by decide +kernel) ⟨Nat.le_of_ble_eq_true rfl, Nat.le_of_ble_eq_true rfl⟩) ⟨fun a U g mk q => by obtain ⟨q0, q1, qP, qK, qD⟩ := q; exact ⟨q0, q1, qP, va_K.moved (u := U) (U := U.calling g mk a) (Vm.Alike.refl U.vm) qK, qD⟩, va_recv hK hP (ci := 14) (q0 := 0) rfl rfl, fun U hU hW => ⟨rfl, by rw [hU], by rw [hU]; exact hPc, va_K.moved hW.alike hKc, hDc.weaken (fun _ _ _ _ => trivial)⟩⟩ rfl rfl hl.1 rfl (lv_room (Nat.le_of_ble_eq_true rfl)) dX12_safe_43 ⟨Nat.le_of_ble_eq_true rfl, Nat.le_of_ble_eq_true rfl⟩) hS (fun q _ h => hFc q h) hFc (fun r_36 u tC H1 locs htC hvm hw_37 hB hz1 hk1 hS => ?_)
            obtain ⟨fB2_38, fO2_39, fN2_40, fD2_41, bv2_42⟩ := u
            try dsimp only at hw_37 hB
            obtain ⟨hP1, hK1, hD1⟩ := hB
            rw [htC] at hP1
            have hK1 := va_K.moved hvm.symm hK1
            obtain ⟨hP, hD⟩ := va_join (wr := []) (w1 := [(m0, .inr (14, [.int 0, .ref aS, .ref aI, .int 0, .int 0, .int 0, .int 0, .int 0, .int 0, .ref aB, .ref aT, .int 0, .int 0, .ref aG, .ref aO, .ref aN, .ref aD, .long bv2_42, .ref aY, .int 0, .int 0, .int 0, .int 0])), (aS, .inl (cS, 901, .inl s0)), (aB, .inl (cB, 6, .inl fB2_38)), (aO, .inl (cO, 36, .inr (.inl fO2_39))), (aN, .inl (cN, 36, .inr (.inl fN2_40))), (aD, .inl (cD, 36, .inl fD2_41))]) hP hD [0, 1, 2, 3, 4, 5] [] rfl rfl (by decide) (by decide) hk1 hFc hP1 hD1
            have hK := (hK.sub (tys' := []) [] rfl).app hK1
            generalize H1 = H at hP hS ⊢
            have hP : va_P (dC, dI) vwCl [(m0, .inr (14, [.int 0, .ref aS, .ref aI, .int 0, .int 0, .int 0, .int 0, .int 0, .int 0, .ref aB, .ref aT, .int 0, .int 0, .ref aG, .ref aO, .ref aN, .ref aD, .long bv2_42, .ref aY, .int 0, .int 0, .int 0, .int 0])), (aS, .inl (cS, 901, .inl s0)), (aB, .inl (cB, 6, .inl fB2_38)), (aO, .inl (cO, 36, .inr (.inl fO2_39))), (aN, .inl (cN, 36, .inr (.inl fN2_40))), (aD, .inl (cD, 36, .inl fD2_41))] H := hP
            have hD : va_D A [(m0, .inr (14, [.int 0, .ref aS, .ref aI, .int 0, .int 0, .int 0, .int 0, .int 0, .int 0, .ref aB, .ref aT, .int 0, .int 0, .ref aG, .ref aO, .ref aN, .ref aD, .long bv2_42, .ref aY, .int 0, .int 0, .int 0, .int 0])), (aS, .inl (cS, 901, .inl s0)), (aB, .inl (cB, 6, .inl fB2_38)), (aO, .inl (cO, 36, .inr (.inl fO2_39))), (aN, .inl (cN, 36, .inr (.inl fN2_40))), (aD, .inl (cD, 36, .inl fD2_41))] := hD
            have hK : va_K (dC, dI) vwCl [(cS, .int), (cB, .int), (cO, .long), (cN, .long), (cD, .int)] s := hK
            refine qi_as (y := nI (GG (fun _ : Nat => (0 : Int64)) 64).2) (hw_37.1) ?_
            have hb_43 : (GG (fun _ : Nat => (0 : Int64)) 64).2 < 64 := GG_lt _ _ (by omega)
            refine lv_iload_n hx hb dX12_safe_46 rfl (lv_at hl 2 rfl) ?_
            refine lv_iload_n hx hb dX12_safe_47 rfl (lv_at hl 3 rfl) ?_
            refine vp_callSi (va_runS (As := [.int (nI ((GG (fun _ : Nat => (0 : Int64)) 64).2)), .int 2, .int (nI kk_14)]) (rest := []) ⟨hx, hb, hml, hown, hts⟩ (c_wayOf l dC dI (GG (fun _ : Nat => (0 : Int64)) 64).2 2 kk_14 (by omega) (by omega) (by omega)) (va_cwS 3 hts gX12_safe_X12_wayOf rfl rfl rfl (by decide +kernel) ⟨Nat.le_of_ble_eq_true rfl, Nat.le_of_ble_eq_true rfl⟩) ⟨fun a U g mk q => ⟨q.1, trivial⟩, fun U hU hW => ⟨rfl, trivial⟩⟩ rfl rfl hl.1 rfl (lv_room (Nat.le_of_ble_eq_true rfl)) dX12_safe_48 ⟨Nat.le_of_ble_eq_true rfl, Nat.le_of_ble_eq_true rfl⟩).run (fun r_44 hw_45 => ?_)
            rw [hQ]
            exact W.iret (v := r_44) hx hb hr (fun tQ htQ hWQ => ⟨⟨r_44, (), rfl, by rw [hw_45]; simp only [f_safe]; (repeat' split) <;> first | contradiction | (simp only [nI_clamp (n := jx_6) (by omega), nI_clamp (n := kk_14) (by omega)]; rfl) | simp_all, trivial⟩, hS.F htQ⟩) hS.2.2 dX12_safe_51
          · skip
            have c_35 : ¬ kk_14 < 2 := fun q => c_35 ((nI_ltI (a := kk_14) (b := 2) (by omega) (by omega)).mpr q)
            refine lv_iconst (v := (-1)) hx hb dX12_safe_35 (by decide) ?_
            refine lv_goto (tgt := 51) hx hb dX12_safe_36 (by decide) ?_
            rw [hQ]
            exact W.iret (v := (-1)) hx hb hr (fun tQ htQ hWQ => ⟨⟨(-1), (), rfl, by simp only [f_safe]; (repeat' split) <;> simp_all, trivial⟩, hS.F htQ⟩) hS.2.2 dX12_safe_51
        · skip
          refine lv_if_ne (tgt := 30) hx hb dX12_safe_24 (by decide) (fun _ => ?_) (fun c_46 => absurd c_46 (by decide))
          refine lv_iload_n hx hb dX12_safe_30 rfl (lv_at hl 3 rfl) ?_
          refine lv_iload_n hx hb dX12_safe_31 rfl (lv_at hl 2 rfl) ?_
          refine lv_icmp_lt (tgt := 39) hx hb dX12_safe_32 (by decide) (fun c_47 => ?_) (fun c_47 => ?_)
          · skip
            have c_47 : kk_14 < 3 := (nI_ltI (a := kk_14) (b := 3) (by omega) (by omega)).mp c_47
            refine lv_aload_n hx hb dX12_safe_39 rfl (lv_at hl 0 rfl) ?_
            refine lv_iload_n hx hb dX12_safe_40 rfl (lv_at hl 1 rfl) ?_
            refine lv_iconst (v := (-1)) hx hb dX12_safe_41 (by decide) ?_
            refine lv_iload_n hx hb dX12_safe_42 rfl (lv_at hl 2 rfl) ?_
            have hPc := hP.sub (ws' := [(m0, .inr (14, [.int 0, .ref aS, .ref aI, .int 0, .int 0, .int 0, .int 0, .int 0, .int 0, .ref aB, .ref aT, .int 0, .int 0, .ref aG, .ref aO, .ref aN, .ref aD, .long bv, .ref aY, .int 0, .int 0, .int 0, .int 0])), (aS, .inl (cS, 901, .inl s0)), (aB, .inl (cB, 6, .inl fB)), (aO, .inl (cO, 36, .inr (.inl fO))), (aN, .inl (cN, 36, .inr (.inl fN))), (aD, .inl (cD, 36, .inl fD))]) [0, 1, 2, 3, 4, 5] rfl
            have hDc := hD.sub (ws' := [(m0, .inr (14, [.int 0, .ref aS, .ref aI, .int 0, .int 0, .int 0, .int 0, .int 0, .int 0, .ref aB, .ref aT, .int 0, .int 0, .ref aG, .ref aO, .ref aN, .ref aD, .long bv, .ref aY, .int 0, .int 0, .int 0, .int 0])), (aS, .inl (cS, 901, .inl s0)), (aB, .inl (cB, 6, .inl fB)), (aO, .inl (cO, 36, .inr (.inl fO))), (aN, .inl (cN, 36, .inr (.inl fN))), (aD, .inl (cD, 36, .inl fD))]) [0, 1, 2, 3, 4, 5] (by decide) rfl
            have hKc := hK.sub (tys' := [(cS, .int), (cB, .int), (cO, .long), (cN, .long), (cD, .int)]) [0, 1, 2, 3, 4] rfl
            have hFc := va_free (wc := [(m0, .inr (14, [.int 0, .ref aS, .ref aI, .int 0, .int 0, .int 0, .int 0, .int 0, .int 0, .ref aB, .ref aT, .int 0, .int 0, .ref aG, .ref aO, .ref aN, .ref aD, .long bv, .ref aY, .int 0, .int 0, .int 0, .int 0])), (aS, .inl (cS, 901, .inl s0)), (aB, .inl (cB, 6, .inl fB)), (aO, .inl (cO, 36, .inr (.inl fO))), (aN, .inl (cN, 36, .inr (.inl fN))), (aD, .inl (cD, 36, .inl fD))]) hD hS hA [0, 1, 2, 3, 4, 5] rfl
            refine va_calli (va_runV (As := [.int (nI jx_6), .int (-1), .int 3]) (rest := []) ⟨hx, hb, hml, hown, hts⟩ (c_safeRow3 l dC dI m0 aS aI aB aT aG aO aN aD aY bv cS cB cO cN cD fB fD fO fN jx_6 H.size (by omega)) (cwV 3 hts gX12_safe_X12_bestRow rfl rfl rfl (by decide +kernel) ⟨Nat.le_of_ble_eq_true rfl, Nat.le_of_ble_eq_true rfl⟩) ⟨fun a U g mk q => by obtain ⟨q0, q1, qP, qK, qD⟩ := q; exact ⟨q0, q1, qP, va_K.moved (u := U) (U := U.calling g mk a) (Vm.Alike.refl U.vm) qK, qD⟩, va_recv hK hP (ci := 14) (q0 := 0) rfl rfl, fun U hU hW => ⟨rfl, by rw [hU], by rw [hU]; exact hPc, va_K.moved hW.alike hKc, hDc.weaken (fun _ _ _ _ => trivial)⟩⟩ rfl rfl hl.1 rfl (lv_room (Nat.le_of_ble_eq_true rfl)) dX12_safe_43 ⟨Nat.le_of_ble_eq_true rfl, Nat.le_of_ble_eq_true rfl⟩) hS (fun q _ h => hFc q h) hFc (fun r_48 u tC H1 locs htC hvm hw_49 hB hz1 hk1 hS => ?_)
            obtain ⟨fB2_50, fO2_51, fN2_52, fD2_53, bv2_54⟩ := u
            try dsimp only at hw_49 hB
            obtain ⟨hP1, hK1, hD1⟩ := hB
            rw [htC] at hP1
            have hK1 := va_K.moved hvm.symm hK1
            obtain ⟨hP, hD⟩ := va_join (wr := []) (w1 := [(m0, .inr (14, [.int 0, .ref aS, .ref aI, .int 0, .int 0, .int 0, .int 0, .int 0, .int 0, .ref aB, .ref aT, .int 0, .int 0, .ref aG, .ref aO, .ref aN, .ref aD, .long bv2_54, .ref aY, .int 0, .int 0, .int 0, .int 0])), (aS, .inl (cS, 901, .inl s0)), (aB, .inl (cB, 6, .inl fB2_50)), (aO, .inl (cO, 36, .inr (.inl fO2_51))), (aN, .inl (cN, 36, .inr (.inl fN2_52))), (aD, .inl (cD, 36, .inl fD2_53))]) hP hD [0, 1, 2, 3, 4, 5] [] rfl rfl (by decide) (by decide) hk1 hFc hP1 hD1
            have hK := (hK.sub (tys' := []) [] rfl).app hK1
            generalize H1 = H at hP hS ⊢
            have hP : va_P (dC, dI) vwCl [(m0, .inr (14, [.int 0, .ref aS, .ref aI, .int 0, .int 0, .int 0, .int 0, .int 0, .int 0, .ref aB, .ref aT, .int 0, .int 0, .ref aG, .ref aO, .ref aN, .ref aD, .long bv2_54, .ref aY, .int 0, .int 0, .int 0, .int 0])), (aS, .inl (cS, 901, .inl s0)), (aB, .inl (cB, 6, .inl fB2_50)), (aO, .inl (cO, 36, .inr (.inl fO2_51))), (aN, .inl (cN, 36, .inr (.inl fN2_52))), (aD, .inl (cD, 36, .inl fD2_53))] H := hP
            have hD : va_D A [(m0, .inr (14, [.int 0, .ref aS, .ref aI, .int 0, .int 0, .int 0, .int 0, .int 0, .int 0, .ref aB, .ref aT, .int 0, .int 0, .ref aG, .ref aO, .ref aN, .ref aD, .long bv2_54, .ref aY, .int 0, .int 0, .int 0, .int 0])), (aS, .inl (cS, 901, .inl s0)), (aB, .inl (cB, 6, .inl fB2_50)), (aO, .inl (cO, 36, .inr (.inl fO2_51))), (aN, .inl (cN, 36, .inr (.inl fN2_52))), (aD, .inl (cD, 36, .inl fD2_53))] := hD
            have hK : va_K (dC, dI) vwCl [(cS, .int), (cB, .int), (cO, .long), (cN, .long), (cD, .int)] s := hK
            refine qi_as (y := nI (GG (fun _ : Nat => (0 : Int64)) 512).2) (hw_49.1) ?_
            have hb_55 : (GG (fun _ : Nat => (0 : Int64)) 512).2 < 512 := GG_lt _ _ (by omega)
            refine lv_iload_n hx hb dX12_safe_46 rfl (lv_at hl 2 rfl) ?_
            refine lv_iload_n hx hb dX12_safe_47 rfl (lv_at hl 3 rfl) ?_
            refine vp_callSi (va_runS (As := [.int (nI ((GG (fun _ : Nat => (0 : Int64)) 512).2)), .int 3, .int (nI kk_14)]) (rest := []) ⟨hx, hb, hml, hown, hts⟩ (c_wayOf l dC dI (GG (fun _ : Nat => (0 : Int64)) 512).2 3 kk_14 (by omega) (by omega) (by omega)) (va_cwS 3 hts gX12_safe_X12_wayOf rfl rfl rfl (by decide +kernel) ⟨Nat.le_of_ble_eq_true rfl, Nat.le_of_ble_eq_true rfl⟩) ⟨fun a U g mk q => ⟨q.1, trivial⟩, fun U hU hW => ⟨rfl, trivial⟩⟩ rfl rfl hl.1 rfl (lv_room (Nat.le_of_ble_eq_true rfl)) dX12_safe_48 ⟨Nat.le_of_ble_eq_true rfl, Nat.le_of_ble_eq_true rfl⟩).run (fun r_56 hw_57 => ?_)
            rw [hQ]
            exact W.iret (v := r_56) hx hb hr (fun tQ htQ hWQ => ⟨⟨r_56, (), rfl, by rw [hw_57]; simp only [f_safe]; (repeat' split) <;> first | contradiction | (simp only [nI_clamp (n := jx_6) (by omega), nI_clamp (n := kk_14) (by omega)]; rfl) | simp_all, trivial⟩, hS.F htQ⟩) hS.2.2 dX12_safe_51
          · skip
            have c_47 : ¬ kk_14 < 3 := fun q => c_47 ((nI_ltI (a := kk_14) (b := 3) (by omega) (by omega)).mpr q)
            refine lv_iconst (v := (-1)) hx hb dX12_safe_35 (by decide) ?_
            refine lv_goto (tgt := 51) hx hb dX12_safe_36 (by decide) ?_
            rw [hQ]
            exact W.iret (v := (-1)) hx hb hr (fun tQ htQ hWQ => ⟨⟨(-1), (), rfl, by simp only [f_safe]; (repeat' split) <;> simp_all, trivial⟩, hS.F htQ⟩) hS.2.2 dX12_safe_51
      · skip
        refine lv_if_ne (tgt := 30) hx hb dX12_safe_24 (by decide) (fun c_58 => absurd c_58 (by decide)) (fun _ => ?_)
        refine lv_bipush (v := (-2)) hx hb dX12_safe_27 (by decide) ?_
        rw [hQ]
        exact W.iret (v := (-2)) hx hb hr (fun tQ htQ hWQ => ⟨⟨(-2), (), rfl, by simp only [f_safe]; (repeat' split) <;> simp_all, trivial⟩, hS.F htQ⟩) hS.2.2 dX12_safe_29
    · skip
      refine lv_if_ne (tgt := 18) hx hb dX12_safe_13 (by decide) (fun c_59 => absurd c_59 (by decide)) (fun _ => ?_)
      refine lv_iconst (v := (-1)) hx hb dX12_safe_16 (by decide) ?_
      rw [hQ]
      exact W.iret (v := (-1)) hx hb hr (fun tQ htQ hWQ => ⟨⟨(-1), (), rfl, by simp only [f_safe]; (repeat' split) <;> simp_all, trivial⟩, hS.F htQ⟩) hS.2.2 dX12_safe_17
  · skip
    refine lv_if_eq (tgt := 16) hx hb dX12_safe_4 (by decide) (fun _ => ?_) (fun c_60 => absurd c_60 (by decide))
    refine lv_iconst (v := (-1)) hx hb dX12_safe_16 (by decide) ?_
    rw [hQ]
    exact W.iret (v := (-1)) hx hb hr (fun tQ htQ hWQ => ⟨⟨(-1), (), rfl, by simp only [f_safe]; (repeat' split) <;> simp_all, trivial⟩, hS.F htQ⟩) hS.2.2 dX12_safe_17

theorem kc_mBestOdds_0 : ∀ w ∈ wsX120, w ∈ wsX12_bestOdds := by decide +kernel
theorem kc_mBestOdds_1 : (.fieldLink RX12 236 "MistHeapsModel" "bestOften" "J" : Cond) ∈ wsX12_bestOdds := by decide +kernel
theorem kc_mBestOdds_2 : (.constantLong RX12 181 (-9223372036854775808) : Cond) ∈ wsX12_bestOdds := by decide +kernel
set_option maxHeartbeats 4000000 in
set_option maxRecDepth 100000 in
theorem c_mBestOdds (l : Launch) (dC : Nat → ClassId) (dI : Nat → Nat → Nat) (m0 aS aI aB aT aG aO aN aD aY : Nat) (bv : Int64) (cS cB cO cN cD : ClassId) (fB fD : Nat → Int32) (fO fN : Nat → Int64) (x y n z : Int32) (sz : Nat) : Met l yX12_bestOdds wsX12_bestOdds ({ frames := 6, cells := 0, slots := 0, locals := 142 } : Room) (va_Pc [.ref m0, .int x, .int y, .int n, .int z] (fun U => U.heap.size = sz ∧ va_P (dC, dI) vwCl [(m0, .inr (14, [.int 0, .ref aS, .ref aI, .int 0, .int 0, .int 0, .int 0, .int 0, .int 0, .ref aB, .ref aT, .int 0, .int 0, .ref aG, .ref aO, .ref aN, .ref aD, .long bv, .ref aY, .int 0, .int 0, .int 0, .int 0])), (aS, .inl (cS, 901, .inl s0)), (aB, .inl (cB, 6, .inl fB)), (aO, .inl (cO, 36, .inr (.inl fO))), (aN, .inl (cN, 36, .inr (.inl fN))), (aD, .inl (cD, 36, .inl fD))] U.heap ∧ va_K (dC, dI) vwCl [(cS, .int), (cB, .int), (cO, .long), (cN, .long), (cD, .int)] U ∧ va_D (fun _ => True) [(m0, .inr (14, [.int 0, .ref aS, .ref aI, .int 0, .int 0, .int 0, .int 0, .int 0, .int 0, .ref aB, .ref aT, .int 0, .int 0, .ref aG, .ref aO, .ref aN, .ref aD, .long bv, .ref aY, .int 0, .int 0, .int 0, .int 0])), (aS, .inl (cS, 901, .inl s0)), (aB, .inl (cB, 6, .inl fB)), (aO, .inl (cO, 36, .inr (.inl fO))), (aN, .inl (cN, 36, .inr (.inl fN))), (aD, .inl (cD, 36, .inl fD))])) (va_Ql (fun (r : Int64) (u : Unit) => match u with | () => r = f_bestOdds x y n z) (fun (u : Unit) (t : State) => match u with | () => True) (va_A [(m0, .inr (14, [.int 0, .ref aS, .ref aI, .int 0, .int 0, .int 0, .int 0, .int 0, .int 0, .ref aB, .ref aT, .int 0, .int 0, .ref aG, .ref aO, .ref aN, .ref aD, .long bv, .ref aY, .int 0, .int 0, .int 0, .int 0])), (aS, .inl (cS, 901, .inl s0)), (aB, .inl (cB, 6, .inl fB)), (aO, .inl (cO, 36, .inr (.inl fO))), (aN, .inl (cN, 36, .inr (.inl fN))), (aD, .inl (cD, 36, .inl fD))] sz)) 0 0 (va_A [(m0, .inr (14, [.int 0, .ref aS, .ref aI, .int 0, .int 0, .int 0, .int 0, .int 0, .int 0, .ref aB, .ref aT, .int 0, .int 0, .ref aG, .ref aO, .ref aN, .ref aD, .long bv, .ref aY, .int 0, .int 0, .int 0, .int 0])), (aS, .inl (cS, 901, .inl s0)), (aB, .inl (cB, 6, .inl fB)), (aO, .inl (cO, 36, .inr (.inl fO))), (aN, .inl (cN, 36, .inr (.inl fN))), (aD, .inl (cD, 36, .inl fD))] sz) := by
  refine met_ofQ (cc := cX12_bestOdds) (maxL := 6) (ret := (some .long)) (by decide) rfl ?_
  intro p e s m args below meth c s₁ Q B hml hv hQ
  obtain ⟨rfl, hsz, hP, hK, hD0⟩ := hv
  have hx := B.exec
  have hb := B.bytes
  have hr := B.returns
  have hts := atoms_spec (ws := wsX12_bestOdds) B.pre
  have hown : s.vm.findClass RX12 = some m.cls := findClass_of_methodNamed B.named
  have hlocks := B.notSynchronized
  subst hsz
  have hD := hD0.self (sz := s.heap.size)
  generalize hAe : va_A [(m0, .inr (14, [.int 0, .ref aS, .ref aI, .int 0, .int 0, .int 0, .int 0, .int 0, .int 0, .ref aB, .ref aT, .int 0, .int 0, .ref aG, .ref aO, .ref aN, .ref aD, .long bv, .ref aY, .int 0, .int 0, .int 0, .int 0])), (aS, .inl (cS, 901, .inl s0)), (aB, .inl (cB, 6, .inl fB)), (aO, .inl (cO, 36, .inr (.inl fO))), (aN, .inl (cN, 36, .inr (.inl fN))), (aD, .inl (cD, 36, .inl fD))] s.heap.size = A at hD hQ ⊢
  have hA : ∀ q : Nat, s.heap.size ≤ q → A q := fun q h => by rw [← hAe]; exact Or.inr h
  have hS : va_S A s.heap s.heap [] := va_S.rf
  have hl := lv_entry [.ref m0, .int x, .int y, .int n, .int z] (n := 6) (Nat.le_of_ble_eq_true rfl)
  rw [lg_entry_eq]
  generalize (lg_sl [.ref m0, .int x, .int y, .int n, .int z] ++ List.replicate (6 - (lg_sl [.ref m0, .int x, .int y, .int n, .int z]).length) Slot.unset).toArray = ls at hl ⊢
  generalize hag : ([.ref m0, .int x, .int y, .int n, .int z] : List Value).toArray = args at hts hQ ⊢
  have hl : lv_has ls 6 [(0, .ref m0), (1, .int x), (2, .int y), (3, .int n), (4, .int z)] := hl
  obtain ⟨H, hH⟩ : ∃ H : Heap, H = s.heap := ⟨_, rfl⟩
  rw [← hH] at hP
  rw [← hH]
  have hS : va_S A s.heap H [] := by rw [hH]; exact hS
  obtain ⟨locs, hlo⟩ : ∃ L : List Loc, L = [] := ⟨_, rfl⟩
  rw [← hlo] at hS
  rw [← hlo]
  clear hH hlo
  refine lv_iload_n hx hb dX12_bestOdds_0 rfl (lv_at hl 1 rfl) ?_
  refine vp_callSi (va_runS (As := [.int x]) (rest := []) ⟨hx, hb, hml, hown, hts⟩ (c_mCell l dC dI x) (va_cwS 1 hts gX12_bestOdds_X12_isCell rfl rfl rfl (by decide +kernel) ⟨Nat.le_of_ble_eq_true rfl, Nat.le_of_ble_eq_true rfl⟩) ⟨fun a U g mk q => ⟨q.1, trivial⟩, fun U hU hW => ⟨rfl, trivial⟩⟩ rfl rfl hl.1 rfl (lv_room (Nat.le_of_ble_eq_true rfl)) dX12_bestOdds_1 ⟨Nat.le_of_ble_eq_true rfl, Nat.le_of_ble_eq_true rfl⟩).run (fun r_1 hw_2 => ?_)
  rcases hw_2 with ⟨rfl, h_3, h_4⟩ | ⟨rfl, h_5⟩
  · skip
    obtain ⟨jx_6, hj_7, rfl⟩ := in_of (n := 35) (M := 35) rfl h_3 h_4
    refine lv_if_eq (tgt := 33) hx hb dX12_bestOdds_4 (by decide) (fun c_8 => absurd c_8 (by decide)) (fun _ => ?_)
    refine lv_iload_n hx hb dX12_bestOdds_7 rfl (lv_at hl 2 rfl) ?_
    refine vp_callSi (va_runS (As := [.int y]) (rest := []) ⟨hx, hb, hml, hown, hts⟩ (c_mCell l dC dI y) (va_cwS 1 hts gX12_bestOdds_X12_isCell rfl rfl rfl (by decide +kernel) ⟨Nat.le_of_ble_eq_true rfl, Nat.le_of_ble_eq_true rfl⟩) ⟨fun a U g mk q => ⟨q.1, trivial⟩, fun U hU hW => ⟨rfl, trivial⟩⟩ rfl rfl hl.1 rfl (lv_room (Nat.le_of_ble_eq_true rfl)) dX12_bestOdds_8 ⟨Nat.le_of_ble_eq_true rfl, Nat.le_of_ble_eq_true rfl⟩).run (fun r_9 hw_10 => ?_)
    rcases hw_10 with ⟨rfl, h_11, h_12⟩ | ⟨rfl, h_13⟩
    · skip
      obtain ⟨jy_14, hj_15, rfl⟩ := in_of (n := 35) (M := 35) rfl h_11 h_12
      refine lv_if_eq (tgt := 33) hx hb dX12_bestOdds_11 (by decide) (fun c_16 => absurd c_16 (by decide)) (fun _ => ?_)
      refine lv_iload_n hx hb dX12_bestOdds_14 rfl (lv_at hl 3 rfl) ?_
      refine lv_iconst (v := 1) hx hb dX12_bestOdds_15 (by decide) ?_
      refine lv_iconst (v := 3) hx hb dX12_bestOdds_16 (by decide) ?_
      refine vp_callSi (va_runS (As := [.int n, .int 1, .int 3]) (rest := []) ⟨hx, hb, hml, hown, hts⟩ (c_in l dC dI n 1 3) (va_cwS 3 hts gX12_bestOdds_X12_in rfl rfl rfl (by decide +kernel) ⟨Nat.le_of_ble_eq_true rfl, Nat.le_of_ble_eq_true rfl⟩) ⟨fun a U g mk q => ⟨q.1, trivial⟩, fun U hU hW => ⟨rfl, trivial⟩⟩ rfl rfl hl.1 rfl (lv_room (Nat.le_of_ble_eq_true rfl)) dX12_bestOdds_17 ⟨Nat.le_of_ble_eq_true rfl, Nat.le_of_ble_eq_true rfl⟩).run (fun r_17 hw_18 => ?_)
      rcases hw_18 with ⟨rfl, h_19, h_20⟩ | ⟨rfl, h_21⟩
      · skip
        rcases three h_19 h_20 with rfl | rfl | rfl
        · skip
          refine lv_if_eq (tgt := 33) hx hb dX12_bestOdds_20 (by decide) (fun c_22 => absurd c_22 (by decide)) (fun _ => ?_)
          refine lv_iload hx hb dX12_bestOdds_23 (lv_at hl 4 rfl) ?_
          refine lv_iconst (v := 0) hx hb dX12_bestOdds_25 (by decide) ?_
          refine lv_iconst (v := 1) hx hb dX12_bestOdds_26 (by decide) ?_
          refine vp_callSi (va_runS (As := [.int z, .int 0, .int 1]) (rest := []) ⟨hx, hb, hml, hown, hts⟩ (c_in l dC dI z 0 1) (va_cwS 3 hts gX12_bestOdds_X12_in rfl rfl rfl (by decide +kernel) ⟨Nat.le_of_ble_eq_true rfl, Nat.le_of_ble_eq_true rfl⟩) ⟨fun a U g mk q => ⟨q.1, trivial⟩, fun U hU hW => ⟨rfl, trivial⟩⟩ rfl rfl hl.1 rfl (lv_room (Nat.le_of_ble_eq_true rfl)) dX12_bestOdds_27 ⟨Nat.le_of_ble_eq_true rfl, Nat.le_of_ble_eq_true rfl⟩).run (fun r_23 hw_24 => ?_)
          rcases hw_24 with ⟨rfl, h_25, h_26⟩ | ⟨rfl, h_27⟩
          · skip
            refine lv_if_ne (tgt := 37) hx hb dX12_bestOdds_30 (by decide) (fun _ => ?_) (fun c_28 => absurd c_28 (by decide))
            refine lv_aload_n hx hb dX12_bestOdds_37 rfl (lv_at hl 0 rfl) ?_
            refine lv_iload_n hx hb dX12_bestOdds_38 rfl (lv_at hl 1 rfl) ?_
            refine lv_iload_n hx hb dX12_bestOdds_39 rfl (lv_at hl 2 rfl) ?_
            refine lv_iload_n hx hb dX12_bestOdds_40 rfl (lv_at hl 3 rfl) ?_
            have hPc := hP.sub (ws' := [(m0, .inr (14, [.int 0, .ref aS, .ref aI, .int 0, .int 0, .int 0, .int 0, .int 0, .int 0, .ref aB, .ref aT, .int 0, .int 0, .ref aG, .ref aO, .ref aN, .ref aD, .long bv, .ref aY, .int 0, .int 0, .int 0, .int 0])), (aS, .inl (cS, 901, .inl s0)), (aB, .inl (cB, 6, .inl fB)), (aO, .inl (cO, 36, .inr (.inl fO))), (aN, .inl (cN, 36, .inr (.inl fN))), (aD, .inl (cD, 36, .inl fD))]) [0, 1, 2, 3, 4, 5] rfl
            have hDc := hD.sub (ws' := [(m0, .inr (14, [.int 0, .ref aS, .ref aI, .int 0, .int 0, .int 0, .int 0, .int 0, .int 0, .ref aB, .ref aT, .int 0, .int 0, .ref aG, .ref aO, .ref aN, .ref aD, .long bv, .ref aY, .int 0, .int 0, .int 0, .int 0])), (aS, .inl (cS, 901, .inl s0)), (aB, .inl (cB, 6, .inl fB)), (aO, .inl (cO, 36, .inr (.inl fO))), (aN, .inl (cN, 36, .inr (.inl fN))), (aD, .inl (cD, 36, .inl fD))]) [0, 1, 2, 3, 4, 5] (by decide) rfl
            have hKc := hK.sub (tys' := [(cS, .int), (cB, .int), (cO, .long), (cN, .long), (cD, .int)]) [0, 1, 2, 3, 4] rfl
            have hFc := va_free (wc := [(m0, .inr (14, [.int 0, .ref aS, .ref aI, .int 0, .int 0, .int 0, .int 0, .int 0, .int 0, .ref aB, .ref aT, .int 0, .int 0, .ref aG, .ref aO, .ref aN, .ref aD, .long bv, .ref aY, .int 0, .int 0, .int 0, .int 0])), (aS, .inl (cS, 901, .inl s0)), (aB, .inl (cB, 6, .inl fB)), (aO, .inl (cO, 36, .inr (.inl fO))), (aN, .inl (cN, 36, .inr (.inl fN))), (aD, .inl (cD, 36, .inl fD))]) hD hS hA [0, 1, 2, 3, 4, 5] rfl
            refine va_calli (va_runV (As := [.int (nI jx_6), .int (nI jy_14), .int 1]) (rest := []) ⟨hx, hb, hml, hown, hts⟩ (c_bestRow1 l dC dI m0 aS aI aB aT aG aO aN aD aY bv cS cB cO cN cD fB fD fO fN jx_6 jy_14 H.size (by omega) (by omega)) (cwV 3 hts gX12_bestOdds_X12_bestRow rfl rfl rfl (by decide +kernel) ⟨Nat.le_of_ble_eq_true rfl, Nat.le_of_ble_eq_true rfl⟩) ⟨fun a U g mk q => by obtain ⟨q0, q1, qP, qK, qD⟩ := q; exact ⟨q0, q1, qP, va_K.moved (u := U) (U := U.calling g mk a) (Vm.Alike.refl U.vm) qK, qD⟩, va_recv hK hP (ci := 14) (q0 := 0) rfl rfl, fun U hU hW => ⟨rfl, by rw [hU], by rw [hU]; exact hPc, va_K.moved hW.alike hKc, hDc.weaken (fun _ _ _ _ => trivial)⟩⟩ rfl rfl hl.1 rfl (lv_room (Nat.le_of_ble_eq_true rfl)) dX12_bestOdds_41 ⟨Nat.le_of_ble_eq_true rfl, Nat.le_of_ble_eq_true rfl⟩) hS (fun q _ h => hFc q h) hFc (fun r_29 u tC H1 locs htC hvm hw_30 hB hz1 hk1 hS => ?_)
            obtain ⟨fB2_31, fO2_32, fN2_33, fD2_34, bv2_35⟩ := u
            try dsimp only at hw_30 hB
            obtain ⟨hP1, hK1, hD1⟩ := hB
            rw [htC] at hP1
            have hK1 := va_K.moved hvm.symm hK1
            obtain ⟨hP, hD⟩ := va_join (wr := []) (w1 := [(m0, .inr (14, [.int 0, .ref aS, .ref aI, .int 0, .int 0, .int 0, .int 0, .int 0, .int 0, .ref aB, .ref aT, .int 0, .int 0, .ref aG, .ref aO, .ref aN, .ref aD, .long bv2_35, .ref aY, .int 0, .int 0, .int 0, .int 0])), (aS, .inl (cS, 901, .inl s0)), (aB, .inl (cB, 6, .inl fB2_31)), (aO, .inl (cO, 36, .inr (.inl fO2_32))), (aN, .inl (cN, 36, .inr (.inl fN2_33))), (aD, .inl (cD, 36, .inl fD2_34))]) hP hD [0, 1, 2, 3, 4, 5] [] rfl rfl (by decide) (by decide) hk1 hFc hP1 hD1
            have hK := (hK.sub (tys' := []) [] rfl).app hK1
            generalize H1 = H at hP hS ⊢
            have hP : va_P (dC, dI) vwCl [(m0, .inr (14, [.int 0, .ref aS, .ref aI, .int 0, .int 0, .int 0, .int 0, .int 0, .int 0, .ref aB, .ref aT, .int 0, .int 0, .ref aG, .ref aO, .ref aN, .ref aD, .long bv2_35, .ref aY, .int 0, .int 0, .int 0, .int 0])), (aS, .inl (cS, 901, .inl s0)), (aB, .inl (cB, 6, .inl fB2_31)), (aO, .inl (cO, 36, .inr (.inl fO2_32))), (aN, .inl (cN, 36, .inr (.inl fN2_33))), (aD, .inl (cD, 36, .inl fD2_34))] H := hP
            have hD : va_D A [(m0, .inr (14, [.int 0, .ref aS, .ref aI, .int 0, .int 0, .int 0, .int 0, .int 0, .int 0, .ref aB, .ref aT, .int 0, .int 0, .ref aG, .ref aO, .ref aN, .ref aD, .long bv2_35, .ref aY, .int 0, .int 0, .int 0, .int 0])), (aS, .inl (cS, 901, .inl s0)), (aB, .inl (cB, 6, .inl fB2_31)), (aO, .inl (cO, 36, .inr (.inl fO2_32))), (aN, .inl (cN, 36, .inr (.inl fN2_33))), (aD, .inl (cD, 36, .inl fD2_34))] := hD
            have hK : va_K (dC, dI) vwCl [(cS, .int), (cB, .int), (cO, .long), (cN, .long), (cD, .int)] s := hK
            refine qi_as (y := nI (GG (fun q => ind (pth 1 jx_6 q) 1 jy_14) 8).2) (hw_30.1) ?_
            have hb_36 : (GG (fun q => ind (pth 1 jx_6 q) 1 jy_14) 8).2 < 8 := GG_lt _ _ (by omega)
            obtain ⟨ba_37, ba_37_1, ba_37_2⟩ := best_val 1 jx_6 jy_14 (by omega) (by omega)
            have ba_37_2 : (GG (fun q => ind (pth 1 jx_6 q) 1 jy_14) 8).1 = lN ba_37 := ba_37_2
            refine lv_istore (lv' := [(5, .int (nI ((GG (fun q => ind (pth 1 jx_6 q) 1 jy_14) 8).2))), (0, .ref m0), (1, .int (nI jx_6)), (2, .int (nI jy_14)), (3, .int 1), (4, .int z)]) hx hb dX12_bestOdds_44 hl (by decide) rfl (fun ls hl => ?_)
            refine lv_iload hx hb dX12_bestOdds_46 (lv_at hl 0 rfl) ?_
            refine lv_iconst (v := (-1)) hx hb dX12_bestOdds_48 (by decide) ?_
            refine lv_icmp_ne (tgt := 58) hx hb dX12_bestOdds_49 (by decide) (fun c_38 => ?_) (fun c_38 => absurd c_38 (not_not_intro (g_ne (by omega))))
            refine lv_aload_n hx hb dX12_bestOdds_58 rfl (lv_at hl 1 rfl) ?_
            refine va_get (D := (dC, dI)) (ci := 14) (v := .long bv2_35) (C := RX12) (T := TX12) (N := 23) hx hb hts kc_mBestOdds_0 hown hK hP 0 rfl rfl 17 (by decide) (hts (.fieldLink RX12 236 "MistHeapsModel" "bestOften" "J") kc_mBestOdds_1) (fun _ h9 => h9) rfl dX12_bestOdds_59 ?_
            refine ql_as (y := lN ba_37) (hw_30.2.trans ba_37_2) ?_
            refine lv_iload_n hx hb dX12_bestOdds_62 rfl (lv_at hl 4 rfl) ?_
            refine vp_callSl (va_runS (As := [.int 1]) (rest := [.long (lN ba_37)]) ⟨hx, hb, hml, hown, hts⟩ (c_twenties l dC dI 1 (by omega)) (va_cwS 1 hts gX12_bestOdds_X12_twenties rfl rfl rfl (by decide +kernel) ⟨Nat.le_of_ble_eq_true rfl, Nat.le_of_ble_eq_true rfl⟩) ⟨fun a U g mk q => ⟨q.1, trivial⟩, fun U hU hW => ⟨rfl, trivial⟩⟩ rfl rfl hl.1 rfl (lv_room (Nat.le_of_ble_eq_true rfl)) dX12_bestOdds_63 ⟨Nat.le_of_ble_eq_true rfl, Nat.le_of_ble_eq_true rfl⟩).run (fun r_39 hw_40 => ?_)
            refine ql_as (y := lN (20 ^ 1)) (hw_40) ?_
            refine lv_iload hx hb dX12_bestOdds_66 (lv_at hl 5 rfl) ?_
            refine vp_callSl (va_runS (As := [.long (lN ba_37), .long (lN (20 ^ 1)), .int z]) (rest := []) ⟨hx, hb, hml, hown, hts⟩ (c_lowest l dC dI ba_37 (20 ^ 1) z (by rcases ba_37_1 with h | h <;> rw [h] <;> decide) (by decide) (by decide) (a_mod ba_37_1)) (va_cwS 3 hts gX12_bestOdds_X12_lowest rfl rfl rfl (by decide +kernel) ⟨Nat.le_of_ble_eq_true rfl, Nat.le_of_ble_eq_true rfl⟩) ⟨fun a U g mk q => ⟨q.1, trivial⟩, fun U hU hW => ⟨rfl, trivial⟩⟩ rfl rfl hl.1 rfl (lv_room (Nat.le_of_ble_eq_true rfl)) dX12_bestOdds_68 ⟨Nat.le_of_ble_eq_true rfl, Nat.le_of_ble_eq_true rfl⟩).run (fun r_41 hw_42 => ?_)
            rw [hQ]
            exact W.lret (v := r_41) hx hb hr (fun tQ htQ hWQ => ⟨⟨r_41, (), rfl, by rw [hw_42, bo_val (by omega) (by omega) ba_37_1, ← ba_37_2]; simp only [f_bestOdds]; (repeat' split) <;> first | contradiction | (simp only [nI_clamp (n := jx_6) (by omega), nI_clamp (n := jy_14) (by omega)] at *; first | rfl | contradiction | simp_all) | simp_all, trivial⟩, hS.F htQ⟩) hS.2.2 dX12_bestOdds_71
          · skip
            refine lv_if_ne (tgt := 37) hx hb dX12_bestOdds_30 (by decide) (fun c_43 => absurd c_43 (by decide)) (fun _ => ?_)
            refine lv_ldc2 (v := (-9223372036854775808)) hx hb hown (hts (.constantLong RX12 181 (-9223372036854775808)) kc_mBestOdds_2) dX12_bestOdds_33 ?_
            rw [hQ]
            exact W.lret (v := (-9223372036854775808)) hx hb hr (fun tQ htQ hWQ => ⟨⟨(-9223372036854775808), (), rfl, by simp only [f_bestOdds]; (repeat' split) <;> simp_all, trivial⟩, hS.F htQ⟩) hS.2.2 dX12_bestOdds_36
        · skip
          refine lv_if_eq (tgt := 33) hx hb dX12_bestOdds_20 (by decide) (fun c_44 => absurd c_44 (by decide)) (fun _ => ?_)
          refine lv_iload hx hb dX12_bestOdds_23 (lv_at hl 4 rfl) ?_
          refine lv_iconst (v := 0) hx hb dX12_bestOdds_25 (by decide) ?_
          refine lv_iconst (v := 1) hx hb dX12_bestOdds_26 (by decide) ?_
          refine vp_callSi (va_runS (As := [.int z, .int 0, .int 1]) (rest := []) ⟨hx, hb, hml, hown, hts⟩ (c_in l dC dI z 0 1) (va_cwS 3 hts gX12_bestOdds_X12_in rfl rfl rfl (by decide +kernel) ⟨Nat.le_of_ble_eq_true rfl, Nat.le_of_ble_eq_true rfl⟩) ⟨fun a U g mk q => ⟨q.1, trivial⟩, fun U hU hW => ⟨rfl, trivial⟩⟩ rfl rfl hl.1 rfl (lv_room (Nat.le_of_ble_eq_true rfl)) dX12_bestOdds_27 ⟨Nat.le_of_ble_eq_true rfl, Nat.le_of_ble_eq_true rfl⟩).run (fun r_45 hw_46 => ?_)
          rcases hw_46 with ⟨rfl, h_47, h_48⟩ | ⟨rfl, h_49⟩
          · skip
            refine lv_if_ne (tgt := 37) hx hb dX12_bestOdds_30 (by decide) (fun _ => ?_) (fun c_50 => absurd c_50 (by decide))
            refine lv_aload_n hx hb dX12_bestOdds_37 rfl (lv_at hl 0 rfl) ?_
            refine lv_iload_n hx hb dX12_bestOdds_38 rfl (lv_at hl 1 rfl) ?_
            refine lv_iload_n hx hb dX12_bestOdds_39 rfl (lv_at hl 2 rfl) ?_
            refine lv_iload_n hx hb dX12_bestOdds_40 rfl (lv_at hl 3 rfl) ?_
            have hPc := hP.sub (ws' := [(m0, .inr (14, [.int 0, .ref aS, .ref aI, .int 0, .int 0, .int 0, .int 0, .int 0, .int 0, .ref aB, .ref aT, .int 0, .int 0, .ref aG, .ref aO, .ref aN, .ref aD, .long bv, .ref aY, .int 0, .int 0, .int 0, .int 0])), (aS, .inl (cS, 901, .inl s0)), (aB, .inl (cB, 6, .inl fB)), (aO, .inl (cO, 36, .inr (.inl fO))), (aN, .inl (cN, 36, .inr (.inl fN))), (aD, .inl (cD, 36, .inl fD))]) [0, 1, 2, 3, 4, 5] rfl
            have hDc := hD.sub (ws' := [(m0, .inr (14, [.int 0, .ref aS, .ref aI, .int 0, .int 0, .int 0, .int 0, .int 0, .int 0, .ref aB, .ref aT, .int 0, .int 0, .ref aG, .ref aO, .ref aN, .ref aD, .long bv, .ref aY, .int 0, .int 0, .int 0, .int 0])), (aS, .inl (cS, 901, .inl s0)), (aB, .inl (cB, 6, .inl fB)), (aO, .inl (cO, 36, .inr (.inl fO))), (aN, .inl (cN, 36, .inr (.inl fN))), (aD, .inl (cD, 36, .inl fD))]) [0, 1, 2, 3, 4, 5] (by decide) rfl
            have hKc := hK.sub (tys' := [(cS, .int), (cB, .int), (cO, .long), (cN, .long), (cD, .int)]) [0, 1, 2, 3, 4] rfl
            have hFc := va_free (wc := [(m0, .inr (14, [.int 0, .ref aS, .ref aI, .int 0, .int 0, .int 0, .int 0, .int 0, .int 0, .ref aB, .ref aT, .int 0, .int 0, .ref aG, .ref aO, .ref aN, .ref aD, .long bv, .ref aY, .int 0, .int 0, .int 0, .int 0])), (aS, .inl (cS, 901, .inl s0)), (aB, .inl (cB, 6, .inl fB)), (aO, .inl (cO, 36, .inr (.inl fO))), (aN, .inl (cN, 36, .inr (.inl fN))), (aD, .inl (cD, 36, .inl fD))]) hD hS hA [0, 1, 2, 3, 4, 5] rfl
            refine va_calli (va_runV (As := [.int (nI jx_6), .int (nI jy_14), .int 2]) (rest := []) ⟨hx, hb, hml, hown, hts⟩ (c_bestRow2 l dC dI m0 aS aI aB aT aG aO aN aD aY bv cS cB cO cN cD fB fD fO fN jx_6 jy_14 H.size (by omega) (by omega)) (cwV 3 hts gX12_bestOdds_X12_bestRow rfl rfl rfl (by decide +kernel) ⟨Nat.le_of_ble_eq_true rfl, Nat.le_of_ble_eq_true rfl⟩) ⟨fun a U g mk q => by obtain ⟨q0, q1, qP, qK, qD⟩ := q; exact ⟨q0, q1, qP, va_K.moved (u := U) (U := U.calling g mk a) (Vm.Alike.refl U.vm) qK, qD⟩, va_recv hK hP (ci := 14) (q0 := 0) rfl rfl, fun U hU hW => ⟨rfl, by rw [hU], by rw [hU]; exact hPc, va_K.moved hW.alike hKc, hDc.weaken (fun _ _ _ _ => trivial)⟩⟩ rfl rfl hl.1 rfl (lv_room (Nat.le_of_ble_eq_true rfl)) dX12_bestOdds_41 ⟨Nat.le_of_ble_eq_true rfl, Nat.le_of_ble_eq_true rfl⟩) hS (fun q _ h => hFc q h) hFc (fun r_51 u tC H1 locs htC hvm hw_52 hB hz1 hk1 hS => ?_)
            obtain ⟨fB2_53, fO2_54, fN2_55, fD2_56, bv2_57⟩ := u
            try dsimp only at hw_52 hB
            obtain ⟨hP1, hK1, hD1⟩ := hB
            rw [htC] at hP1
            have hK1 := va_K.moved hvm.symm hK1
            obtain ⟨hP, hD⟩ := va_join (wr := []) (w1 := [(m0, .inr (14, [.int 0, .ref aS, .ref aI, .int 0, .int 0, .int 0, .int 0, .int 0, .int 0, .ref aB, .ref aT, .int 0, .int 0, .ref aG, .ref aO, .ref aN, .ref aD, .long bv2_57, .ref aY, .int 0, .int 0, .int 0, .int 0])), (aS, .inl (cS, 901, .inl s0)), (aB, .inl (cB, 6, .inl fB2_53)), (aO, .inl (cO, 36, .inr (.inl fO2_54))), (aN, .inl (cN, 36, .inr (.inl fN2_55))), (aD, .inl (cD, 36, .inl fD2_56))]) hP hD [0, 1, 2, 3, 4, 5] [] rfl rfl (by decide) (by decide) hk1 hFc hP1 hD1
            have hK := (hK.sub (tys' := []) [] rfl).app hK1
            generalize H1 = H at hP hS ⊢
            have hP : va_P (dC, dI) vwCl [(m0, .inr (14, [.int 0, .ref aS, .ref aI, .int 0, .int 0, .int 0, .int 0, .int 0, .int 0, .ref aB, .ref aT, .int 0, .int 0, .ref aG, .ref aO, .ref aN, .ref aD, .long bv2_57, .ref aY, .int 0, .int 0, .int 0, .int 0])), (aS, .inl (cS, 901, .inl s0)), (aB, .inl (cB, 6, .inl fB2_53)), (aO, .inl (cO, 36, .inr (.inl fO2_54))), (aN, .inl (cN, 36, .inr (.inl fN2_55))), (aD, .inl (cD, 36, .inl fD2_56))] H := hP
            have hD : va_D A [(m0, .inr (14, [.int 0, .ref aS, .ref aI, .int 0, .int 0, .int 0, .int 0, .int 0, .int 0, .ref aB, .ref aT, .int 0, .int 0, .ref aG, .ref aO, .ref aN, .ref aD, .long bv2_57, .ref aY, .int 0, .int 0, .int 0, .int 0])), (aS, .inl (cS, 901, .inl s0)), (aB, .inl (cB, 6, .inl fB2_53)), (aO, .inl (cO, 36, .inr (.inl fO2_54))), (aN, .inl (cN, 36, .inr (.inl fN2_55))), (aD, .inl (cD, 36, .inl fD2_56))] := hD
            have hK : va_K (dC, dI) vwCl [(cS, .int), (cB, .int), (cO, .long), (cN, .long), (cD, .int)] s := hK
            refine qi_as (y := nI (GG (fun q => ind (pth 2 jx_6 q) 2 jy_14) 64).2) (hw_52.1) ?_
            have hb_58 : (GG (fun q => ind (pth 2 jx_6 q) 2 jy_14) 64).2 < 64 := GG_lt _ _ (by omega)
            obtain ⟨ba_59, ba_59_1, ba_59_2⟩ := best_val 2 jx_6 jy_14 (by omega) (by omega)
            have ba_59_2 : (GG (fun q => ind (pth 2 jx_6 q) 2 jy_14) 64).1 = lN ba_59 := ba_59_2
            refine lv_istore (lv' := [(5, .int (nI ((GG (fun q => ind (pth 2 jx_6 q) 2 jy_14) 64).2))), (0, .ref m0), (1, .int (nI jx_6)), (2, .int (nI jy_14)), (3, .int 2), (4, .int z)]) hx hb dX12_bestOdds_44 hl (by decide) rfl (fun ls hl => ?_)
            refine lv_iload hx hb dX12_bestOdds_46 (lv_at hl 0 rfl) ?_
            refine lv_iconst (v := (-1)) hx hb dX12_bestOdds_48 (by decide) ?_
            refine lv_icmp_ne (tgt := 58) hx hb dX12_bestOdds_49 (by decide) (fun c_60 => ?_) (fun c_60 => absurd c_60 (not_not_intro (g_ne (by omega))))
            refine lv_aload_n hx hb dX12_bestOdds_58 rfl (lv_at hl 1 rfl) ?_
            refine va_get (D := (dC, dI)) (ci := 14) (v := .long bv2_57) (C := RX12) (T := TX12) (N := 23) hx hb hts kc_mBestOdds_0 hown hK hP 0 rfl rfl 17 (by decide) (hts (.fieldLink RX12 236 "MistHeapsModel" "bestOften" "J") kc_mBestOdds_1) (fun _ h9 => h9) rfl dX12_bestOdds_59 ?_
            refine ql_as (y := lN ba_59) (hw_52.2.trans ba_59_2) ?_
            refine lv_iload_n hx hb dX12_bestOdds_62 rfl (lv_at hl 4 rfl) ?_
            refine vp_callSl (va_runS (As := [.int 2]) (rest := [.long (lN ba_59)]) ⟨hx, hb, hml, hown, hts⟩ (c_twenties l dC dI 2 (by omega)) (va_cwS 1 hts gX12_bestOdds_X12_twenties rfl rfl rfl (by decide +kernel) ⟨Nat.le_of_ble_eq_true rfl, Nat.le_of_ble_eq_true rfl⟩) ⟨fun a U g mk q => ⟨q.1, trivial⟩, fun U hU hW => ⟨rfl, trivial⟩⟩ rfl rfl hl.1 rfl (lv_room (Nat.le_of_ble_eq_true rfl)) dX12_bestOdds_63 ⟨Nat.le_of_ble_eq_true rfl, Nat.le_of_ble_eq_true rfl⟩).run (fun r_61 hw_62 => ?_)
            refine ql_as (y := lN (20 ^ 2)) (hw_62) ?_
            refine lv_iload hx hb dX12_bestOdds_66 (lv_at hl 5 rfl) ?_
            refine vp_callSl (va_runS (As := [.long (lN ba_59), .long (lN (20 ^ 2)), .int z]) (rest := []) ⟨hx, hb, hml, hown, hts⟩ (c_lowest l dC dI ba_59 (20 ^ 2) z (by rcases ba_59_1 with h | h <;> rw [h] <;> decide) (by decide) (by decide) (a_mod ba_59_1)) (va_cwS 3 hts gX12_bestOdds_X12_lowest rfl rfl rfl (by decide +kernel) ⟨Nat.le_of_ble_eq_true rfl, Nat.le_of_ble_eq_true rfl⟩) ⟨fun a U g mk q => ⟨q.1, trivial⟩, fun U hU hW => ⟨rfl, trivial⟩⟩ rfl rfl hl.1 rfl (lv_room (Nat.le_of_ble_eq_true rfl)) dX12_bestOdds_68 ⟨Nat.le_of_ble_eq_true rfl, Nat.le_of_ble_eq_true rfl⟩).run (fun r_63 hw_64 => ?_)
            rw [hQ]
            exact W.lret (v := r_63) hx hb hr (fun tQ htQ hWQ => ⟨⟨r_63, (), rfl, by rw [hw_64, bo_val (by omega) (by omega) ba_59_1, ← ba_59_2]; simp only [f_bestOdds]; (repeat' split) <;> first | contradiction | (simp only [nI_clamp (n := jx_6) (by omega), nI_clamp (n := jy_14) (by omega)] at *; first | rfl | contradiction | simp_all) | simp_all, trivial⟩, hS.F htQ⟩) hS.2.2 dX12_bestOdds_71
          · skip
            refine lv_if_ne (tgt := 37) hx hb dX12_bestOdds_30 (by decide) (fun c_65 => absurd c_65 (by decide)) (fun _ => ?_)
            refine lv_ldc2 (v := (-9223372036854775808)) hx hb hown (hts (.constantLong RX12 181 (-9223372036854775808)) kc_mBestOdds_2) dX12_bestOdds_33 ?_
            rw [hQ]
            exact W.lret (v := (-9223372036854775808)) hx hb hr (fun tQ htQ hWQ => ⟨⟨(-9223372036854775808), (), rfl, by simp only [f_bestOdds]; (repeat' split) <;> simp_all, trivial⟩, hS.F htQ⟩) hS.2.2 dX12_bestOdds_36
        · skip
          refine lv_if_eq (tgt := 33) hx hb dX12_bestOdds_20 (by decide) (fun c_66 => absurd c_66 (by decide)) (fun _ => ?_)
          refine lv_iload hx hb dX12_bestOdds_23 (lv_at hl 4 rfl) ?_
          refine lv_iconst (v := 0) hx hb dX12_bestOdds_25 (by decide) ?_
          refine lv_iconst (v := 1) hx hb dX12_bestOdds_26 (by decide) ?_
          refine vp_callSi (va_runS (As := [.int z, .int 0, .int 1]) (rest := []) ⟨hx, hb, hml, hown, hts⟩ (c_in l dC dI z 0 1) (va_cwS 3 hts gX12_bestOdds_X12_in rfl rfl rfl (by decide +kernel) ⟨Nat.le_of_ble_eq_true rfl, Nat.le_of_ble_eq_true rfl⟩) ⟨fun a U g mk q => ⟨q.1, trivial⟩, fun U hU hW => ⟨rfl, trivial⟩⟩ rfl rfl hl.1 rfl (lv_room (Nat.le_of_ble_eq_true rfl)) dX12_bestOdds_27 ⟨Nat.le_of_ble_eq_true rfl, Nat.le_of_ble_eq_true rfl⟩).run (fun r_67 hw_68 => ?_)
          rcases hw_68 with ⟨rfl, h_69, h_70⟩ | ⟨rfl, h_71⟩
          · skip
            refine lv_if_ne (tgt := 37) hx hb dX12_bestOdds_30 (by decide) (fun _ => ?_) (fun c_72 => absurd c_72 (by decide))
            refine lv_aload_n hx hb dX12_bestOdds_37 rfl (lv_at hl 0 rfl) ?_
            refine lv_iload_n hx hb dX12_bestOdds_38 rfl (lv_at hl 1 rfl) ?_
            refine lv_iload_n hx hb dX12_bestOdds_39 rfl (lv_at hl 2 rfl) ?_
            refine lv_iload_n hx hb dX12_bestOdds_40 rfl (lv_at hl 3 rfl) ?_
            have hPc := hP.sub (ws' := [(m0, .inr (14, [.int 0, .ref aS, .ref aI, .int 0, .int 0, .int 0, .int 0, .int 0, .int 0, .ref aB, .ref aT, .int 0, .int 0, .ref aG, .ref aO, .ref aN, .ref aD, .long bv, .ref aY, .int 0, .int 0, .int 0, .int 0])), (aS, .inl (cS, 901, .inl s0)), (aB, .inl (cB, 6, .inl fB)), (aO, .inl (cO, 36, .inr (.inl fO))), (aN, .inl (cN, 36, .inr (.inl fN))), (aD, .inl (cD, 36, .inl fD))]) [0, 1, 2, 3, 4, 5] rfl
            have hDc := hD.sub (ws' := [(m0, .inr (14, [.int 0, .ref aS, .ref aI, .int 0, .int 0, .int 0, .int 0, .int 0, .int 0, .ref aB, .ref aT, .int 0, .int 0, .ref aG, .ref aO, .ref aN, .ref aD, .long bv, .ref aY, .int 0, .int 0, .int 0, .int 0])), (aS, .inl (cS, 901, .inl s0)), (aB, .inl (cB, 6, .inl fB)), (aO, .inl (cO, 36, .inr (.inl fO))), (aN, .inl (cN, 36, .inr (.inl fN))), (aD, .inl (cD, 36, .inl fD))]) [0, 1, 2, 3, 4, 5] (by decide) rfl
            have hKc := hK.sub (tys' := [(cS, .int), (cB, .int), (cO, .long), (cN, .long), (cD, .int)]) [0, 1, 2, 3, 4] rfl
            have hFc := va_free (wc := [(m0, .inr (14, [.int 0, .ref aS, .ref aI, .int 0, .int 0, .int 0, .int 0, .int 0, .int 0, .ref aB, .ref aT, .int 0, .int 0, .ref aG, .ref aO, .ref aN, .ref aD, .long bv, .ref aY, .int 0, .int 0, .int 0, .int 0])), (aS, .inl (cS, 901, .inl s0)), (aB, .inl (cB, 6, .inl fB)), (aO, .inl (cO, 36, .inr (.inl fO))), (aN, .inl (cN, 36, .inr (.inl fN))), (aD, .inl (cD, 36, .inl fD))]) hD hS hA [0, 1, 2, 3, 4, 5] rfl
            refine va_calli (va_runV (As := [.int (nI jx_6), .int (nI jy_14), .int 3]) (rest := []) ⟨hx, hb, hml, hown, hts⟩ (c_bestRow3 l dC dI m0 aS aI aB aT aG aO aN aD aY bv cS cB cO cN cD fB fD fO fN jx_6 jy_14 H.size (by omega) (by omega)) (cwV 3 hts gX12_bestOdds_X12_bestRow rfl rfl rfl (by decide +kernel) ⟨Nat.le_of_ble_eq_true rfl, Nat.le_of_ble_eq_true rfl⟩) ⟨fun a U g mk q => by obtain ⟨q0, q1, qP, qK, qD⟩ := q; exact ⟨q0, q1, qP, va_K.moved (u := U) (U := U.calling g mk a) (Vm.Alike.refl U.vm) qK, qD⟩, va_recv hK hP (ci := 14) (q0 := 0) rfl rfl, fun U hU hW => ⟨rfl, by rw [hU], by rw [hU]; exact hPc, va_K.moved hW.alike hKc, hDc.weaken (fun _ _ _ _ => trivial)⟩⟩ rfl rfl hl.1 rfl (lv_room (Nat.le_of_ble_eq_true rfl)) dX12_bestOdds_41 ⟨Nat.le_of_ble_eq_true rfl, Nat.le_of_ble_eq_true rfl⟩) hS (fun q _ h => hFc q h) hFc (fun r_73 u tC H1 locs htC hvm hw_74 hB hz1 hk1 hS => ?_)
            obtain ⟨fB2_75, fO2_76, fN2_77, fD2_78, bv2_79⟩ := u
            try dsimp only at hw_74 hB
            obtain ⟨hP1, hK1, hD1⟩ := hB
            rw [htC] at hP1
            have hK1 := va_K.moved hvm.symm hK1
            obtain ⟨hP, hD⟩ := va_join (wr := []) (w1 := [(m0, .inr (14, [.int 0, .ref aS, .ref aI, .int 0, .int 0, .int 0, .int 0, .int 0, .int 0, .ref aB, .ref aT, .int 0, .int 0, .ref aG, .ref aO, .ref aN, .ref aD, .long bv2_79, .ref aY, .int 0, .int 0, .int 0, .int 0])), (aS, .inl (cS, 901, .inl s0)), (aB, .inl (cB, 6, .inl fB2_75)), (aO, .inl (cO, 36, .inr (.inl fO2_76))), (aN, .inl (cN, 36, .inr (.inl fN2_77))), (aD, .inl (cD, 36, .inl fD2_78))]) hP hD [0, 1, 2, 3, 4, 5] [] rfl rfl (by decide) (by decide) hk1 hFc hP1 hD1
            have hK := (hK.sub (tys' := []) [] rfl).app hK1
            generalize H1 = H at hP hS ⊢
            have hP : va_P (dC, dI) vwCl [(m0, .inr (14, [.int 0, .ref aS, .ref aI, .int 0, .int 0, .int 0, .int 0, .int 0, .int 0, .ref aB, .ref aT, .int 0, .int 0, .ref aG, .ref aO, .ref aN, .ref aD, .long bv2_79, .ref aY, .int 0, .int 0, .int 0, .int 0])), (aS, .inl (cS, 901, .inl s0)), (aB, .inl (cB, 6, .inl fB2_75)), (aO, .inl (cO, 36, .inr (.inl fO2_76))), (aN, .inl (cN, 36, .inr (.inl fN2_77))), (aD, .inl (cD, 36, .inl fD2_78))] H := hP
            have hD : va_D A [(m0, .inr (14, [.int 0, .ref aS, .ref aI, .int 0, .int 0, .int 0, .int 0, .int 0, .int 0, .ref aB, .ref aT, .int 0, .int 0, .ref aG, .ref aO, .ref aN, .ref aD, .long bv2_79, .ref aY, .int 0, .int 0, .int 0, .int 0])), (aS, .inl (cS, 901, .inl s0)), (aB, .inl (cB, 6, .inl fB2_75)), (aO, .inl (cO, 36, .inr (.inl fO2_76))), (aN, .inl (cN, 36, .inr (.inl fN2_77))), (aD, .inl (cD, 36, .inl fD2_78))] := hD
            have hK : va_K (dC, dI) vwCl [(cS, .int), (cB, .int), (cO, .long), (cN, .long), (cD, .int)] s := hK
            refine qi_as (y := nI (GG (fun q => ind (pth 3 jx_6 q) 3 jy_14) 512).2) (hw_74.1) ?_
            have hb_80 : (GG (fun q => ind (pth 3 jx_6 q) 3 jy_14) 512).2 < 512 := GG_lt _ _ (by omega)
            obtain ⟨ba_81, ba_81_1, ba_81_2⟩ := best_val 3 jx_6 jy_14 (by omega) (by omega)
            have ba_81_2 : (GG (fun q => ind (pth 3 jx_6 q) 3 jy_14) 512).1 = lN ba_81 := ba_81_2
            refine lv_istore (lv' := [(5, .int (nI ((GG (fun q => ind (pth 3 jx_6 q) 3 jy_14) 512).2))), (0, .ref m0), (1, .int (nI jx_6)), (2, .int (nI jy_14)), (3, .int 3), (4, .int z)]) hx hb dX12_bestOdds_44 hl (by decide) rfl (fun ls hl => ?_)
            refine lv_iload hx hb dX12_bestOdds_46 (lv_at hl 0 rfl) ?_
            refine lv_iconst (v := (-1)) hx hb dX12_bestOdds_48 (by decide) ?_
            refine lv_icmp_ne (tgt := 58) hx hb dX12_bestOdds_49 (by decide) (fun c_82 => ?_) (fun c_82 => absurd c_82 (not_not_intro (g_ne (by omega))))
            refine lv_aload_n hx hb dX12_bestOdds_58 rfl (lv_at hl 1 rfl) ?_
            refine va_get (D := (dC, dI)) (ci := 14) (v := .long bv2_79) (C := RX12) (T := TX12) (N := 23) hx hb hts kc_mBestOdds_0 hown hK hP 0 rfl rfl 17 (by decide) (hts (.fieldLink RX12 236 "MistHeapsModel" "bestOften" "J") kc_mBestOdds_1) (fun _ h9 => h9) rfl dX12_bestOdds_59 ?_
            refine ql_as (y := lN ba_81) (hw_74.2.trans ba_81_2) ?_
            refine lv_iload_n hx hb dX12_bestOdds_62 rfl (lv_at hl 4 rfl) ?_
            refine vp_callSl (va_runS (As := [.int 3]) (rest := [.long (lN ba_81)]) ⟨hx, hb, hml, hown, hts⟩ (c_twenties l dC dI 3 (by omega)) (va_cwS 1 hts gX12_bestOdds_X12_twenties rfl rfl rfl (by decide +kernel) ⟨Nat.le_of_ble_eq_true rfl, Nat.le_of_ble_eq_true rfl⟩) ⟨fun a U g mk q => ⟨q.1, trivial⟩, fun U hU hW => ⟨rfl, trivial⟩⟩ rfl rfl hl.1 rfl (lv_room (Nat.le_of_ble_eq_true rfl)) dX12_bestOdds_63 ⟨Nat.le_of_ble_eq_true rfl, Nat.le_of_ble_eq_true rfl⟩).run (fun r_83 hw_84 => ?_)
            refine ql_as (y := lN (20 ^ 3)) (hw_84) ?_
            refine lv_iload hx hb dX12_bestOdds_66 (lv_at hl 5 rfl) ?_
            refine vp_callSl (va_runS (As := [.long (lN ba_81), .long (lN (20 ^ 3)), .int z]) (rest := []) ⟨hx, hb, hml, hown, hts⟩ (c_lowest l dC dI ba_81 (20 ^ 3) z (by rcases ba_81_1 with h | h <;> rw [h] <;> decide) (by decide) (by decide) (a_mod ba_81_1)) (va_cwS 3 hts gX12_bestOdds_X12_lowest rfl rfl rfl (by decide +kernel) ⟨Nat.le_of_ble_eq_true rfl, Nat.le_of_ble_eq_true rfl⟩) ⟨fun a U g mk q => ⟨q.1, trivial⟩, fun U hU hW => ⟨rfl, trivial⟩⟩ rfl rfl hl.1 rfl (lv_room (Nat.le_of_ble_eq_true rfl)) dX12_bestOdds_68 ⟨Nat.le_of_ble_eq_true rfl, Nat.le_of_ble_eq_true rfl⟩).run (fun r_85 hw_86 => ?_)
            rw [hQ]
            exact W.lret (v := r_85) hx hb hr (fun tQ htQ hWQ => ⟨⟨r_85, (), rfl, by rw [hw_86, bo_val (by omega) (by omega) ba_81_1, ← ba_81_2]; simp only [f_bestOdds]; (repeat' split) <;> first | contradiction | (simp only [nI_clamp (n := jx_6) (by omega), nI_clamp (n := jy_14) (by omega)] at *; first | rfl | contradiction | simp_all) | simp_all, trivial⟩, hS.F htQ⟩) hS.2.2 dX12_bestOdds_71
          · skip
            refine lv_if_ne (tgt := 37) hx hb dX12_bestOdds_30 (by decide) (fun c_87 => absurd c_87 (by decide)) (fun _ => ?_)
            refine lv_ldc2 (v := (-9223372036854775808)) hx hb hown (hts (.constantLong RX12 181 (-9223372036854775808)) kc_mBestOdds_2) dX12_bestOdds_33 ?_
            rw [hQ]
            exact W.lret (v := (-9223372036854775808)) hx hb hr (fun tQ htQ hWQ => ⟨⟨(-9223372036854775808), (), rfl, by simp only [f_bestOdds]; (repeat' split) <;> simp_all, trivial⟩, hS.F htQ⟩) hS.2.2 dX12_bestOdds_36
      · skip
        refine lv_if_eq (tgt := 33) hx hb dX12_bestOdds_20 (by decide) (fun _ => ?_) (fun c_88 => absurd c_88 (by decide))
        refine lv_ldc2 (v := (-9223372036854775808)) hx hb hown (hts (.constantLong RX12 181 (-9223372036854775808)) kc_mBestOdds_2) dX12_bestOdds_33 ?_
        rw [hQ]
        exact W.lret (v := (-9223372036854775808)) hx hb hr (fun tQ htQ hWQ => ⟨⟨(-9223372036854775808), (), rfl, by simp only [f_bestOdds]; (repeat' split) <;> simp_all, trivial⟩, hS.F htQ⟩) hS.2.2 dX12_bestOdds_36
    · skip
      refine lv_if_eq (tgt := 33) hx hb dX12_bestOdds_11 (by decide) (fun _ => ?_) (fun c_89 => absurd c_89 (by decide))
      refine lv_ldc2 (v := (-9223372036854775808)) hx hb hown (hts (.constantLong RX12 181 (-9223372036854775808)) kc_mBestOdds_2) dX12_bestOdds_33 ?_
      rw [hQ]
      exact W.lret (v := (-9223372036854775808)) hx hb hr (fun tQ htQ hWQ => ⟨⟨(-9223372036854775808), (), rfl, by simp only [f_bestOdds]; (repeat' split) <;> simp_all, trivial⟩, hS.F htQ⟩) hS.2.2 dX12_bestOdds_36
  · skip
    refine lv_if_eq (tgt := 33) hx hb dX12_bestOdds_4 (by decide) (fun _ => ?_) (fun c_90 => absurd c_90 (by decide))
    refine lv_ldc2 (v := (-9223372036854775808)) hx hb hown (hts (.constantLong RX12 181 (-9223372036854775808)) kc_mBestOdds_2) dX12_bestOdds_33 ?_
    rw [hQ]
    exact W.lret (v := (-9223372036854775808)) hx hb hr (fun tQ htQ hWQ => ⟨⟨(-9223372036854775808), (), rfl, by simp only [f_bestOdds]; (repeat' split) <;> simp_all, trivial⟩, hS.F htQ⟩) hS.2.2 dX12_bestOdds_36

theorem kc_here0_0 : ∀ w ∈ wsX120, w ∈ wsX12_here := by decide +kernel
theorem kc_here0_1 : (.fieldLink RX12 59 "MistHeapsModel" "spot" "I" : Cond) ∈ wsX12_here := by decide +kernel
theorem kc_here0_2 : (.fieldLink RX12 62 "MistHeapsModel" "end" "I" : Cond) ∈ wsX12_here := by decide +kernel
set_option maxHeartbeats 4000000 in
set_option maxRecDepth 100000 in
theorem c_here0 (l : Launch) (dC : Nat → ClassId) (dI : Nat → Nat → Nat) (m0 aS aI aB aT aG aO aN aD aY : Nat) (bv : Int64) : Met l yX12_here wsX12_here ({ frames := 0, cells := 0, slots := 0, locals := 0 } : Room) (va_Pc [.ref m0] (fun U => va_P (dC, dI) vwCl [(m0, .inr (14, [.int 0, .ref aS, .ref aI, .int 0, .int 0, .int 0, .int 0, .int 0, .int 0, .ref aB, .ref aT, .int 0, .int 0, .ref aG, .ref aO, .ref aN, .ref aD, .long bv, .ref aY, .int 0, .int 0, .int 0, .int 0]))] U.heap ∧ va_K (dC, dI) vwCl [] U)) (vp_Si (fun r => r = -1)) 0 0 (fun _ => False) := by
  refine met_ofQ (cc := cX12_here) (maxL := 1) (ret := (some .int)) (by decide) rfl ?_
  intro p e s m args below meth c s₁ Q B hml hv hQ
  obtain ⟨rfl, hP, hK⟩ := hv
  have hx := B.exec
  have hb := B.bytes
  have hr := B.returns
  have hts := atoms_spec (ws := wsX12_here) B.pre
  have hown : s.vm.findClass RX12 = some m.cls := findClass_of_methodNamed B.named
  have hlocks := B.notSynchronized
  obtain ⟨A, hAe⟩ : ∃ A : Nat → Prop, A = fun _ => False := ⟨_, rfl⟩
  rw [← hAe] at hQ
  have hS : va_S A s.heap s.heap [] := va_S.rf
  have hl := lv_entry [.ref m0] (n := 1) (Nat.le_of_ble_eq_true rfl)
  rw [lg_entry_eq]
  generalize (lg_sl [.ref m0] ++ List.replicate (1 - (lg_sl [.ref m0]).length) Slot.unset).toArray = ls at hl ⊢
  generalize hag : ([.ref m0] : List Value).toArray = args at hts hQ ⊢
  have hl : lv_has ls 1 [(0, .ref m0)] := hl
  refine lv_aload_n hx hb dX12_here_0 rfl (lv_at hl 0 rfl) ?_
  refine va_get (D := (dC, dI)) (ci := 14) (v := .int 0) (C := RX12) (T := TX12) (N := 23) hx hb hts kc_here0_0 hown hK hP 0 rfl rfl 5 (by decide) (hts (.fieldLink RX12 59 "MistHeapsModel" "spot" "I") kc_here0_1) (fun _ h9 => h9) rfl dX12_here_1 ?_
  refine lv_aload_n hx hb dX12_here_4 rfl (lv_at hl 0 rfl) ?_
  refine va_get (D := (dC, dI)) (ci := 14) (v := .int 0) (C := RX12) (T := TX12) (N := 23) hx hb hts kc_here0_0 hown hK hP 0 rfl rfl 6 (by decide) (hts (.fieldLink RX12 62 "MistHeapsModel" "end" "I") kc_here0_2) (fun _ h9 => h9) rfl dX12_here_5 ?_
  refine lv_icmp_ge (tgt := 26) hx hb dX12_here_8 (by decide) (fun _ => ?_) (fun c_1 => absurd c_1 (by decide))
  refine lv_iconst (v := (-1)) hx hb dX12_here_26 (by decide) ?_
  rw [hQ]
  exact W.iret (v := (-1)) hx hb hr (fun tQ htQ hWQ => ⟨(-1), rfl, rfl, by rw [htQ]⟩) (fun q hq => absurd hq List.not_mem_nil) dX12_here_27

theorem kc_clause0_0 : ∀ w ∈ wsX120, w ∈ wsX12_clauseHere := by decide +kernel
theorem kc_clause0_1 : (.fieldLink RX12 65 "MistHeapsModel" "isWrong" "Z" : Cond) ∈ wsX12_clauseHere := by decide +kernel
set_option maxHeartbeats 4000000 in
set_option maxRecDepth 100000 in
theorem c_clause0 (l : Launch) (dC : Nat → ClassId) (dI : Nat → Nat → Nat) (m0 aS aI aB aT aG aO aN aD aY : Nat) (bv : Int64) (sz : Nat) : Met l yX12_clauseHere wsX12_clauseHere ({ frames := 1, cells := 0, slots := 0, locals := 20 } : Room) (va_Pc [.ref m0] (fun U => U.heap.size = sz ∧ va_P (dC, dI) vwCl [(m0, .inr (14, [.int 0, .ref aS, .ref aI, .int 0, .int 0, .int 0, .int 0, .int 0, .int 0, .ref aB, .ref aT, .int 0, .int 0, .ref aG, .ref aO, .ref aN, .ref aD, .long bv, .ref aY, .int 0, .int 0, .int 0, .int 0]))] U.heap ∧ va_K (dC, dI) vwCl [] U ∧ va_D (fun _ => True) [(m0, .inr (14, [.int 0, .ref aS, .ref aI, .int 0, .int 0, .int 0, .int 0, .int 0, .int 0, .ref aB, .ref aT, .int 0, .int 0, .ref aG, .ref aO, .ref aN, .ref aD, .long bv, .ref aY, .int 0, .int 0, .int 0, .int 0]))])) (va_Qv (fun (u : Unit) => match u with | () => True) (fun (u : Unit) (t : State) => match u with | () => va_P (dC, dI) vwCl [(m0, .inr (14, [.int 0, .ref aS, .ref aI, .int 0, .int 0, .int 0, .int 0, .int 1, .int 0, .ref aB, .ref aT, .int 0, .int 0, .ref aG, .ref aO, .ref aN, .ref aD, .long bv, .ref aY, .int 0, .int 0, .int 0, .int 0]))] t.heap ∧ va_K (dC, dI) vwCl [] t ∧ va_D (va_A [(m0, .inr (14, [.int 0, .ref aS, .ref aI, .int 0, .int 0, .int 0, .int 0, .int 0, .int 0, .ref aB, .ref aT, .int 0, .int 0, .ref aG, .ref aO, .ref aN, .ref aD, .long bv, .ref aY, .int 0, .int 0, .int 0, .int 0]))] sz) [(m0, .inr (14, [.int 0, .ref aS, .ref aI, .int 0, .int 0, .int 0, .int 0, .int 1, .int 0, .ref aB, .ref aT, .int 0, .int 0, .ref aG, .ref aO, .ref aN, .ref aD, .long bv, .ref aY, .int 0, .int 0, .int 0, .int 0]))]) (va_A [(m0, .inr (14, [.int 0, .ref aS, .ref aI, .int 0, .int 0, .int 0, .int 0, .int 0, .int 0, .ref aB, .ref aT, .int 0, .int 0, .ref aG, .ref aO, .ref aN, .ref aD, .long bv, .ref aY, .int 0, .int 0, .int 0, .int 0]))] sz)) 0 0 (va_A [(m0, .inr (14, [.int 0, .ref aS, .ref aI, .int 0, .int 0, .int 0, .int 0, .int 0, .int 0, .ref aB, .ref aT, .int 0, .int 0, .ref aG, .ref aO, .ref aN, .ref aD, .long bv, .ref aY, .int 0, .int 0, .int 0, .int 0]))] sz) := by
  refine met_ofQ (cc := cX12_clauseHere) (maxL := 1) (ret := none) (by decide) rfl ?_
  intro p e s m args below meth c s₁ Q B hml hv hQ
  obtain ⟨rfl, hsz, hP, hK, hD0⟩ := hv
  have hx := B.exec
  have hb := B.bytes
  have hr := B.returns
  have hts := atoms_spec (ws := wsX12_clauseHere) B.pre
  have hown : s.vm.findClass RX12 = some m.cls := findClass_of_methodNamed B.named
  have hlocks := B.notSynchronized
  subst hsz
  have hD := hD0.self (sz := s.heap.size)
  generalize hAe : va_A [(m0, .inr (14, [.int 0, .ref aS, .ref aI, .int 0, .int 0, .int 0, .int 0, .int 0, .int 0, .ref aB, .ref aT, .int 0, .int 0, .ref aG, .ref aO, .ref aN, .ref aD, .long bv, .ref aY, .int 0, .int 0, .int 0, .int 0]))] s.heap.size = A at hD hQ ⊢
  have hA : ∀ q : Nat, s.heap.size ≤ q → A q := fun q h => by rw [← hAe]; exact Or.inr h
  have hS : va_S A s.heap s.heap [] := va_S.rf
  have hl := lv_entry [.ref m0] (n := 1) (Nat.le_of_ble_eq_true rfl)
  rw [lg_entry_eq]
  generalize (lg_sl [.ref m0] ++ List.replicate (1 - (lg_sl [.ref m0]).length) Slot.unset).toArray = ls at hl ⊢
  generalize hag : ([.ref m0] : List Value).toArray = args at hts hQ ⊢
  have hl : lv_has ls 1 [(0, .ref m0)] := hl
  obtain ⟨H, hH⟩ : ∃ H : Heap, H = s.heap := ⟨_, rfl⟩
  rw [← hH] at hP
  rw [← hH]
  have hS : va_S A s.heap H [] := by rw [hH]; exact hS
  obtain ⟨locs, hlo⟩ : ∃ L : List Loc, L = [] := ⟨_, rfl⟩
  rw [← hlo] at hS
  rw [← hlo]
  clear hH hlo
  refine lv_aload_n hx hb dX12_clauseHere_0 rfl (lv_at hl 0 rfl) ?_
  have hPc := hP.sub (ws' := [(m0, .inr (14, [.int 0, .ref aS, .ref aI, .int 0, .int 0, .int 0, .int 0, .int 0, .int 0, .ref aB, .ref aT, .int 0, .int 0, .ref aG, .ref aO, .ref aN, .ref aD, .long bv, .ref aY, .int 0, .int 0, .int 0, .int 0]))]) [0] rfl
  have hKc := hK.sub (tys' := []) [] rfl
  refine vp_callSi (va_runV (As := []) (rest := []) ⟨hx, hb, hml, hown, hts⟩ (c_here0 l dC dI m0 aS aI aB aT aG aO aN aD aY bv) (cwV 0 hts gX12_clauseHere_X12_here rfl rfl rfl (by decide +kernel) ⟨Nat.le_of_ble_eq_true rfl, Nat.le_of_ble_eq_true rfl⟩) ⟨fun a U g mk q => by obtain ⟨q0, qP, qK⟩ := q; exact ⟨q0, qP, va_K.moved (u := U) (U := U.calling g mk a) (Vm.Alike.refl U.vm) qK⟩, va_recv hK hP (ci := 14) (q0 := 0) rfl rfl, fun U hU hW => ⟨rfl, by rw [hU]; exact hPc, va_K.moved hW.alike hKc⟩⟩ rfl rfl hl.1 rfl (lv_room (Nat.le_of_ble_eq_true rfl)) dX12_clauseHere_1 ⟨Nat.le_of_ble_eq_true rfl, Nat.le_of_ble_eq_true rfl⟩).run (fun r_1 hw_2 => ?_)
  refine qi_as (y := (-1)) (hw_2) ?_
  refine lv_lookup (tgt := 71) hx hb dX12_clauseHere_4 (by decide) rfl (by decide) ?_
  refine lv_aload_n hx hb dX12_clauseHere_71 rfl (lv_at hl 0 rfl) ?_
  refine lv_iconst (v := 1) hx hb dX12_clauseHere_72 (by decide) ?_
  refine va_put (D := (dC, dI)) (ci := 14) (v := .int 1) (ty := .boolean) (C := RX12) (T := TX12) (N := 23) hx hb hts kc_clause0_0 tyX12 tyX12_ok nmX12 hown hK hP hD hS 0 rfl rfl 7 (by decide) (hts (.fieldLink RX12 65 "MistHeapsModel" "isWrong" "Z") kc_clause0_1) (fun _ h9 => h9) rfl (by decide +kernel) rfl rfl (Nat.le_of_ble_eq_true rfl) dX12_clauseHere_73 (fun H locs hP hD hS => ?_)
  have hP : va_P (dC, dI) vwCl [(m0, .inr (14, [.int 0, .ref aS, .ref aI, .int 0, .int 0, .int 0, .int 0, .int 1, .int 0, .ref aB, .ref aT, .int 0, .int 0, .ref aG, .ref aO, .ref aN, .ref aD, .long bv, .ref aY, .int 0, .int 0, .int 0, .int 0]))] H := hP
  have hD : va_D A [(m0, .inr (14, [.int 0, .ref aS, .ref aI, .int 0, .int 0, .int 0, .int 0, .int 1, .int 0, .ref aB, .ref aT, .int 0, .int 0, .ref aG, .ref aO, .ref aN, .ref aD, .long bv, .ref aY, .int 0, .int 0, .int 0, .int 0]))] := hD
  rw [hQ]
  have hP9 := hP.sub (ws' := [(m0, .inr (14, [.int 0, .ref aS, .ref aI, .int 0, .int 0, .int 0, .int 0, .int 1, .int 0, .ref aB, .ref aT, .int 0, .int 0, .ref aG, .ref aO, .ref aN, .ref aD, .long bv, .ref aY, .int 0, .int 0, .int 0, .int 0]))]) [0] rfl
  have hD9 := hD.sub (ws' := [(m0, .inr (14, [.int 0, .ref aS, .ref aI, .int 0, .int 0, .int 0, .int 0, .int 1, .int 0, .ref aB, .ref aT, .int 0, .int 0, .ref aG, .ref aO, .ref aN, .ref aD, .long bv, .ref aY, .int 0, .int 0, .int 0, .int 0]))]) [0] (by decide) rfl
  have hK9 := hK.sub (tys' := []) [] rfl
  exact W.vret hx hb hr (fun tQ htQ hWQ => ⟨⟨(), rfl, trivial, by rw [htQ]; exact hP9, va_K.moved hWQ.alike hK9, hD9⟩, hS.F htQ⟩) hS.2.2 dX12_clauseHere_76

theorem kc_mHill_0 : ∀ w ∈ wsX120, w ∈ wsX12_hill := by decide +kernel
theorem kc_mHill_1 : (.fieldLink RX12 9 "MistHeapsModel" "s" "[I" : Cond) ∈ wsX12_hill := by decide +kernel
theorem kc_mHill_2 : (.fieldLink RX12 86 "MistHeapsModel" "act" "I" : Cond) ∈ wsX12_hill := by decide +kernel
theorem kc_mHill_3 : (.fieldLink RX12 62 "MistHeapsModel" "end" "I" : Cond) ∈ wsX12_hill := by decide +kernel
theorem kc_mHill_4 : (.fieldLink RX12 59 "MistHeapsModel" "spot" "I" : Cond) ∈ wsX12_hill := by decide +kernel
theorem kc_mHill_5 : (.fieldLink RX12 65 "MistHeapsModel" "isWrong" "Z" : Cond) ∈ wsX12_hill := by decide +kernel
theorem kc_mHill_6 : (.fieldLink RX12 89 "MistHeapsModel" "open" "I" : Cond) ∈ wsX12_hill := by decide +kernel
set_option maxHeartbeats 4000000 in
set_option maxRecDepth 100000 in
theorem c_mHill (l : Launch) (dC : Nat → ClassId) (dI : Nat → Nat → Nat) (m0 aS aI aB aT aG aO aN aD aY : Nat) (bv : Int64) (cS : ClassId) (sz : Nat) : Met l yX12_hill wsX12_hill ({ frames := 2, cells := 0, slots := 0, locals := 40 } : Room) (va_Pc [.ref m0] (fun U => U.heap.size = sz ∧ va_P (dC, dI) vwCl [(m0, .inr (14, [.int 0, .ref aS, .ref aI, .int 0, .int 0, .int 0, .int 0, .int 0, .int 0, .ref aB, .ref aT, .int 0, .int 0, .ref aG, .ref aO, .ref aN, .ref aD, .long bv, .ref aY, .int 0, .int 0, .int 0, .int 0])), (aS, .inl (cS, 901, .inl s0))] U.heap ∧ va_K (dC, dI) vwCl [(cS, .int)] U ∧ va_D (fun _ => True) [(m0, .inr (14, [.int 0, .ref aS, .ref aI, .int 0, .int 0, .int 0, .int 0, .int 0, .int 0, .ref aB, .ref aT, .int 0, .int 0, .ref aG, .ref aO, .ref aN, .ref aD, .long bv, .ref aY, .int 0, .int 0, .int 0, .int 0])), (aS, .inl (cS, 901, .inl s0))])) (va_Qi (fun (r : Int32) (u : Unit) => match u with | () => r = -10) (fun (u : Unit) (t : State) => match u with | () => True) (va_A [(m0, .inr (14, [.int 0, .ref aS, .ref aI, .int 0, .int 0, .int 0, .int 0, .int 0, .int 0, .ref aB, .ref aT, .int 0, .int 0, .ref aG, .ref aO, .ref aN, .ref aD, .long bv, .ref aY, .int 0, .int 0, .int 0, .int 0])), (aS, .inl (cS, 901, .inl s0))] sz)) 0 0 (va_A [(m0, .inr (14, [.int 0, .ref aS, .ref aI, .int 0, .int 0, .int 0, .int 0, .int 0, .int 0, .ref aB, .ref aT, .int 0, .int 0, .ref aG, .ref aO, .ref aN, .ref aD, .long bv, .ref aY, .int 0, .int 0, .int 0, .int 0])), (aS, .inl (cS, 901, .inl s0))] sz) := by
  refine met_ofQ (cc := cX12_hill) (maxL := 2) (ret := (some .int)) (by decide) rfl ?_
  intro p e s m args below meth c s₁ Q B hml hv hQ
  obtain ⟨rfl, hsz, hP, hK, hD0⟩ := hv
  have hx := B.exec
  have hb := B.bytes
  have hr := B.returns
  have hts := atoms_spec (ws := wsX12_hill) B.pre
  have hown : s.vm.findClass RX12 = some m.cls := findClass_of_methodNamed B.named
  have hlocks := B.notSynchronized
  subst hsz
  have hD := hD0.self (sz := s.heap.size)
  generalize hAe : va_A [(m0, .inr (14, [.int 0, .ref aS, .ref aI, .int 0, .int 0, .int 0, .int 0, .int 0, .int 0, .ref aB, .ref aT, .int 0, .int 0, .ref aG, .ref aO, .ref aN, .ref aD, .long bv, .ref aY, .int 0, .int 0, .int 0, .int 0])), (aS, .inl (cS, 901, .inl s0))] s.heap.size = A at hD hQ ⊢
  have hA : ∀ q : Nat, s.heap.size ≤ q → A q := fun q h => by rw [← hAe]; exact Or.inr h
  have hS : va_S A s.heap s.heap [] := va_S.rf
  have hl := lv_entry [.ref m0] (n := 2) (Nat.le_of_ble_eq_true rfl)
  rw [lg_entry_eq]
  generalize (lg_sl [.ref m0] ++ List.replicate (2 - (lg_sl [.ref m0]).length) Slot.unset).toArray = ls at hl ⊢
  generalize hag : ([.ref m0] : List Value).toArray = args at hts hQ ⊢
  have hl : lv_has ls 2 [(0, .ref m0)] := hl
  obtain ⟨H, hH⟩ : ∃ H : Heap, H = s.heap := ⟨_, rfl⟩
  rw [← hH] at hP
  rw [← hH]
  have hS : va_S A s.heap H [] := by rw [hH]; exact hS
  obtain ⟨locs, hlo⟩ : ∃ L : List Loc, L = [] := ⟨_, rfl⟩
  rw [← hlo] at hS
  rw [← hlo]
  clear hH hlo
  refine lv_aload_n hx hb dX12_hill_0 rfl (lv_at hl 0 rfl) ?_
  refine va_get (D := (dC, dI)) (ci := 14) (v := .ref aS) (C := RX12) (T := TX12) (N := 23) hx hb hts kc_mHill_0 hown hK hP 0 rfl rfl 1 (by decide) (hts (.fieldLink RX12 9 "MistHeapsModel" "s" "[I") kc_mHill_1) (fun _ h9 => h9) rfl dX12_hill_1 ?_
  refine lv_iconst (v := 1) hx hb dX12_hill_4 (by decide) ?_
  refine va_iald hx hb hK hP 1 0 rfl rfl (vp_in_nI (n := 1) (N := 901) (by omega) (by omega)) dX12_hill_5 ?_
  refine qi_as (y := 0) (rfl) ?_
  refine lv_iconst (v := 5) hx hb dX12_hill_6 (by decide) ?_
  refine lv_icmp_ne (tgt := 13) hx hb dX12_hill_7 (by decide) (fun _ => ?_) (fun c_1 => absurd c_1 (by decide))
  refine lv_aload_n hx hb dX12_hill_13 rfl (lv_at hl 0 rfl) ?_
  refine lv_aload_n hx hb dX12_hill_14 rfl (lv_at hl 0 rfl) ?_
  refine va_get (D := (dC, dI)) (ci := 14) (v := .ref aS) (C := RX12) (T := TX12) (N := 23) hx hb hts kc_mHill_0 hown hK hP 0 rfl rfl 1 (by decide) (hts (.fieldLink RX12 9 "MistHeapsModel" "s" "[I") kc_mHill_1) (fun _ h9 => h9) rfl dX12_hill_15 ?_
  refine lv_iconst (v := 1) hx hb dX12_hill_18 (by decide) ?_
  refine va_iald hx hb hK hP 1 0 rfl rfl (vp_in_nI (n := 1) (N := 901) (by omega) (by omega)) dX12_hill_19 ?_
  refine qi_as (y := 0) (rfl) ?_
  refine va_put (D := (dC, dI)) (ci := 14) (v := .int 0) (ty := .int) (C := RX12) (T := TX12) (N := 23) hx hb hts kc_mHill_0 tyX12 tyX12_ok nmX12 hown hK hP hD hS 0 rfl rfl 4 (by decide) (hts (.fieldLink RX12 86 "MistHeapsModel" "act" "I") kc_mHill_2) (fun _ h9 => h9) rfl (by decide +kernel) rfl rfl (Nat.le_of_ble_eq_true rfl) dX12_hill_20 (fun H locs hP hD hS => ?_)
  have hP : va_P (dC, dI) vwCl [(m0, .inr (14, [.int 0, .ref aS, .ref aI, .int 0, .int 0, .int 0, .int 0, .int 0, .int 0, .ref aB, .ref aT, .int 0, .int 0, .ref aG, .ref aO, .ref aN, .ref aD, .long bv, .ref aY, .int 0, .int 0, .int 0, .int 0])), (aS, .inl (cS, 901, .inl s0))] H := hP
  have hD : va_D A [(m0, .inr (14, [.int 0, .ref aS, .ref aI, .int 0, .int 0, .int 0, .int 0, .int 0, .int 0, .ref aB, .ref aT, .int 0, .int 0, .ref aG, .ref aO, .ref aN, .ref aD, .long bv, .ref aY, .int 0, .int 0, .int 0, .int 0])), (aS, .inl (cS, 901, .inl s0))] := hD
  refine lv_aload_n hx hb dX12_hill_23 rfl (lv_at hl 0 rfl) ?_
  refine lv_aload_n hx hb dX12_hill_24 rfl (lv_at hl 0 rfl) ?_
  refine va_get (D := (dC, dI)) (ci := 14) (v := .ref aS) (C := RX12) (T := TX12) (N := 23) hx hb hts kc_mHill_0 hown hK hP 0 rfl rfl 1 (by decide) (hts (.fieldLink RX12 9 "MistHeapsModel" "s" "[I") kc_mHill_1) (fun _ h9 => h9) rfl dX12_hill_25 ?_
  refine lv_iconst (v := 4) hx hb dX12_hill_28 (by decide) ?_
  refine va_iald hx hb hK hP 1 0 rfl rfl (vp_in_nI (n := 4) (N := 901) (by omega) (by omega)) dX12_hill_29 ?_
  refine qi_as (y := 0) (rfl) ?_
  refine va_put (D := (dC, dI)) (ci := 14) (v := .int 0) (ty := .int) (C := RX12) (T := TX12) (N := 23) hx hb hts kc_mHill_0 tyX12 tyX12_ok nmX12 hown hK hP hD hS 0 rfl rfl 6 (by decide) (hts (.fieldLink RX12 62 "MistHeapsModel" "end" "I") kc_mHill_3) (fun _ h9 => h9) rfl (by decide +kernel) rfl rfl (Nat.le_of_ble_eq_true rfl) dX12_hill_30 (fun H locs hP hD hS => ?_)
  have hP : va_P (dC, dI) vwCl [(m0, .inr (14, [.int 0, .ref aS, .ref aI, .int 0, .int 0, .int 0, .int 0, .int 0, .int 0, .ref aB, .ref aT, .int 0, .int 0, .ref aG, .ref aO, .ref aN, .ref aD, .long bv, .ref aY, .int 0, .int 0, .int 0, .int 0])), (aS, .inl (cS, 901, .inl s0))] H := hP
  have hD : va_D A [(m0, .inr (14, [.int 0, .ref aS, .ref aI, .int 0, .int 0, .int 0, .int 0, .int 0, .int 0, .ref aB, .ref aT, .int 0, .int 0, .ref aG, .ref aO, .ref aN, .ref aD, .long bv, .ref aY, .int 0, .int 0, .int 0, .int 0])), (aS, .inl (cS, 901, .inl s0))] := hD
  refine lv_aload_n hx hb dX12_hill_33 rfl (lv_at hl 0 rfl) ?_
  refine va_get (D := (dC, dI)) (ci := 14) (v := .ref aS) (C := RX12) (T := TX12) (N := 23) hx hb hts kc_mHill_0 hown hK hP 0 rfl rfl 1 (by decide) (hts (.fieldLink RX12 9 "MistHeapsModel" "s" "[I") kc_mHill_1) (fun _ h9 => h9) rfl dX12_hill_34 ?_
  refine lv_iconst (v := 4) hx hb dX12_hill_37 (by decide) ?_
  refine lv_iconst (v := 0) hx hb dX12_hill_38 (by decide) ?_
  refine va_iast hx hb hK hP hD hS 1 0 rfl rfl (vp_in_nI (n := 4) (N := 901) (by omega) (by omega)) dX12_hill_39 (fun H locs hP hD hS => ?_)
  have hP : va_P (dC, dI) vwCl [(m0, .inr (14, [.int 0, .ref aS, .ref aI, .int 0, .int 0, .int 0, .int 0, .int 0, .int 0, .ref aB, .ref aT, .int 0, .int 0, .ref aG, .ref aO, .ref aN, .ref aD, .long bv, .ref aY, .int 0, .int 0, .int 0, .int 0])), (aS, .inl (cS, 901, .inl (upd s0 4 0)))] H := hP
  have hD : va_D A [(m0, .inr (14, [.int 0, .ref aS, .ref aI, .int 0, .int 0, .int 0, .int 0, .int 0, .int 0, .ref aB, .ref aT, .int 0, .int 0, .ref aG, .ref aO, .ref aN, .ref aD, .long bv, .ref aY, .int 0, .int 0, .int 0, .int 0])), (aS, .inl (cS, 901, .inl (upd s0 4 0)))] := hD
  refine lv_aload_n hx hb dX12_hill_40 rfl (lv_at hl 0 rfl) ?_
  refine va_get (D := (dC, dI)) (ci := 14) (v := .ref aS) (C := RX12) (T := TX12) (N := 23) hx hb hts kc_mHill_0 hown hK hP 0 rfl rfl 1 (by decide) (hts (.fieldLink RX12 9 "MistHeapsModel" "s" "[I") kc_mHill_1) (fun _ h9 => h9) rfl dX12_hill_41 ?_
  refine lv_sipush (v := 191) hx hb dX12_hill_44 (by decide) ?_
  refine lv_aload_n hx hb dX12_hill_47 rfl (lv_at hl 0 rfl) ?_
  refine va_get (D := (dC, dI)) (ci := 14) (v := .int 0) (C := RX12) (T := TX12) (N := 23) hx hb hts kc_mHill_0 hown hK hP 0 rfl rfl 4 (by decide) (hts (.fieldLink RX12 86 "MistHeapsModel" "act" "I") kc_mHill_2) (fun _ h9 => h9) rfl dX12_hill_48 ?_
  refine lv_iadd hx hb dX12_hill_51 ?_
  refine qi_as (y := 191) (by decide) ?_
  refine lv_iconst (v := 3) hx hb dX12_hill_52 (by decide) ?_
  refine va_iast hx hb hK hP hD hS 1 0 rfl rfl (vp_in_nI (n := 191) (N := 901) (by omega) (by omega)) dX12_hill_53 (fun H locs hP hD hS => ?_)
  have hP : va_P (dC, dI) vwCl [(m0, .inr (14, [.int 0, .ref aS, .ref aI, .int 0, .int 0, .int 0, .int 0, .int 0, .int 0, .ref aB, .ref aT, .int 0, .int 0, .ref aG, .ref aO, .ref aN, .ref aD, .long bv, .ref aY, .int 0, .int 0, .int 0, .int 0])), (aS, .inl (cS, 901, .inl (upd (upd s0 4 0) 191 3)))] H := hP
  have hD : va_D A [(m0, .inr (14, [.int 0, .ref aS, .ref aI, .int 0, .int 0, .int 0, .int 0, .int 0, .int 0, .ref aB, .ref aT, .int 0, .int 0, .ref aG, .ref aO, .ref aN, .ref aD, .long bv, .ref aY, .int 0, .int 0, .int 0, .int 0])), (aS, .inl (cS, 901, .inl (upd (upd s0 4 0) 191 3)))] := hD
  refine lv_aload_n hx hb dX12_hill_54 rfl (lv_at hl 0 rfl) ?_
  refine va_get (D := (dC, dI)) (ci := 14) (v := .ref aS) (C := RX12) (T := TX12) (N := 23) hx hb hts kc_mHill_0 hown hK hP 0 rfl rfl 1 (by decide) (hts (.fieldLink RX12 9 "MistHeapsModel" "s" "[I") kc_mHill_1) (fun _ h9 => h9) rfl dX12_hill_55 ?_
  refine lv_sipush (v := 196) hx hb dX12_hill_58 (by decide) ?_
  refine lv_aload_n hx hb dX12_hill_61 rfl (lv_at hl 0 rfl) ?_
  refine va_get (D := (dC, dI)) (ci := 14) (v := .int 0) (C := RX12) (T := TX12) (N := 23) hx hb hts kc_mHill_0 hown hK hP 0 rfl rfl 4 (by decide) (hts (.fieldLink RX12 86 "MistHeapsModel" "act" "I") kc_mHill_2) (fun _ h9 => h9) rfl dX12_hill_62 ?_
  refine lv_iadd hx hb dX12_hill_65 ?_
  refine qi_as (y := 196) (by decide) ?_
  refine lv_iconst (v := 0) hx hb dX12_hill_66 (by decide) ?_
  refine va_iast hx hb hK hP hD hS 1 0 rfl rfl (vp_in_nI (n := 196) (N := 901) (by omega) (by omega)) dX12_hill_67 (fun H locs hP hD hS => ?_)
  have hP : va_P (dC, dI) vwCl [(m0, .inr (14, [.int 0, .ref aS, .ref aI, .int 0, .int 0, .int 0, .int 0, .int 0, .int 0, .ref aB, .ref aT, .int 0, .int 0, .ref aG, .ref aO, .ref aN, .ref aD, .long bv, .ref aY, .int 0, .int 0, .int 0, .int 0])), (aS, .inl (cS, 901, .inl (upd (upd (upd s0 4 0) 191 3) 196 0)))] H := hP
  have hD : va_D A [(m0, .inr (14, [.int 0, .ref aS, .ref aI, .int 0, .int 0, .int 0, .int 0, .int 0, .int 0, .ref aB, .ref aT, .int 0, .int 0, .ref aG, .ref aO, .ref aN, .ref aD, .long bv, .ref aY, .int 0, .int 0, .int 0, .int 0])), (aS, .inl (cS, 901, .inl (upd (upd (upd s0 4 0) 191 3) 196 0)))] := hD
  refine lv_aload_n hx hb dX12_hill_68 rfl (lv_at hl 0 rfl) ?_
  refine lv_iconst (v := 0) hx hb dX12_hill_69 (by decide) ?_
  refine va_put (D := (dC, dI)) (ci := 14) (v := .int 0) (ty := .int) (C := RX12) (T := TX12) (N := 23) hx hb hts kc_mHill_0 tyX12 tyX12_ok nmX12 hown hK hP hD hS 0 rfl rfl 5 (by decide) (hts (.fieldLink RX12 59 "MistHeapsModel" "spot" "I") kc_mHill_4) (fun _ h9 => h9) rfl (by decide +kernel) rfl rfl (Nat.le_of_ble_eq_true rfl) dX12_hill_70 (fun H locs hP hD hS => ?_)
  have hP : va_P (dC, dI) vwCl [(m0, .inr (14, [.int 0, .ref aS, .ref aI, .int 0, .int 0, .int 0, .int 0, .int 0, .int 0, .ref aB, .ref aT, .int 0, .int 0, .ref aG, .ref aO, .ref aN, .ref aD, .long bv, .ref aY, .int 0, .int 0, .int 0, .int 0])), (aS, .inl (cS, 901, .inl (upd (upd (upd s0 4 0) 191 3) 196 0)))] H := hP
  have hD : va_D A [(m0, .inr (14, [.int 0, .ref aS, .ref aI, .int 0, .int 0, .int 0, .int 0, .int 0, .int 0, .ref aB, .ref aT, .int 0, .int 0, .ref aG, .ref aO, .ref aN, .ref aD, .long bv, .ref aY, .int 0, .int 0, .int 0, .int 0])), (aS, .inl (cS, 901, .inl (upd (upd (upd s0 4 0) 191 3) 196 0)))] := hD
  refine lv_aload_n hx hb dX12_hill_73 rfl (lv_at hl 0 rfl) ?_
  refine lv_iconst (v := 0) hx hb dX12_hill_74 (by decide) ?_
  refine va_put (D := (dC, dI)) (ci := 14) (v := .int 0) (ty := .boolean) (C := RX12) (T := TX12) (N := 23) hx hb hts kc_mHill_0 tyX12 tyX12_ok nmX12 hown hK hP hD hS 0 rfl rfl 7 (by decide) (hts (.fieldLink RX12 65 "MistHeapsModel" "isWrong" "Z") kc_mHill_5) (fun _ h9 => h9) rfl (by decide +kernel) rfl rfl (Nat.le_of_ble_eq_true rfl) dX12_hill_75 (fun H locs hP hD hS => ?_)
  have hP : va_P (dC, dI) vwCl [(m0, .inr (14, [.int 0, .ref aS, .ref aI, .int 0, .int 0, .int 0, .int 0, .int 0, .int 0, .ref aB, .ref aT, .int 0, .int 0, .ref aG, .ref aO, .ref aN, .ref aD, .long bv, .ref aY, .int 0, .int 0, .int 0, .int 0])), (aS, .inl (cS, 901, .inl (upd (upd (upd s0 4 0) 191 3) 196 0)))] H := hP
  have hD : va_D A [(m0, .inr (14, [.int 0, .ref aS, .ref aI, .int 0, .int 0, .int 0, .int 0, .int 0, .int 0, .ref aB, .ref aT, .int 0, .int 0, .ref aG, .ref aO, .ref aN, .ref aD, .long bv, .ref aY, .int 0, .int 0, .int 0, .int 0])), (aS, .inl (cS, 901, .inl (upd (upd (upd s0 4 0) 191 3) 196 0)))] := hD
  refine lv_aload_n hx hb dX12_hill_78 rfl (lv_at hl 0 rfl) ?_
  refine lv_iconst (v := 0) hx hb dX12_hill_79 (by decide) ?_
  refine va_put (D := (dC, dI)) (ci := 14) (v := .int 0) (ty := .int) (C := RX12) (T := TX12) (N := 23) hx hb hts kc_mHill_0 tyX12 tyX12_ok nmX12 hown hK hP hD hS 0 rfl rfl 8 (by decide) (hts (.fieldLink RX12 89 "MistHeapsModel" "open" "I") kc_mHill_6) (fun _ h9 => h9) rfl (by decide +kernel) rfl rfl (Nat.le_of_ble_eq_true rfl) dX12_hill_80 (fun H locs hP hD hS => ?_)
  have hP : va_P (dC, dI) vwCl [(m0, .inr (14, [.int 0, .ref aS, .ref aI, .int 0, .int 0, .int 0, .int 0, .int 0, .int 0, .ref aB, .ref aT, .int 0, .int 0, .ref aG, .ref aO, .ref aN, .ref aD, .long bv, .ref aY, .int 0, .int 0, .int 0, .int 0])), (aS, .inl (cS, 901, .inl (upd (upd (upd s0 4 0) 191 3) 196 0)))] H := hP
  have hD : va_D A [(m0, .inr (14, [.int 0, .ref aS, .ref aI, .int 0, .int 0, .int 0, .int 0, .int 0, .int 0, .ref aB, .ref aT, .int 0, .int 0, .ref aG, .ref aO, .ref aN, .ref aD, .long bv, .ref aY, .int 0, .int 0, .int 0, .int 0])), (aS, .inl (cS, 901, .inl (upd (upd (upd s0 4 0) 191 3) 196 0)))] := hD
  refine lv_iconst (v := 1) hx hb dX12_hill_83 (by decide) ?_
  refine lv_istore_n (lv' := [(1, .int 1), (0, .ref m0)]) hx hb dX12_hill_84 rfl hl (by decide) rfl (fun ls hl => ?_)
  refine lv_aload_n hx hb dX12_hill_85 rfl (lv_at hl 1 rfl) ?_
  have hPc := hP.sub (ws' := [(m0, .inr (14, [.int 0, .ref aS, .ref aI, .int 0, .int 0, .int 0, .int 0, .int 0, .int 0, .ref aB, .ref aT, .int 0, .int 0, .ref aG, .ref aO, .ref aN, .ref aD, .long bv, .ref aY, .int 0, .int 0, .int 0, .int 0]))]) [0] rfl
  have hDc := hD.sub (ws' := [(m0, .inr (14, [.int 0, .ref aS, .ref aI, .int 0, .int 0, .int 0, .int 0, .int 0, .int 0, .ref aB, .ref aT, .int 0, .int 0, .ref aG, .ref aO, .ref aN, .ref aD, .long bv, .ref aY, .int 0, .int 0, .int 0, .int 0]))]) [0] (by decide) rfl
  have hKc := hK.sub (tys' := []) [] rfl
  have hFc := va_free (wc := [(m0, .inr (14, [.int 0, .ref aS, .ref aI, .int 0, .int 0, .int 0, .int 0, .int 0, .int 0, .ref aB, .ref aT, .int 0, .int 0, .ref aG, .ref aO, .ref aN, .ref aD, .long bv, .ref aY, .int 0, .int 0, .int 0, .int 0]))]) hD hS hA [0] rfl
  refine va_callv (va_runV (As := []) (rest := []) ⟨hx, hb, hml, hown, hts⟩ (c_clause0 l dC dI m0 aS aI aB aT aG aO aN aD aY bv H.size) (cwV 0 hts gX12_hill_X12_clauseHere rfl rfl rfl (by decide +kernel) ⟨Nat.le_of_ble_eq_true rfl, Nat.le_of_ble_eq_true rfl⟩) ⟨fun a U g mk q => by obtain ⟨q0, q1, qP, qK, qD⟩ := q; exact ⟨q0, q1, qP, va_K.moved (u := U) (U := U.calling g mk a) (Vm.Alike.refl U.vm) qK, qD⟩, va_recv hK hP (ci := 14) (q0 := 0) rfl rfl, fun U hU hW => ⟨rfl, by rw [hU], by rw [hU]; exact hPc, va_K.moved hW.alike hKc, hDc.weaken (fun _ _ _ _ => trivial)⟩⟩ rfl rfl hl.1 rfl (lv_room (Nat.le_of_ble_eq_true rfl)) dX12_hill_86 ⟨Nat.le_of_ble_eq_true rfl, Nat.le_of_ble_eq_true rfl⟩) hS (fun q _ h => hFc q h) hFc (fun u tC H1 locs htC hvm hw_3 hB hz1 hk1 hS => ?_)
  obtain ⟨⟩ := u
  try dsimp only at hw_3 hB
  obtain ⟨hP1, hK1, hD1⟩ := hB
  rw [htC] at hP1
  have hK1 := va_K.moved hvm.symm hK1
  obtain ⟨hP, hD⟩ := va_join (wr := [(aS, .inl (cS, 901, .inl (upd (upd (upd s0 4 0) 191 3) 196 0)))]) (w1 := [(m0, .inr (14, [.int 0, .ref aS, .ref aI, .int 0, .int 0, .int 0, .int 0, .int 1, .int 0, .ref aB, .ref aT, .int 0, .int 0, .ref aG, .ref aO, .ref aN, .ref aD, .long bv, .ref aY, .int 0, .int 0, .int 0, .int 0]))]) hP hD [0] [1] rfl rfl (by decide) (by decide) hk1 hFc hP1 hD1
  have hK := (hK.sub (tys' := [(cS, .int)]) [0] rfl).app hK1
  generalize H1 = H at hP hS ⊢
  have hP : va_P (dC, dI) vwCl [(aS, .inl (cS, 901, .inl (upd (upd (upd s0 4 0) 191 3) 196 0))), (m0, .inr (14, [.int 0, .ref aS, .ref aI, .int 0, .int 0, .int 0, .int 0, .int 1, .int 0, .ref aB, .ref aT, .int 0, .int 0, .ref aG, .ref aO, .ref aN, .ref aD, .long bv, .ref aY, .int 0, .int 0, .int 0, .int 0]))] H := hP
  have hD : va_D A [(aS, .inl (cS, 901, .inl (upd (upd (upd s0 4 0) 191 3) 196 0))), (m0, .inr (14, [.int 0, .ref aS, .ref aI, .int 0, .int 0, .int 0, .int 0, .int 1, .int 0, .ref aB, .ref aT, .int 0, .int 0, .ref aG, .ref aO, .ref aN, .ref aD, .long bv, .ref aY, .int 0, .int 0, .int 0, .int 0]))] := hD
  have hK : va_K (dC, dI) vwCl [(cS, .int)] s := hK
  refine lv_aload_n hx hb dX12_hill_89 rfl (lv_at hl 1 rfl) ?_
  refine va_get (D := (dC, dI)) (ci := 14) (v := .int 1) (C := RX12) (T := TX12) (N := 23) hx hb hts kc_mHill_0 hown hK hP 1 rfl rfl 7 (by decide) (hts (.fieldLink RX12 65 "MistHeapsModel" "isWrong" "Z") kc_mHill_5) (fun _ h9 => h9) rfl dX12_hill_90 ?_
  refine lv_if_ne (tgt := 131) hx hb dX12_hill_93 (by decide) (fun _ => ?_) (fun c_4 => absurd c_4 (by decide))
  refine lv_aload_n hx hb dX12_hill_131 rfl (lv_at hl 1 rfl) ?_
  refine va_get (D := (dC, dI)) (ci := 14) (v := .int 1) (C := RX12) (T := TX12) (N := 23) hx hb hts kc_mHill_0 hown hK hP 1 rfl rfl 7 (by decide) (hts (.fieldLink RX12 65 "MistHeapsModel" "isWrong" "Z") kc_mHill_5) (fun _ h9 => h9) rfl dX12_hill_132 ?_
  refine lv_if_ne (tgt := 149) hx hb dX12_hill_135 (by decide) (fun _ => ?_) (fun c_5 => absurd c_5 (by decide))
  refine lv_bipush (v := (-10)) hx hb dX12_hill_149 (by decide) ?_
  refine lv_aload_n hx hb dX12_hill_151 rfl (lv_at hl 1 rfl) ?_
  refine va_get (D := (dC, dI)) (ci := 14) (v := .int 0) (C := RX12) (T := TX12) (N := 23) hx hb hts kc_mHill_0 hown hK hP 1 rfl rfl 5 (by decide) (hts (.fieldLink RX12 59 "MistHeapsModel" "spot" "I") kc_mHill_4) (fun _ h9 => h9) rfl dX12_hill_152 ?_
  refine lv_isub hx hb dX12_hill_155 ?_
  refine qi_as (y := (-10)) (by decide) ?_
  rw [hQ]
  exact W.iret (v := (-10)) hx hb hr (fun tQ htQ hWQ => ⟨⟨(-10), (), rfl, rfl, trivial⟩, hS.F htQ⟩) hS.2.2 dX12_hill_156
