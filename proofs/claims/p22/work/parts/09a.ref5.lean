theorem ggX12_driftOf_X12_looks : GoodIn wsX12_driftOf wsX12_looks := gga_of 1328 rfl rfl rfl
theorem gX12_driftOf_X12_looks : GoodIn wsX12_driftOf (wsV RX12 160 RX12 yX12_looks wsX12_looks) := goodIn_app (ggh_of [1325, 1327, 39, 72] rfl rfl rfl) ggX12_driftOf_X12_looks
theorem ggX12_drift_X12_isCell : GoodIn wsX12_drift wsX12_isCell := gga_of 1304 rfl rfl rfl
theorem gX12_drift_X12_isCell : GoodIn wsX12_drift (va_wsS RX12 149 yX12_isCell wsX12_isCell) := goodIn_app (ggh_of [1302, 1303, 72] rfl rfl rfl) ggX12_drift_X12_isCell
theorem ggX12_drift_X12_driftOf : GoodIn wsX12_drift wsX12_driftOf := gga_of 1408 rfl rfl rfl
theorem gX12_drift_X12_driftOf : GoodIn wsX12_drift (wsV RX12 201 RX12 yX12_driftOf wsX12_driftOf) := goodIn_app (ggh_of [1405, 1407, 47, 72] rfl rfl rfl) ggX12_drift_X12_driftOf
theorem ggX12_looksForDrifts_X12_driftOf : GoodIn wsX12_looksForDrifts wsX12_driftOf := gga_of 1408 rfl rfl rfl
theorem gX12_looksForDrifts_X12_driftOf : GoodIn wsX12_looksForDrifts (wsV RX12 201 RX12 yX12_driftOf wsX12_driftOf) := goodIn_app (ggh_of [1405, 1407, 47, 72] rfl rfl rfl) ggX12_looksForDrifts_X12_driftOf
theorem ggX12_goesOn_X12_nextTo : GoodIn wsX12_goesOn wsX12_nextTo := gga_of 1432 rfl rfl rfl
theorem gX12_goesOn_X12_nextTo : GoodIn wsX12_goesOn (va_wsS RX12 206 yX12_nextTo wsX12_nextTo) := goodIn_app (ggh_of [1430, 1431, 72] rfl rfl rfl) ggX12_goesOn_X12_nextTo
theorem ggX12_seen_X12_isSeen : GoodIn wsX12_seen wsX12_isSeen := gga_of 1340 rfl rfl rfl
theorem gX12_seen_X12_isSeen : GoodIn wsX12_seen (wsV RX12 174 RX12 yX12_isSeen wsX12_isSeen) := goodIn_app (ggh_of [1337, 1339, 41, 72] rfl rfl rfl) ggX12_seen_X12_isSeen
noncomputable def dk09aref5_cX12_driftOf_0 : List (Nat × Instr × Nat) := [(0, .aload_n 0, 1), (1, .bipush 99, 2), (3, .bipush 99, 2), (5, .iload_n 1, 1), (6, .invokevirtual 160, 3), (9, .aload_n 0, 1), (10, .getfield 146, 3), (13, .iconst 5, 1), (14, .if_icmp .le 7, 3), (21, .aload_n 0, 1), (22, .getfield 146, 3), (25, .ireturn, 1), (17, .iconst 5, 1), (18, .goto 7, 3)]
set_option maxRecDepth 100000 in
theorem dk09aref5_cX12_driftOf_0_a : dkA cX12_driftOf dk09aref5_cX12_driftOf_0 = true := by decide +kernel
theorem dX12_driftOf_0 : decode cX12_driftOf 0 = .ok (.aload_n 0, 1) := dkAt dk09aref5_cX12_driftOf_0_a 0 rfl
theorem dX12_driftOf_1 : decode cX12_driftOf 1 = .ok (.bipush 99, 2) := dkAt dk09aref5_cX12_driftOf_0_a 1 rfl
theorem dX12_driftOf_3 : decode cX12_driftOf 3 = .ok (.bipush 99, 2) := dkAt dk09aref5_cX12_driftOf_0_a 2 rfl
theorem dX12_driftOf_5 : decode cX12_driftOf 5 = .ok (.iload_n 1, 1) := dkAt dk09aref5_cX12_driftOf_0_a 3 rfl
theorem dX12_driftOf_6 : decode cX12_driftOf 6 = .ok (.invokevirtual 160, 3) := dkAt dk09aref5_cX12_driftOf_0_a 4 rfl
theorem dX12_driftOf_9 : decode cX12_driftOf 9 = .ok (.aload_n 0, 1) := dkAt dk09aref5_cX12_driftOf_0_a 5 rfl
theorem dX12_driftOf_10 : decode cX12_driftOf 10 = .ok (.getfield 146, 3) := dkAt dk09aref5_cX12_driftOf_0_a 6 rfl
theorem dX12_driftOf_13 : decode cX12_driftOf 13 = .ok (.iconst 5, 1) := dkAt dk09aref5_cX12_driftOf_0_a 7 rfl
theorem dX12_driftOf_14 : decode cX12_driftOf 14 = .ok (.if_icmp .le 7, 3) := dkAt dk09aref5_cX12_driftOf_0_a 8 rfl
theorem dX12_driftOf_21 : decode cX12_driftOf 21 = .ok (.aload_n 0, 1) := dkAt dk09aref5_cX12_driftOf_0_a 9 rfl
theorem dX12_driftOf_22 : decode cX12_driftOf 22 = .ok (.getfield 146, 3) := dkAt dk09aref5_cX12_driftOf_0_a 10 rfl
theorem dX12_driftOf_25 : decode cX12_driftOf 25 = .ok (.ireturn, 1) := dkAt dk09aref5_cX12_driftOf_0_a 11 rfl
theorem dX12_driftOf_17 : decode cX12_driftOf 17 = .ok (.iconst 5, 1) := dkAt dk09aref5_cX12_driftOf_0_a 12 rfl
theorem dX12_driftOf_18 : decode cX12_driftOf 18 = .ok (.goto 7, 3) := dkAt dk09aref5_cX12_driftOf_0_a 13 rfl
noncomputable def dk09aref5_cX12_drift_0 : List (Nat × Instr × Nat) := [(0, .iload_n 1, 1), (1, .invokestatic 149, 3), (4, .ifCond .eq 11, 3), (7, .aload_n 0, 1), (8, .iload_n 1, 1), (9, .invokevirtual 201, 3), (12, .goto 4, 3), (16, .ireturn, 1), (15, .iconst (-1), 1)]
set_option maxRecDepth 100000 in
theorem dk09aref5_cX12_drift_0_a : dkA cX12_drift dk09aref5_cX12_drift_0 = true := by decide +kernel
theorem dX12_drift_0 : decode cX12_drift 0 = .ok (.iload_n 1, 1) := dkAt dk09aref5_cX12_drift_0_a 0 rfl
theorem dX12_drift_1 : decode cX12_drift 1 = .ok (.invokestatic 149, 3) := dkAt dk09aref5_cX12_drift_0_a 1 rfl
theorem dX12_drift_4 : decode cX12_drift 4 = .ok (.ifCond .eq 11, 3) := dkAt dk09aref5_cX12_drift_0_a 2 rfl
theorem dX12_drift_7 : decode cX12_drift 7 = .ok (.aload_n 0, 1) := dkAt dk09aref5_cX12_drift_0_a 3 rfl
theorem dX12_drift_8 : decode cX12_drift 8 = .ok (.iload_n 1, 1) := dkAt dk09aref5_cX12_drift_0_a 4 rfl
theorem dX12_drift_9 : decode cX12_drift 9 = .ok (.invokevirtual 201, 3) := dkAt dk09aref5_cX12_drift_0_a 5 rfl
theorem dX12_drift_12 : decode cX12_drift 12 = .ok (.goto 4, 3) := dkAt dk09aref5_cX12_drift_0_a 6 rfl
theorem dX12_drift_16 : decode cX12_drift 16 = .ok (.ireturn, 1) := dkAt dk09aref5_cX12_drift_0_a 7 rfl
theorem dX12_drift_15 : decode cX12_drift 15 = .ok (.iconst (-1), 1) := dkAt dk09aref5_cX12_drift_0_a 8 rfl
noncomputable def dk09aref5_cX12_looksForDrifts_0 : List (Nat × Instr × Nat) := [(0, .iconst 0, 1), (1, .istore_n 1, 1), (2, .iload_n 1, 1), (3, .bipush 36, 2), (5, .if_icmp .ge 20, 3), (25, .return_, 1), (8, .aload_n 0, 1), (9, .getfield 35, 3), (12, .iload_n 1, 1), (13, .aload_n 0, 1), (14, .iload_n 1, 1), (15, .invokevirtual 201, 3), (18, .iastore, 1), (19, .iinc 1 1, 3), (22, .goto (-20), 3)]
set_option maxRecDepth 100000 in
theorem dk09aref5_cX12_looksForDrifts_0_a : dkA cX12_looksForDrifts dk09aref5_cX12_looksForDrifts_0 = true := by decide +kernel
theorem dX12_looksForDrifts_0 : decode cX12_looksForDrifts 0 = .ok (.iconst 0, 1) := dkAt dk09aref5_cX12_looksForDrifts_0_a 0 rfl
theorem dX12_looksForDrifts_1 : decode cX12_looksForDrifts 1 = .ok (.istore_n 1, 1) := dkAt dk09aref5_cX12_looksForDrifts_0_a 1 rfl
theorem dX12_looksForDrifts_2 : decode cX12_looksForDrifts 2 = .ok (.iload_n 1, 1) := dkAt dk09aref5_cX12_looksForDrifts_0_a 2 rfl
theorem dX12_looksForDrifts_3 : decode cX12_looksForDrifts 3 = .ok (.bipush 36, 2) := dkAt dk09aref5_cX12_looksForDrifts_0_a 3 rfl
theorem dX12_looksForDrifts_5 : decode cX12_looksForDrifts 5 = .ok (.if_icmp .ge 20, 3) := dkAt dk09aref5_cX12_looksForDrifts_0_a 4 rfl
theorem dX12_looksForDrifts_25 : decode cX12_looksForDrifts 25 = .ok (.return_, 1) := dkAt dk09aref5_cX12_looksForDrifts_0_a 5 rfl
theorem dX12_looksForDrifts_8 : decode cX12_looksForDrifts 8 = .ok (.aload_n 0, 1) := dkAt dk09aref5_cX12_looksForDrifts_0_a 6 rfl
theorem dX12_looksForDrifts_9 : decode cX12_looksForDrifts 9 = .ok (.getfield 35, 3) := dkAt dk09aref5_cX12_looksForDrifts_0_a 7 rfl
theorem dX12_looksForDrifts_12 : decode cX12_looksForDrifts 12 = .ok (.iload_n 1, 1) := dkAt dk09aref5_cX12_looksForDrifts_0_a 8 rfl
theorem dX12_looksForDrifts_13 : decode cX12_looksForDrifts 13 = .ok (.aload_n 0, 1) := dkAt dk09aref5_cX12_looksForDrifts_0_a 9 rfl
theorem dX12_looksForDrifts_14 : decode cX12_looksForDrifts 14 = .ok (.iload_n 1, 1) := dkAt dk09aref5_cX12_looksForDrifts_0_a 10 rfl
theorem dX12_looksForDrifts_15 : decode cX12_looksForDrifts 15 = .ok (.invokevirtual 201, 3) := dkAt dk09aref5_cX12_looksForDrifts_0_a 11 rfl
theorem dX12_looksForDrifts_18 : decode cX12_looksForDrifts 18 = .ok (.iastore, 1) := dkAt dk09aref5_cX12_looksForDrifts_0_a 12 rfl
theorem dX12_looksForDrifts_19 : decode cX12_looksForDrifts 19 = .ok (.iinc 1 1, 3) := dkAt dk09aref5_cX12_looksForDrifts_0_a 13 rfl
theorem dX12_looksForDrifts_22 : decode cX12_looksForDrifts 22 = .ok (.goto (-20), 3) := dkAt dk09aref5_cX12_looksForDrifts_0_a 14 rfl
noncomputable def dk09aref5_cX12_begins_0 : List (Nat × Instr × Nat) := [(0, .iconst 0, 1), (1, .istore_n 2, 1), (2, .iload_n 2, 1), (3, .bipush 36, 2), (5, .if_icmp .ge 25, 3), (30, .return_, 1), (8, .aload_n 0, 1), (9, .getfield 28, 3), (12, .iload_n 2, 1), (13, .iload_n 2, 1), (14, .iload_n 1, 1), (23, .lastore, 1), (24, .iinc 2 1, 3), (27, .goto (-25), 3), (15, .if_icmp .ne 7, 3), (22, .lconst 0, 1), (18, .lconst 1, 1), (19, .goto 4, 3)]
set_option maxRecDepth 100000 in
theorem dk09aref5_cX12_begins_0_a : dkA cX12_begins dk09aref5_cX12_begins_0 = true := by decide +kernel
theorem dX12_begins_0 : decode cX12_begins 0 = .ok (.iconst 0, 1) := dkAt dk09aref5_cX12_begins_0_a 0 rfl
theorem dX12_begins_1 : decode cX12_begins 1 = .ok (.istore_n 2, 1) := dkAt dk09aref5_cX12_begins_0_a 1 rfl
theorem dX12_begins_2 : decode cX12_begins 2 = .ok (.iload_n 2, 1) := dkAt dk09aref5_cX12_begins_0_a 2 rfl
theorem dX12_begins_3 : decode cX12_begins 3 = .ok (.bipush 36, 2) := dkAt dk09aref5_cX12_begins_0_a 3 rfl
theorem dX12_begins_5 : decode cX12_begins 5 = .ok (.if_icmp .ge 25, 3) := dkAt dk09aref5_cX12_begins_0_a 4 rfl
theorem dX12_begins_30 : decode cX12_begins 30 = .ok (.return_, 1) := dkAt dk09aref5_cX12_begins_0_a 5 rfl
theorem dX12_begins_8 : decode cX12_begins 8 = .ok (.aload_n 0, 1) := dkAt dk09aref5_cX12_begins_0_a 6 rfl
theorem dX12_begins_9 : decode cX12_begins 9 = .ok (.getfield 28, 3) := dkAt dk09aref5_cX12_begins_0_a 7 rfl
theorem dX12_begins_12 : decode cX12_begins 12 = .ok (.iload_n 2, 1) := dkAt dk09aref5_cX12_begins_0_a 8 rfl
theorem dX12_begins_13 : decode cX12_begins 13 = .ok (.iload_n 2, 1) := dkAt dk09aref5_cX12_begins_0_a 9 rfl
theorem dX12_begins_14 : decode cX12_begins 14 = .ok (.iload_n 1, 1) := dkAt dk09aref5_cX12_begins_0_a 10 rfl
theorem dX12_begins_23 : decode cX12_begins 23 = .ok (.lastore, 1) := dkAt dk09aref5_cX12_begins_0_a 11 rfl
theorem dX12_begins_24 : decode cX12_begins 24 = .ok (.iinc 2 1, 3) := dkAt dk09aref5_cX12_begins_0_a 12 rfl
theorem dX12_begins_27 : decode cX12_begins 27 = .ok (.goto (-25), 3) := dkAt dk09aref5_cX12_begins_0_a 13 rfl
theorem dX12_begins_15 : decode cX12_begins 15 = .ok (.if_icmp .ne 7, 3) := dkAt dk09aref5_cX12_begins_0_a 14 rfl
theorem dX12_begins_22 : decode cX12_begins 22 = .ok (.lconst 0, 1) := dkAt dk09aref5_cX12_begins_0_a 15 rfl
theorem dX12_begins_18 : decode cX12_begins 18 = .ok (.lconst 1, 1) := dkAt dk09aref5_cX12_begins_0_a 16 rfl
theorem dX12_begins_19 : decode cX12_begins 19 = .ok (.goto 4, 3) := dkAt dk09aref5_cX12_begins_0_a 17 rfl
noncomputable def dk09aref5_cX12_goesOn_0 : List (Nat × Instr × Nat) := [(0, .iconst 0, 1), (1, .istore_n 2, 1), (2, .iload_n 2, 1), (3, .bipush 36, 2), (5, .if_icmp .ge 16, 3), (21, .iconst 0, 1), (22, .istore_n 2, 1), (23, .iload_n 2, 1), (24, .bipush 36, 2), (26, .if_icmp .ge 155, 3), (181, .iconst 0, 1), (182, .istore_n 2, 1), (183, .iload_n 2, 1), (184, .bipush 36, 2), (186, .if_icmp .ge 21, 3), (207, .return_, 1), (189, .aload_n 0, 1), (190, .getfield 28, 3), (193, .iload_n 2, 1), (194, .aload_n 0, 1), (195, .getfield 32, 3), (198, .iload_n 2, 1), (199, .laload, 1), (200, .lastore, 1), (201, .iinc 2 1, 3), (204, .goto (-21), 3), (29, .aload_n 0, 1), (30, .getfield 28, 3), (33, .iload_n 2, 1), (34, .laload, 1), (35, .lconst 0, 1), (36, .lcmp, 1), (37, .ifCond .le 38, 3), (75, .aload_n 0, 1), (76, .getfield 28, 3), (79, .iload_n 2, 1), (80, .laload, 1), (81, .lconst 0, 1), (82, .lcmp, 1), (83, .ifCond .le 92, 3)]
set_option maxRecDepth 100000 in
theorem dk09aref5_cX12_goesOn_0_a : dkA cX12_goesOn dk09aref5_cX12_goesOn_0 = true := by decide +kernel
theorem dX12_goesOn_0 : decode cX12_goesOn 0 = .ok (.iconst 0, 1) := dkAt dk09aref5_cX12_goesOn_0_a 0 rfl
theorem dX12_goesOn_1 : decode cX12_goesOn 1 = .ok (.istore_n 2, 1) := dkAt dk09aref5_cX12_goesOn_0_a 1 rfl
theorem dX12_goesOn_2 : decode cX12_goesOn 2 = .ok (.iload_n 2, 1) := dkAt dk09aref5_cX12_goesOn_0_a 2 rfl
theorem dX12_goesOn_3 : decode cX12_goesOn 3 = .ok (.bipush 36, 2) := dkAt dk09aref5_cX12_goesOn_0_a 3 rfl
theorem dX12_goesOn_5 : decode cX12_goesOn 5 = .ok (.if_icmp .ge 16, 3) := dkAt dk09aref5_cX12_goesOn_0_a 4 rfl
theorem dX12_goesOn_21 : decode cX12_goesOn 21 = .ok (.iconst 0, 1) := dkAt dk09aref5_cX12_goesOn_0_a 5 rfl
theorem dX12_goesOn_22 : decode cX12_goesOn 22 = .ok (.istore_n 2, 1) := dkAt dk09aref5_cX12_goesOn_0_a 6 rfl
theorem dX12_goesOn_23 : decode cX12_goesOn 23 = .ok (.iload_n 2, 1) := dkAt dk09aref5_cX12_goesOn_0_a 7 rfl
theorem dX12_goesOn_24 : decode cX12_goesOn 24 = .ok (.bipush 36, 2) := dkAt dk09aref5_cX12_goesOn_0_a 8 rfl
theorem dX12_goesOn_26 : decode cX12_goesOn 26 = .ok (.if_icmp .ge 155, 3) := dkAt dk09aref5_cX12_goesOn_0_a 9 rfl
theorem dX12_goesOn_181 : decode cX12_goesOn 181 = .ok (.iconst 0, 1) := dkAt dk09aref5_cX12_goesOn_0_a 10 rfl
theorem dX12_goesOn_182 : decode cX12_goesOn 182 = .ok (.istore_n 2, 1) := dkAt dk09aref5_cX12_goesOn_0_a 11 rfl
theorem dX12_goesOn_183 : decode cX12_goesOn 183 = .ok (.iload_n 2, 1) := dkAt dk09aref5_cX12_goesOn_0_a 12 rfl
theorem dX12_goesOn_184 : decode cX12_goesOn 184 = .ok (.bipush 36, 2) := dkAt dk09aref5_cX12_goesOn_0_a 13 rfl
theorem dX12_goesOn_186 : decode cX12_goesOn 186 = .ok (.if_icmp .ge 21, 3) := dkAt dk09aref5_cX12_goesOn_0_a 14 rfl
theorem dX12_goesOn_207 : decode cX12_goesOn 207 = .ok (.return_, 1) := dkAt dk09aref5_cX12_goesOn_0_a 15 rfl
theorem dX12_goesOn_189 : decode cX12_goesOn 189 = .ok (.aload_n 0, 1) := dkAt dk09aref5_cX12_goesOn_0_a 16 rfl
theorem dX12_goesOn_190 : decode cX12_goesOn 190 = .ok (.getfield 28, 3) := dkAt dk09aref5_cX12_goesOn_0_a 17 rfl
theorem dX12_goesOn_193 : decode cX12_goesOn 193 = .ok (.iload_n 2, 1) := dkAt dk09aref5_cX12_goesOn_0_a 18 rfl
theorem dX12_goesOn_194 : decode cX12_goesOn 194 = .ok (.aload_n 0, 1) := dkAt dk09aref5_cX12_goesOn_0_a 19 rfl
theorem dX12_goesOn_195 : decode cX12_goesOn 195 = .ok (.getfield 32, 3) := dkAt dk09aref5_cX12_goesOn_0_a 20 rfl
theorem dX12_goesOn_198 : decode cX12_goesOn 198 = .ok (.iload_n 2, 1) := dkAt dk09aref5_cX12_goesOn_0_a 21 rfl
theorem dX12_goesOn_199 : decode cX12_goesOn 199 = .ok (.laload, 1) := dkAt dk09aref5_cX12_goesOn_0_a 22 rfl
theorem dX12_goesOn_200 : decode cX12_goesOn 200 = .ok (.lastore, 1) := dkAt dk09aref5_cX12_goesOn_0_a 23 rfl
theorem dX12_goesOn_201 : decode cX12_goesOn 201 = .ok (.iinc 2 1, 3) := dkAt dk09aref5_cX12_goesOn_0_a 24 rfl
theorem dX12_goesOn_204 : decode cX12_goesOn 204 = .ok (.goto (-21), 3) := dkAt dk09aref5_cX12_goesOn_0_a 25 rfl
theorem dX12_goesOn_29 : decode cX12_goesOn 29 = .ok (.aload_n 0, 1) := dkAt dk09aref5_cX12_goesOn_0_a 26 rfl
theorem dX12_goesOn_30 : decode cX12_goesOn 30 = .ok (.getfield 28, 3) := dkAt dk09aref5_cX12_goesOn_0_a 27 rfl
theorem dX12_goesOn_33 : decode cX12_goesOn 33 = .ok (.iload_n 2, 1) := dkAt dk09aref5_cX12_goesOn_0_a 28 rfl
theorem dX12_goesOn_34 : decode cX12_goesOn 34 = .ok (.laload, 1) := dkAt dk09aref5_cX12_goesOn_0_a 29 rfl
theorem dX12_goesOn_35 : decode cX12_goesOn 35 = .ok (.lconst 0, 1) := dkAt dk09aref5_cX12_goesOn_0_a 30 rfl
theorem dX12_goesOn_36 : decode cX12_goesOn 36 = .ok (.lcmp, 1) := dkAt dk09aref5_cX12_goesOn_0_a 31 rfl
theorem dX12_goesOn_37 : decode cX12_goesOn 37 = .ok (.ifCond .le 38, 3) := dkAt dk09aref5_cX12_goesOn_0_a 32 rfl
theorem dX12_goesOn_75 : decode cX12_goesOn 75 = .ok (.aload_n 0, 1) := dkAt dk09aref5_cX12_goesOn_0_a 33 rfl
theorem dX12_goesOn_76 : decode cX12_goesOn 76 = .ok (.getfield 28, 3) := dkAt dk09aref5_cX12_goesOn_0_a 34 rfl
theorem dX12_goesOn_79 : decode cX12_goesOn 79 = .ok (.iload_n 2, 1) := dkAt dk09aref5_cX12_goesOn_0_a 35 rfl
theorem dX12_goesOn_80 : decode cX12_goesOn 80 = .ok (.laload, 1) := dkAt dk09aref5_cX12_goesOn_0_a 36 rfl
theorem dX12_goesOn_81 : decode cX12_goesOn 81 = .ok (.lconst 0, 1) := dkAt dk09aref5_cX12_goesOn_0_a 37 rfl
theorem dX12_goesOn_82 : decode cX12_goesOn 82 = .ok (.lcmp, 1) := dkAt dk09aref5_cX12_goesOn_0_a 38 rfl
theorem dX12_goesOn_83 : decode cX12_goesOn 83 = .ok (.ifCond .le 92, 3) := dkAt dk09aref5_cX12_goesOn_0_a 39 rfl
noncomputable def dk09aref5_cX12_goesOn_40 : List (Nat × Instr × Nat) := [(175, .iinc 2 1, 3), (178, .goto (-155), 3), (86, .aload_n 0, 1), (87, .getfield 35, 3), (90, .iload_n 2, 1), (91, .iaload, 1), (92, .istore_n 3, 1), (93, .aload_n 0, 1), (94, .getfield 32, 3), (97, .iload_n 2, 1), (98, .iload_n 1, 1), (99, .invokestatic 206, 3), (102, .dup2, 1), (103, .laload, 1), (104, .bipush 20, 2), (106, .iconst 2, 1), (107, .iload_n 3, 1), (108, .imul, 1), (109, .isub, 1), (110, .i2l, 1), (111, .aload_n 0, 1), (112, .getfield 28, 3), (115, .iload_n 2, 1), (116, .laload, 1), (117, .lmul, 1), (118, .ladd, 1), (119, .lastore, 1), (120, .aload_n 0, 1), (121, .getfield 32, 3), (124, .iload_n 2, 1), (125, .iload_n 1, 1), (126, .bipush 7, 2), (128, .iadd, 1), (129, .bipush 8, 2), (131, .irem, 1), (132, .invokestatic 206, 3), (135, .dup2, 1), (136, .laload, 1), (137, .iload_n 3, 1), (138, .i2l, 1)]
set_option maxRecDepth 100000 in
theorem dk09aref5_cX12_goesOn_40_a : dkA cX12_goesOn dk09aref5_cX12_goesOn_40 = true := by decide +kernel
theorem dX12_goesOn_175 : decode cX12_goesOn 175 = .ok (.iinc 2 1, 3) := dkAt dk09aref5_cX12_goesOn_40_a 0 rfl
theorem dX12_goesOn_178 : decode cX12_goesOn 178 = .ok (.goto (-155), 3) := dkAt dk09aref5_cX12_goesOn_40_a 1 rfl
theorem dX12_goesOn_86 : decode cX12_goesOn 86 = .ok (.aload_n 0, 1) := dkAt dk09aref5_cX12_goesOn_40_a 2 rfl
theorem dX12_goesOn_87 : decode cX12_goesOn 87 = .ok (.getfield 35, 3) := dkAt dk09aref5_cX12_goesOn_40_a 3 rfl
theorem dX12_goesOn_90 : decode cX12_goesOn 90 = .ok (.iload_n 2, 1) := dkAt dk09aref5_cX12_goesOn_40_a 4 rfl
theorem dX12_goesOn_91 : decode cX12_goesOn 91 = .ok (.iaload, 1) := dkAt dk09aref5_cX12_goesOn_40_a 5 rfl
theorem dX12_goesOn_92 : decode cX12_goesOn 92 = .ok (.istore_n 3, 1) := dkAt dk09aref5_cX12_goesOn_40_a 6 rfl
theorem dX12_goesOn_93 : decode cX12_goesOn 93 = .ok (.aload_n 0, 1) := dkAt dk09aref5_cX12_goesOn_40_a 7 rfl
theorem dX12_goesOn_94 : decode cX12_goesOn 94 = .ok (.getfield 32, 3) := dkAt dk09aref5_cX12_goesOn_40_a 8 rfl
theorem dX12_goesOn_97 : decode cX12_goesOn 97 = .ok (.iload_n 2, 1) := dkAt dk09aref5_cX12_goesOn_40_a 9 rfl
theorem dX12_goesOn_98 : decode cX12_goesOn 98 = .ok (.iload_n 1, 1) := dkAt dk09aref5_cX12_goesOn_40_a 10 rfl
theorem dX12_goesOn_99 : decode cX12_goesOn 99 = .ok (.invokestatic 206, 3) := dkAt dk09aref5_cX12_goesOn_40_a 11 rfl
theorem dX12_goesOn_102 : decode cX12_goesOn 102 = .ok (.dup2, 1) := dkAt dk09aref5_cX12_goesOn_40_a 12 rfl
theorem dX12_goesOn_103 : decode cX12_goesOn 103 = .ok (.laload, 1) := dkAt dk09aref5_cX12_goesOn_40_a 13 rfl
theorem dX12_goesOn_104 : decode cX12_goesOn 104 = .ok (.bipush 20, 2) := dkAt dk09aref5_cX12_goesOn_40_a 14 rfl
theorem dX12_goesOn_106 : decode cX12_goesOn 106 = .ok (.iconst 2, 1) := dkAt dk09aref5_cX12_goesOn_40_a 15 rfl
theorem dX12_goesOn_107 : decode cX12_goesOn 107 = .ok (.iload_n 3, 1) := dkAt dk09aref5_cX12_goesOn_40_a 16 rfl
theorem dX12_goesOn_108 : decode cX12_goesOn 108 = .ok (.imul, 1) := dkAt dk09aref5_cX12_goesOn_40_a 17 rfl
theorem dX12_goesOn_109 : decode cX12_goesOn 109 = .ok (.isub, 1) := dkAt dk09aref5_cX12_goesOn_40_a 18 rfl
theorem dX12_goesOn_110 : decode cX12_goesOn 110 = .ok (.i2l, 1) := dkAt dk09aref5_cX12_goesOn_40_a 19 rfl
theorem dX12_goesOn_111 : decode cX12_goesOn 111 = .ok (.aload_n 0, 1) := dkAt dk09aref5_cX12_goesOn_40_a 20 rfl
theorem dX12_goesOn_112 : decode cX12_goesOn 112 = .ok (.getfield 28, 3) := dkAt dk09aref5_cX12_goesOn_40_a 21 rfl
theorem dX12_goesOn_115 : decode cX12_goesOn 115 = .ok (.iload_n 2, 1) := dkAt dk09aref5_cX12_goesOn_40_a 22 rfl
theorem dX12_goesOn_116 : decode cX12_goesOn 116 = .ok (.laload, 1) := dkAt dk09aref5_cX12_goesOn_40_a 23 rfl
theorem dX12_goesOn_117 : decode cX12_goesOn 117 = .ok (.lmul, 1) := dkAt dk09aref5_cX12_goesOn_40_a 24 rfl
theorem dX12_goesOn_118 : decode cX12_goesOn 118 = .ok (.ladd, 1) := dkAt dk09aref5_cX12_goesOn_40_a 25 rfl
theorem dX12_goesOn_119 : decode cX12_goesOn 119 = .ok (.lastore, 1) := dkAt dk09aref5_cX12_goesOn_40_a 26 rfl
theorem dX12_goesOn_120 : decode cX12_goesOn 120 = .ok (.aload_n 0, 1) := dkAt dk09aref5_cX12_goesOn_40_a 27 rfl
theorem dX12_goesOn_121 : decode cX12_goesOn 121 = .ok (.getfield 32, 3) := dkAt dk09aref5_cX12_goesOn_40_a 28 rfl
theorem dX12_goesOn_124 : decode cX12_goesOn 124 = .ok (.iload_n 2, 1) := dkAt dk09aref5_cX12_goesOn_40_a 29 rfl
theorem dX12_goesOn_125 : decode cX12_goesOn 125 = .ok (.iload_n 1, 1) := dkAt dk09aref5_cX12_goesOn_40_a 30 rfl
theorem dX12_goesOn_126 : decode cX12_goesOn 126 = .ok (.bipush 7, 2) := dkAt dk09aref5_cX12_goesOn_40_a 31 rfl
theorem dX12_goesOn_128 : decode cX12_goesOn 128 = .ok (.iadd, 1) := dkAt dk09aref5_cX12_goesOn_40_a 32 rfl
theorem dX12_goesOn_129 : decode cX12_goesOn 129 = .ok (.bipush 8, 2) := dkAt dk09aref5_cX12_goesOn_40_a 33 rfl
theorem dX12_goesOn_131 : decode cX12_goesOn 131 = .ok (.irem, 1) := dkAt dk09aref5_cX12_goesOn_40_a 34 rfl
theorem dX12_goesOn_132 : decode cX12_goesOn 132 = .ok (.invokestatic 206, 3) := dkAt dk09aref5_cX12_goesOn_40_a 35 rfl
theorem dX12_goesOn_135 : decode cX12_goesOn 135 = .ok (.dup2, 1) := dkAt dk09aref5_cX12_goesOn_40_a 36 rfl
theorem dX12_goesOn_136 : decode cX12_goesOn 136 = .ok (.laload, 1) := dkAt dk09aref5_cX12_goesOn_40_a 37 rfl
theorem dX12_goesOn_137 : decode cX12_goesOn 137 = .ok (.iload_n 3, 1) := dkAt dk09aref5_cX12_goesOn_40_a 38 rfl
theorem dX12_goesOn_138 : decode cX12_goesOn 138 = .ok (.i2l, 1) := dkAt dk09aref5_cX12_goesOn_40_a 39 rfl
noncomputable def dk09aref5_cX12_goesOn_80 : List (Nat × Instr × Nat) := [(139, .aload_n 0, 1), (140, .getfield 28, 3), (143, .iload_n 2, 1), (144, .laload, 1), (145, .lmul, 1), (146, .ladd, 1), (147, .lastore, 1), (148, .aload_n 0, 1), (149, .getfield 32, 3), (152, .iload_n 2, 1), (153, .iload_n 1, 1), (154, .iconst 1, 1), (155, .iadd, 1), (156, .bipush 8, 2), (158, .irem, 1), (159, .invokestatic 206, 3), (162, .dup2, 1), (163, .laload, 1), (164, .iload_n 3, 1), (165, .i2l, 1), (166, .aload_n 0, 1), (167, .getfield 28, 3), (170, .iload_n 2, 1), (171, .laload, 1), (172, .lmul, 1), (173, .ladd, 1), (174, .lastore, 1), (40, .aload_n 0, 1), (41, .getfield 9, 3), (44, .bipush 37, 2), (46, .iload_n 2, 1), (47, .iadd, 1), (48, .iaload, 1), (49, .iconst 1, 1), (50, .if_icmp .ne 25, 3), (53, .aload_n 0, 1), (54, .getfield 32, 3), (57, .iload_n 2, 1), (58, .dup2, 1), (59, .laload, 1)]
set_option maxRecDepth 100000 in
theorem dk09aref5_cX12_goesOn_80_a : dkA cX12_goesOn dk09aref5_cX12_goesOn_80 = true := by decide +kernel
theorem dX12_goesOn_139 : decode cX12_goesOn 139 = .ok (.aload_n 0, 1) := dkAt dk09aref5_cX12_goesOn_80_a 0 rfl
theorem dX12_goesOn_140 : decode cX12_goesOn 140 = .ok (.getfield 28, 3) := dkAt dk09aref5_cX12_goesOn_80_a 1 rfl
theorem dX12_goesOn_143 : decode cX12_goesOn 143 = .ok (.iload_n 2, 1) := dkAt dk09aref5_cX12_goesOn_80_a 2 rfl
theorem dX12_goesOn_144 : decode cX12_goesOn 144 = .ok (.laload, 1) := dkAt dk09aref5_cX12_goesOn_80_a 3 rfl
theorem dX12_goesOn_145 : decode cX12_goesOn 145 = .ok (.lmul, 1) := dkAt dk09aref5_cX12_goesOn_80_a 4 rfl
theorem dX12_goesOn_146 : decode cX12_goesOn 146 = .ok (.ladd, 1) := dkAt dk09aref5_cX12_goesOn_80_a 5 rfl
theorem dX12_goesOn_147 : decode cX12_goesOn 147 = .ok (.lastore, 1) := dkAt dk09aref5_cX12_goesOn_80_a 6 rfl
theorem dX12_goesOn_148 : decode cX12_goesOn 148 = .ok (.aload_n 0, 1) := dkAt dk09aref5_cX12_goesOn_80_a 7 rfl
theorem dX12_goesOn_149 : decode cX12_goesOn 149 = .ok (.getfield 32, 3) := dkAt dk09aref5_cX12_goesOn_80_a 8 rfl
theorem dX12_goesOn_152 : decode cX12_goesOn 152 = .ok (.iload_n 2, 1) := dkAt dk09aref5_cX12_goesOn_80_a 9 rfl
theorem dX12_goesOn_153 : decode cX12_goesOn 153 = .ok (.iload_n 1, 1) := dkAt dk09aref5_cX12_goesOn_80_a 10 rfl
theorem dX12_goesOn_154 : decode cX12_goesOn 154 = .ok (.iconst 1, 1) := dkAt dk09aref5_cX12_goesOn_80_a 11 rfl
theorem dX12_goesOn_155 : decode cX12_goesOn 155 = .ok (.iadd, 1) := dkAt dk09aref5_cX12_goesOn_80_a 12 rfl
theorem dX12_goesOn_156 : decode cX12_goesOn 156 = .ok (.bipush 8, 2) := dkAt dk09aref5_cX12_goesOn_80_a 13 rfl
theorem dX12_goesOn_158 : decode cX12_goesOn 158 = .ok (.irem, 1) := dkAt dk09aref5_cX12_goesOn_80_a 14 rfl
theorem dX12_goesOn_159 : decode cX12_goesOn 159 = .ok (.invokestatic 206, 3) := dkAt dk09aref5_cX12_goesOn_80_a 15 rfl
theorem dX12_goesOn_162 : decode cX12_goesOn 162 = .ok (.dup2, 1) := dkAt dk09aref5_cX12_goesOn_80_a 16 rfl
theorem dX12_goesOn_163 : decode cX12_goesOn 163 = .ok (.laload, 1) := dkAt dk09aref5_cX12_goesOn_80_a 17 rfl
theorem dX12_goesOn_164 : decode cX12_goesOn 164 = .ok (.iload_n 3, 1) := dkAt dk09aref5_cX12_goesOn_80_a 18 rfl
theorem dX12_goesOn_165 : decode cX12_goesOn 165 = .ok (.i2l, 1) := dkAt dk09aref5_cX12_goesOn_80_a 19 rfl
theorem dX12_goesOn_166 : decode cX12_goesOn 166 = .ok (.aload_n 0, 1) := dkAt dk09aref5_cX12_goesOn_80_a 20 rfl
theorem dX12_goesOn_167 : decode cX12_goesOn 167 = .ok (.getfield 28, 3) := dkAt dk09aref5_cX12_goesOn_80_a 21 rfl
theorem dX12_goesOn_170 : decode cX12_goesOn 170 = .ok (.iload_n 2, 1) := dkAt dk09aref5_cX12_goesOn_80_a 22 rfl
theorem dX12_goesOn_171 : decode cX12_goesOn 171 = .ok (.laload, 1) := dkAt dk09aref5_cX12_goesOn_80_a 23 rfl
theorem dX12_goesOn_172 : decode cX12_goesOn 172 = .ok (.lmul, 1) := dkAt dk09aref5_cX12_goesOn_80_a 24 rfl
theorem dX12_goesOn_173 : decode cX12_goesOn 173 = .ok (.ladd, 1) := dkAt dk09aref5_cX12_goesOn_80_a 25 rfl
theorem dX12_goesOn_174 : decode cX12_goesOn 174 = .ok (.lastore, 1) := dkAt dk09aref5_cX12_goesOn_80_a 26 rfl
theorem dX12_goesOn_40 : decode cX12_goesOn 40 = .ok (.aload_n 0, 1) := dkAt dk09aref5_cX12_goesOn_80_a 27 rfl
theorem dX12_goesOn_41 : decode cX12_goesOn 41 = .ok (.getfield 9, 3) := dkAt dk09aref5_cX12_goesOn_80_a 28 rfl
theorem dX12_goesOn_44 : decode cX12_goesOn 44 = .ok (.bipush 37, 2) := dkAt dk09aref5_cX12_goesOn_80_a 29 rfl
theorem dX12_goesOn_46 : decode cX12_goesOn 46 = .ok (.iload_n 2, 1) := dkAt dk09aref5_cX12_goesOn_80_a 30 rfl
theorem dX12_goesOn_47 : decode cX12_goesOn 47 = .ok (.iadd, 1) := dkAt dk09aref5_cX12_goesOn_80_a 31 rfl
theorem dX12_goesOn_48 : decode cX12_goesOn 48 = .ok (.iaload, 1) := dkAt dk09aref5_cX12_goesOn_80_a 32 rfl
theorem dX12_goesOn_49 : decode cX12_goesOn 49 = .ok (.iconst 1, 1) := dkAt dk09aref5_cX12_goesOn_80_a 33 rfl
theorem dX12_goesOn_50 : decode cX12_goesOn 50 = .ok (.if_icmp .ne 25, 3) := dkAt dk09aref5_cX12_goesOn_80_a 34 rfl
theorem dX12_goesOn_53 : decode cX12_goesOn 53 = .ok (.aload_n 0, 1) := dkAt dk09aref5_cX12_goesOn_80_a 35 rfl
theorem dX12_goesOn_54 : decode cX12_goesOn 54 = .ok (.getfield 32, 3) := dkAt dk09aref5_cX12_goesOn_80_a 36 rfl
theorem dX12_goesOn_57 : decode cX12_goesOn 57 = .ok (.iload_n 2, 1) := dkAt dk09aref5_cX12_goesOn_80_a 37 rfl
theorem dX12_goesOn_58 : decode cX12_goesOn 58 = .ok (.dup2, 1) := dkAt dk09aref5_cX12_goesOn_80_a 38 rfl
theorem dX12_goesOn_59 : decode cX12_goesOn 59 = .ok (.laload, 1) := dkAt dk09aref5_cX12_goesOn_80_a 39 rfl
noncomputable def dk09aref5_cX12_goesOn_120 : List (Nat × Instr × Nat) := [(60, .ldc2_w 204, 3), (63, .aload_n 0, 1), (64, .getfield 28, 3), (67, .iload_n 2, 1), (68, .laload, 1), (69, .lmul, 1), (70, .ladd, 1), (71, .lastore, 1), (72, .goto 103, 3), (8, .aload_n 0, 1), (9, .getfield 32, 3), (12, .iload_n 2, 1), (13, .lconst 0, 1), (14, .lastore, 1), (15, .iinc 2 1, 3), (18, .goto (-16), 3)]
set_option maxRecDepth 100000 in
theorem dk09aref5_cX12_goesOn_120_a : dkA cX12_goesOn dk09aref5_cX12_goesOn_120 = true := by decide +kernel
theorem dX12_goesOn_60 : decode cX12_goesOn 60 = .ok (.ldc2_w 204, 3) := dkAt dk09aref5_cX12_goesOn_120_a 0 rfl
theorem dX12_goesOn_63 : decode cX12_goesOn 63 = .ok (.aload_n 0, 1) := dkAt dk09aref5_cX12_goesOn_120_a 1 rfl
theorem dX12_goesOn_64 : decode cX12_goesOn 64 = .ok (.getfield 28, 3) := dkAt dk09aref5_cX12_goesOn_120_a 2 rfl
theorem dX12_goesOn_67 : decode cX12_goesOn 67 = .ok (.iload_n 2, 1) := dkAt dk09aref5_cX12_goesOn_120_a 3 rfl
theorem dX12_goesOn_68 : decode cX12_goesOn 68 = .ok (.laload, 1) := dkAt dk09aref5_cX12_goesOn_120_a 4 rfl
theorem dX12_goesOn_69 : decode cX12_goesOn 69 = .ok (.lmul, 1) := dkAt dk09aref5_cX12_goesOn_120_a 5 rfl
theorem dX12_goesOn_70 : decode cX12_goesOn 70 = .ok (.ladd, 1) := dkAt dk09aref5_cX12_goesOn_120_a 6 rfl
theorem dX12_goesOn_71 : decode cX12_goesOn 71 = .ok (.lastore, 1) := dkAt dk09aref5_cX12_goesOn_120_a 7 rfl
theorem dX12_goesOn_72 : decode cX12_goesOn 72 = .ok (.goto 103, 3) := dkAt dk09aref5_cX12_goesOn_120_a 8 rfl
theorem dX12_goesOn_8 : decode cX12_goesOn 8 = .ok (.aload_n 0, 1) := dkAt dk09aref5_cX12_goesOn_120_a 9 rfl
theorem dX12_goesOn_9 : decode cX12_goesOn 9 = .ok (.getfield 32, 3) := dkAt dk09aref5_cX12_goesOn_120_a 10 rfl
theorem dX12_goesOn_12 : decode cX12_goesOn 12 = .ok (.iload_n 2, 1) := dkAt dk09aref5_cX12_goesOn_120_a 11 rfl
theorem dX12_goesOn_13 : decode cX12_goesOn 13 = .ok (.lconst 0, 1) := dkAt dk09aref5_cX12_goesOn_120_a 12 rfl
theorem dX12_goesOn_14 : decode cX12_goesOn 14 = .ok (.lastore, 1) := dkAt dk09aref5_cX12_goesOn_120_a 13 rfl
theorem dX12_goesOn_15 : decode cX12_goesOn 15 = .ok (.iinc 2 1, 3) := dkAt dk09aref5_cX12_goesOn_120_a 14 rfl
theorem dX12_goesOn_18 : decode cX12_goesOn 18 = .ok (.goto (-16), 3) := dkAt dk09aref5_cX12_goesOn_120_a 15 rfl
noncomputable def dk09aref5_cX12_over_0 : List (Nat × Instr × Nat) := [(0, .lconst 0, 1), (1, .lstore_n 1, 1), (2, .iconst 0, 1), (3, .istore_n 3, 1), (4, .iload_n 3, 1), (5, .bipush 36, 2), (7, .if_icmp .ge 35, 3), (42, .lload_n 1, 1), (43, .lreturn, 1), (10, .lload_n 1, 1), (11, .aload_n 0, 1), (12, .getfield 9, 3), (15, .bipush 37, 2), (17, .iload_n 3, 1), (18, .iadd, 1), (19, .iaload, 1), (20, .iconst 1, 1), (21, .if_icmp .ne 12, 3), (33, .lconst 0, 1), (34, .ladd, 1), (35, .lstore_n 1, 1), (36, .iinc 3 1, 3), (39, .goto (-35), 3), (24, .aload_n 0, 1), (25, .getfield 28, 3), (28, .iload_n 3, 1), (29, .laload, 1), (30, .goto 4, 3)]
set_option maxRecDepth 100000 in
theorem dk09aref5_cX12_over_0_a : dkA cX12_over dk09aref5_cX12_over_0 = true := by decide +kernel
theorem dX12_over_0 : decode cX12_over 0 = .ok (.lconst 0, 1) := dkAt dk09aref5_cX12_over_0_a 0 rfl
theorem dX12_over_1 : decode cX12_over 1 = .ok (.lstore_n 1, 1) := dkAt dk09aref5_cX12_over_0_a 1 rfl
theorem dX12_over_2 : decode cX12_over 2 = .ok (.iconst 0, 1) := dkAt dk09aref5_cX12_over_0_a 2 rfl
theorem dX12_over_3 : decode cX12_over 3 = .ok (.istore_n 3, 1) := dkAt dk09aref5_cX12_over_0_a 3 rfl
theorem dX12_over_4 : decode cX12_over 4 = .ok (.iload_n 3, 1) := dkAt dk09aref5_cX12_over_0_a 4 rfl
theorem dX12_over_5 : decode cX12_over 5 = .ok (.bipush 36, 2) := dkAt dk09aref5_cX12_over_0_a 5 rfl
theorem dX12_over_7 : decode cX12_over 7 = .ok (.if_icmp .ge 35, 3) := dkAt dk09aref5_cX12_over_0_a 6 rfl
theorem dX12_over_42 : decode cX12_over 42 = .ok (.lload_n 1, 1) := dkAt dk09aref5_cX12_over_0_a 7 rfl
theorem dX12_over_43 : decode cX12_over 43 = .ok (.lreturn, 1) := dkAt dk09aref5_cX12_over_0_a 8 rfl
theorem dX12_over_10 : decode cX12_over 10 = .ok (.lload_n 1, 1) := dkAt dk09aref5_cX12_over_0_a 9 rfl
theorem dX12_over_11 : decode cX12_over 11 = .ok (.aload_n 0, 1) := dkAt dk09aref5_cX12_over_0_a 10 rfl
theorem dX12_over_12 : decode cX12_over 12 = .ok (.getfield 9, 3) := dkAt dk09aref5_cX12_over_0_a 11 rfl
theorem dX12_over_15 : decode cX12_over 15 = .ok (.bipush 37, 2) := dkAt dk09aref5_cX12_over_0_a 12 rfl
theorem dX12_over_17 : decode cX12_over 17 = .ok (.iload_n 3, 1) := dkAt dk09aref5_cX12_over_0_a 13 rfl
theorem dX12_over_18 : decode cX12_over 18 = .ok (.iadd, 1) := dkAt dk09aref5_cX12_over_0_a 14 rfl
theorem dX12_over_19 : decode cX12_over 19 = .ok (.iaload, 1) := dkAt dk09aref5_cX12_over_0_a 15 rfl
theorem dX12_over_20 : decode cX12_over 20 = .ok (.iconst 1, 1) := dkAt dk09aref5_cX12_over_0_a 16 rfl
theorem dX12_over_21 : decode cX12_over 21 = .ok (.if_icmp .ne 12, 3) := dkAt dk09aref5_cX12_over_0_a 17 rfl
theorem dX12_over_33 : decode cX12_over 33 = .ok (.lconst 0, 1) := dkAt dk09aref5_cX12_over_0_a 18 rfl
theorem dX12_over_34 : decode cX12_over 34 = .ok (.ladd, 1) := dkAt dk09aref5_cX12_over_0_a 19 rfl
theorem dX12_over_35 : decode cX12_over 35 = .ok (.lstore_n 1, 1) := dkAt dk09aref5_cX12_over_0_a 20 rfl
theorem dX12_over_36 : decode cX12_over 36 = .ok (.iinc 3 1, 3) := dkAt dk09aref5_cX12_over_0_a 21 rfl
theorem dX12_over_39 : decode cX12_over 39 = .ok (.goto (-35), 3) := dkAt dk09aref5_cX12_over_0_a 22 rfl
theorem dX12_over_24 : decode cX12_over 24 = .ok (.aload_n 0, 1) := dkAt dk09aref5_cX12_over_0_a 23 rfl
theorem dX12_over_25 : decode cX12_over 25 = .ok (.getfield 28, 3) := dkAt dk09aref5_cX12_over_0_a 24 rfl
theorem dX12_over_28 : decode cX12_over 28 = .ok (.iload_n 3, 1) := dkAt dk09aref5_cX12_over_0_a 25 rfl
theorem dX12_over_29 : decode cX12_over 29 = .ok (.laload, 1) := dkAt dk09aref5_cX12_over_0_a 26 rfl
theorem dX12_over_30 : decode cX12_over 30 = .ok (.goto 4, 3) := dkAt dk09aref5_cX12_over_0_a 27 rfl
noncomputable def dk09aref5_cX12_seen_0 : List (Nat × Instr × Nat) := [(0, .lconst 0, 1), (1, .lstore_n 2, 1), (2, .iconst 0, 1), (3, .istore 4, 2), (5, .iload 4, 2), (7, .bipush 36, 2), (9, .if_icmp .ge 46, 3), (55, .lload_n 2, 1), (56, .lreturn, 1), (12, .lload_n 2, 1), (13, .aload_n 0, 1), (14, .getfield 9, 3), (17, .bipush 37, 2), (19, .iload 4, 2), (21, .iadd, 1), (22, .iaload, 1), (23, .ifCond .ne 23, 3), (46, .lconst 0, 1), (47, .ladd, 1), (48, .lstore_n 2, 1), (49, .iinc 4 1, 3), (52, .goto (-47), 3), (26, .aload_n 0, 1), (27, .iload_n 1, 1), (28, .iload 4, 2), (30, .invokevirtual 174, 3), (33, .ifCond .eq 13, 3), (36, .aload_n 0, 1), (37, .getfield 28, 3), (40, .iload 4, 2), (42, .laload, 1), (43, .goto 4, 3)]
set_option maxRecDepth 100000 in
theorem dk09aref5_cX12_seen_0_a : dkA cX12_seen dk09aref5_cX12_seen_0 = true := by decide +kernel
theorem dX12_seen_0 : decode cX12_seen 0 = .ok (.lconst 0, 1) := dkAt dk09aref5_cX12_seen_0_a 0 rfl
theorem dX12_seen_1 : decode cX12_seen 1 = .ok (.lstore_n 2, 1) := dkAt dk09aref5_cX12_seen_0_a 1 rfl
theorem dX12_seen_2 : decode cX12_seen 2 = .ok (.iconst 0, 1) := dkAt dk09aref5_cX12_seen_0_a 2 rfl
theorem dX12_seen_3 : decode cX12_seen 3 = .ok (.istore 4, 2) := dkAt dk09aref5_cX12_seen_0_a 3 rfl
theorem dX12_seen_5 : decode cX12_seen 5 = .ok (.iload 4, 2) := dkAt dk09aref5_cX12_seen_0_a 4 rfl
theorem dX12_seen_7 : decode cX12_seen 7 = .ok (.bipush 36, 2) := dkAt dk09aref5_cX12_seen_0_a 5 rfl
theorem dX12_seen_9 : decode cX12_seen 9 = .ok (.if_icmp .ge 46, 3) := dkAt dk09aref5_cX12_seen_0_a 6 rfl
theorem dX12_seen_55 : decode cX12_seen 55 = .ok (.lload_n 2, 1) := dkAt dk09aref5_cX12_seen_0_a 7 rfl
theorem dX12_seen_56 : decode cX12_seen 56 = .ok (.lreturn, 1) := dkAt dk09aref5_cX12_seen_0_a 8 rfl
theorem dX12_seen_12 : decode cX12_seen 12 = .ok (.lload_n 2, 1) := dkAt dk09aref5_cX12_seen_0_a 9 rfl
theorem dX12_seen_13 : decode cX12_seen 13 = .ok (.aload_n 0, 1) := dkAt dk09aref5_cX12_seen_0_a 10 rfl
theorem dX12_seen_14 : decode cX12_seen 14 = .ok (.getfield 9, 3) := dkAt dk09aref5_cX12_seen_0_a 11 rfl
theorem dX12_seen_17 : decode cX12_seen 17 = .ok (.bipush 37, 2) := dkAt dk09aref5_cX12_seen_0_a 12 rfl
theorem dX12_seen_19 : decode cX12_seen 19 = .ok (.iload 4, 2) := dkAt dk09aref5_cX12_seen_0_a 13 rfl
theorem dX12_seen_21 : decode cX12_seen 21 = .ok (.iadd, 1) := dkAt dk09aref5_cX12_seen_0_a 14 rfl
theorem dX12_seen_22 : decode cX12_seen 22 = .ok (.iaload, 1) := dkAt dk09aref5_cX12_seen_0_a 15 rfl
theorem dX12_seen_23 : decode cX12_seen 23 = .ok (.ifCond .ne 23, 3) := dkAt dk09aref5_cX12_seen_0_a 16 rfl
theorem dX12_seen_46 : decode cX12_seen 46 = .ok (.lconst 0, 1) := dkAt dk09aref5_cX12_seen_0_a 17 rfl
theorem dX12_seen_47 : decode cX12_seen 47 = .ok (.ladd, 1) := dkAt dk09aref5_cX12_seen_0_a 18 rfl
theorem dX12_seen_48 : decode cX12_seen 48 = .ok (.lstore_n 2, 1) := dkAt dk09aref5_cX12_seen_0_a 19 rfl
theorem dX12_seen_49 : decode cX12_seen 49 = .ok (.iinc 4 1, 3) := dkAt dk09aref5_cX12_seen_0_a 20 rfl
theorem dX12_seen_52 : decode cX12_seen 52 = .ok (.goto (-47), 3) := dkAt dk09aref5_cX12_seen_0_a 21 rfl
theorem dX12_seen_26 : decode cX12_seen 26 = .ok (.aload_n 0, 1) := dkAt dk09aref5_cX12_seen_0_a 22 rfl
theorem dX12_seen_27 : decode cX12_seen 27 = .ok (.iload_n 1, 1) := dkAt dk09aref5_cX12_seen_0_a 23 rfl
theorem dX12_seen_28 : decode cX12_seen 28 = .ok (.iload 4, 2) := dkAt dk09aref5_cX12_seen_0_a 24 rfl
theorem dX12_seen_30 : decode cX12_seen 30 = .ok (.invokevirtual 174, 3) := dkAt dk09aref5_cX12_seen_0_a 25 rfl
theorem dX12_seen_33 : decode cX12_seen 33 = .ok (.ifCond .eq 13, 3) := dkAt dk09aref5_cX12_seen_0_a 26 rfl
theorem dX12_seen_36 : decode cX12_seen 36 = .ok (.aload_n 0, 1) := dkAt dk09aref5_cX12_seen_0_a 27 rfl
theorem dX12_seen_37 : decode cX12_seen 37 = .ok (.getfield 28, 3) := dkAt dk09aref5_cX12_seen_0_a 28 rfl
theorem dX12_seen_40 : decode cX12_seen 40 = .ok (.iload 4, 2) := dkAt dk09aref5_cX12_seen_0_a 29 rfl
theorem dX12_seen_42 : decode cX12_seen 42 = .ok (.laload, 1) := dkAt dk09aref5_cX12_seen_0_a 30 rfl
theorem dX12_seen_43 : decode cX12_seen 43 = .ok (.goto 4, 3) := dkAt dk09aref5_cX12_seen_0_a 31 rfl
noncomputable def dk09aref5_cX12_lowest_0 : List (Nat × Instr × Nat) := [(0, .lload_n 0, 1), (1, .lstore 5, 2), (3, .lload_n 2, 1), (4, .lstore 7, 2), (6, .lload 7, 2), (8, .lconst 0, 1), (9, .lcmp, 1), (10, .ifCond .eq 21, 3), (31, .iload 4, 2), (41, .lload 5, 2), (43, .ldiv, 1), (44, .lreturn, 1), (33, .ifCond .ne 7, 3), (40, .lload_n 2, 1), (36, .lload_n 0, 1), (37, .goto 4, 3), (13, .lload 5, 2), (15, .lload 7, 2), (17, .lrem, 1), (18, .lstore 9, 2), (20, .lload 7, 2), (22, .lstore 5, 2), (24, .lload 9, 2), (26, .lstore 7, 2), (28, .goto (-22), 3)]
set_option maxRecDepth 100000 in
theorem dk09aref5_cX12_lowest_0_a : dkA cX12_lowest dk09aref5_cX12_lowest_0 = true := by decide +kernel
theorem dX12_lowest_0 : decode cX12_lowest 0 = .ok (.lload_n 0, 1) := dkAt dk09aref5_cX12_lowest_0_a 0 rfl
theorem dX12_lowest_1 : decode cX12_lowest 1 = .ok (.lstore 5, 2) := dkAt dk09aref5_cX12_lowest_0_a 1 rfl
theorem dX12_lowest_3 : decode cX12_lowest 3 = .ok (.lload_n 2, 1) := dkAt dk09aref5_cX12_lowest_0_a 2 rfl
theorem dX12_lowest_4 : decode cX12_lowest 4 = .ok (.lstore 7, 2) := dkAt dk09aref5_cX12_lowest_0_a 3 rfl
theorem dX12_lowest_6 : decode cX12_lowest 6 = .ok (.lload 7, 2) := dkAt dk09aref5_cX12_lowest_0_a 4 rfl
theorem dX12_lowest_8 : decode cX12_lowest 8 = .ok (.lconst 0, 1) := dkAt dk09aref5_cX12_lowest_0_a 5 rfl
theorem dX12_lowest_9 : decode cX12_lowest 9 = .ok (.lcmp, 1) := dkAt dk09aref5_cX12_lowest_0_a 6 rfl
theorem dX12_lowest_10 : decode cX12_lowest 10 = .ok (.ifCond .eq 21, 3) := dkAt dk09aref5_cX12_lowest_0_a 7 rfl
theorem dX12_lowest_31 : decode cX12_lowest 31 = .ok (.iload 4, 2) := dkAt dk09aref5_cX12_lowest_0_a 8 rfl
theorem dX12_lowest_41 : decode cX12_lowest 41 = .ok (.lload 5, 2) := dkAt dk09aref5_cX12_lowest_0_a 9 rfl
theorem dX12_lowest_43 : decode cX12_lowest 43 = .ok (.ldiv, 1) := dkAt dk09aref5_cX12_lowest_0_a 10 rfl
theorem dX12_lowest_44 : decode cX12_lowest 44 = .ok (.lreturn, 1) := dkAt dk09aref5_cX12_lowest_0_a 11 rfl
theorem dX12_lowest_33 : decode cX12_lowest 33 = .ok (.ifCond .ne 7, 3) := dkAt dk09aref5_cX12_lowest_0_a 12 rfl
theorem dX12_lowest_40 : decode cX12_lowest 40 = .ok (.lload_n 2, 1) := dkAt dk09aref5_cX12_lowest_0_a 13 rfl
theorem dX12_lowest_36 : decode cX12_lowest 36 = .ok (.lload_n 0, 1) := dkAt dk09aref5_cX12_lowest_0_a 14 rfl
theorem dX12_lowest_37 : decode cX12_lowest 37 = .ok (.goto 4, 3) := dkAt dk09aref5_cX12_lowest_0_a 15 rfl
theorem dX12_lowest_13 : decode cX12_lowest 13 = .ok (.lload 5, 2) := dkAt dk09aref5_cX12_lowest_0_a 16 rfl
theorem dX12_lowest_15 : decode cX12_lowest 15 = .ok (.lload 7, 2) := dkAt dk09aref5_cX12_lowest_0_a 17 rfl
theorem dX12_lowest_17 : decode cX12_lowest 17 = .ok (.lrem, 1) := dkAt dk09aref5_cX12_lowest_0_a 18 rfl
theorem dX12_lowest_18 : decode cX12_lowest 18 = .ok (.lstore 9, 2) := dkAt dk09aref5_cX12_lowest_0_a 19 rfl
theorem dX12_lowest_20 : decode cX12_lowest 20 = .ok (.lload 7, 2) := dkAt dk09aref5_cX12_lowest_0_a 20 rfl
theorem dX12_lowest_22 : decode cX12_lowest 22 = .ok (.lstore 5, 2) := dkAt dk09aref5_cX12_lowest_0_a 21 rfl
theorem dX12_lowest_24 : decode cX12_lowest 24 = .ok (.lload 9, 2) := dkAt dk09aref5_cX12_lowest_0_a 22 rfl
theorem dX12_lowest_26 : decode cX12_lowest 26 = .ok (.lstore 7, 2) := dkAt dk09aref5_cX12_lowest_0_a 23 rfl
theorem dX12_lowest_28 : decode cX12_lowest 28 = .ok (.goto (-22), 3) := dkAt dk09aref5_cX12_lowest_0_a 24 rfl
noncomputable def dk09aref5_cX12_twenties_0 : List (Nat × Instr × Nat) := [(0, .lconst 1, 1), (1, .lstore_n 1, 1), (2, .iconst 0, 1), (3, .istore_n 3, 1), (4, .iload_n 3, 1), (5, .iload_n 0, 1), (6, .if_icmp .ge 15, 3), (21, .lload_n 1, 1), (22, .lreturn, 1), (9, .lload_n 1, 1), (10, .ldc2_w 204, 3), (13, .lmul, 1), (14, .lstore_n 1, 1), (15, .iinc 3 1, 3), (18, .goto (-14), 3)]
set_option maxRecDepth 100000 in
theorem dk09aref5_cX12_twenties_0_a : dkA cX12_twenties dk09aref5_cX12_twenties_0 = true := by decide +kernel
theorem dX12_twenties_0 : decode cX12_twenties 0 = .ok (.lconst 1, 1) := dkAt dk09aref5_cX12_twenties_0_a 0 rfl
theorem dX12_twenties_1 : decode cX12_twenties 1 = .ok (.lstore_n 1, 1) := dkAt dk09aref5_cX12_twenties_0_a 1 rfl
theorem dX12_twenties_2 : decode cX12_twenties 2 = .ok (.iconst 0, 1) := dkAt dk09aref5_cX12_twenties_0_a 2 rfl
theorem dX12_twenties_3 : decode cX12_twenties 3 = .ok (.istore_n 3, 1) := dkAt dk09aref5_cX12_twenties_0_a 3 rfl
theorem dX12_twenties_4 : decode cX12_twenties 4 = .ok (.iload_n 3, 1) := dkAt dk09aref5_cX12_twenties_0_a 4 rfl
theorem dX12_twenties_5 : decode cX12_twenties 5 = .ok (.iload_n 0, 1) := dkAt dk09aref5_cX12_twenties_0_a 5 rfl
theorem dX12_twenties_6 : decode cX12_twenties 6 = .ok (.if_icmp .ge 15, 3) := dkAt dk09aref5_cX12_twenties_0_a 6 rfl
theorem dX12_twenties_21 : decode cX12_twenties 21 = .ok (.lload_n 1, 1) := dkAt dk09aref5_cX12_twenties_0_a 7 rfl
theorem dX12_twenties_22 : decode cX12_twenties 22 = .ok (.lreturn, 1) := dkAt dk09aref5_cX12_twenties_0_a 8 rfl
theorem dX12_twenties_9 : decode cX12_twenties 9 = .ok (.lload_n 1, 1) := dkAt dk09aref5_cX12_twenties_0_a 9 rfl
theorem dX12_twenties_10 : decode cX12_twenties 10 = .ok (.ldc2_w 204, 3) := dkAt dk09aref5_cX12_twenties_0_a 10 rfl
theorem dX12_twenties_13 : decode cX12_twenties 13 = .ok (.lmul, 1) := dkAt dk09aref5_cX12_twenties_0_a 11 rfl
theorem dX12_twenties_14 : decode cX12_twenties 14 = .ok (.lstore_n 1, 1) := dkAt dk09aref5_cX12_twenties_0_a 12 rfl
theorem dX12_twenties_15 : decode cX12_twenties 15 = .ok (.iinc 3 1, 3) := dkAt dk09aref5_cX12_twenties_0_a 13 rfl
theorem dX12_twenties_18 : decode cX12_twenties 18 = .ok (.goto (-14), 3) := dkAt dk09aref5_cX12_twenties_0_a 14 rfl
theorem kc_driftOf_0 : ∀ w ∈ wsX120, w ∈ wsX12_driftOf := fun w h => List.mem_cons_of_mem _ (gin_wsX120 w h)
theorem kc_driftOf_1 : (.fieldLink RX12 146 "MistHeapsModel" "drifting" "I" : Cond) ∈ wsX12_driftOf := kc_of 1152 rfl rfl rfl
set_option maxHeartbeats 4000000 in
set_option maxRecDepth 100000 in
theorem c_driftOf (l : Launch) (dC : Nat → ClassId) (dI : Nat → Nat → Nat) (m0 aS aI aB aT aG aO aN aD aY : Nat) (th im ac sp en wg op se dn rn kd nu tv : Int32) (bv : Int64) (cS cB cT : ClassId) (fS : Nat → Int32) (fB : Nat → Int32) (fT : Nat → Int32) (x : Int32) (cz : List pCla) (sz : Nat) (zh : hol fS cz) : Met l yX12_driftOf wsX12_driftOf ({ frames := 1, cells := 0, slots := 0, locals := 31 } : Room) (va_Pc [.ref m0, .int x] (fun U => U.heap.size = sz ∧ va_P (dC, dI) vwCl [(zo14irriiiiiirriirrrrlriiii m0 th aS aI im ac sp en wg op aB aT se dn aG aO aN aD bv aY rn kd nu tv), (zaI aS cS 901 fS), (zaI aB cB 6 fB), (zaI aT cT 64 fT)] U.heap ∧ va_K (dC, dI) vwCl [(cS, .int), (cB, .int), (cT, .boolean)] U ∧ va_D (fun _ => True) [(zo14irriiiiiirriirrrrlriiii m0 th aS aI im ac sp en wg op aB aT se dn aG aO aN aD bv aY rn kd nu tv), (zaI aS cS 901 fS), (zaI aB cB 6 fB), (zaI aT cT 64 fT)])) (va_Qi (fun (r : Int32) (u : (Nat → Int32) × (Nat → Int32) × (Int32) × (Int32)) => match u with | (fB9, fT9, se9, dn9) => r = DRV cz (fS 6) (fS 7) x) (fun (u : (Nat → Int32) × (Nat → Int32) × (Int32) × (Int32)) (t : State) => match u with | (fB9, fT9, se9, dn9) => va_P (dC, dI) vwCl [(zo14irriiiiiirriirrrrlriiii m0 th aS aI im ac sp en wg op aB aT se9 dn9 aG aO aN aD bv aY rn kd nu tv), (zaI aS cS 901 fS), (zaI aB cB 6 fB9), (zaI aT cT 64 fT9)] t.heap ∧ va_K (dC, dI) vwCl [(cS, .int), (cB, .int), (cT, .boolean)] t ∧ va_D (va_A [(zo14irriiiiiirriirrrrlriiii m0 th aS aI im ac sp en wg op aB aT se dn aG aO aN aD bv aY rn kd nu tv), (zaI aS cS 901 fS), (zaI aB cB 6 fB), (zaI aT cT 64 fT)] sz) [(zo14irriiiiiirriirrrrlriiii m0 th aS aI im ac sp en wg op aB aT se9 dn9 aG aO aN aD bv aY rn kd nu tv), (zaI aS cS 901 fS), (zaI aB cB 6 fB9), (zaI aT cT 64 fT9)]) (va_A [(zo14irriiiiiirriirrrrlriiii m0 th aS aI im ac sp en wg op aB aT se dn aG aO aN aD bv aY rn kd nu tv), (zaI aS cS 901 fS), (zaI aB cB 6 fB), (zaI aT cT 64 fT)] sz)) 0 0 (va_A [(zo14irriiiiiirriirrrrlriiii m0 th aS aI im ac sp en wg op aB aT se dn aG aO aN aD bv aY rn kd nu tv), (zaI aS cS 901 fS), (zaI aB cB 6 fB), (zaI aT cT 64 fT)] sz) := by
  refine met_ofQ (cc := cX12_driftOf) (maxL := 2) (ret := (some .int)) (by decide) rfl ?_
  intro p e s m args below meth c s₁ Q B hml hv hQ
  obtain ⟨rfl, hsz, hP, hK, hD0⟩ := hv
  have hx := B.exec
  have hb := B.bytes
  have hr := B.returns
  have hts := atoms_spec (ws := wsX12_driftOf) B.pre
  have hown : s.vm.findClass RX12 = some m.cls := findClass_of_methodNamed B.named
  have hlocks := B.notSynchronized
  subst hsz
  have hD := hD0.self (sz := s.heap.size)
  generalize hAe : va_A [(zo14irriiiiiirriirrrrlriiii m0 th aS aI im ac sp en wg op aB aT se dn aG aO aN aD bv aY rn kd nu tv), (zaI aS cS 901 fS), (zaI aB cB 6 fB), (zaI aT cT 64 fT)] s.heap.size = A at hD hQ ⊢
  have hA : ∀ q : Nat, s.heap.size ≤ q → A q := fun q h => by rw [← hAe]; exact Or.inr h
  have hS : va_S A s.heap s.heap [] := va_S.rf
  have hl := lv_entry [.ref m0, .int x] (n := 2) (Nat.le_of_ble_eq_true rfl)
  rw [lg_entry_eq]
  generalize (lg_sl [.ref m0, .int x] ++ List.replicate (2 - (lg_sl [.ref m0, .int x]).length) Slot.unset).toArray = ls at hl ⊢
  generalize hag : ([.ref m0, .int x] : List Value).toArray = args at hts hQ ⊢
  have hl : lv_has ls 2 [(0, .ref m0), (1, .int x)] := hl
  obtain ⟨H, hH⟩ : ∃ H : Heap, H = s.heap := ⟨_, rfl⟩
  rw [← hH] at hP
  rw [← hH]
  have hS : va_S A s.heap H [] := by rw [hH]; exact hS
  obtain ⟨locs, hlo⟩ : ∃ L : List Loc, L = [] := ⟨_, rfl⟩
  rw [← hlo] at hS
  rw [← hlo]
  clear hH hlo
  refine lv_aload_n hx hb dX12_driftOf_0 rfl (lv_at hl 0 rfl) ?_
  refine lv_bipush (v := 99) hx hb dX12_driftOf_1 (by decide) ?_
  refine lv_bipush (v := 99) hx hb dX12_driftOf_3 (by decide) ?_
  refine lv_iload_n hx hb dX12_driftOf_5 rfl (lv_at hl 1 rfl) ?_
  have hPc := hP.sub (ws' := [(zo14irriiiiiirriirrrrlriiii m0 th aS aI im ac sp en wg op aB aT se dn aG aO aN aD bv aY rn kd nu tv), (zaI aS cS 901 fS), (zaI aB cB 6 fB), (zaI aT cT 64 fT)]) [0, 1, 2, 3] rfl
  have hDc := hD.sub (ws' := [(zo14irriiiiiirriirrrrlriiii m0 th aS aI im ac sp en wg op aB aT se dn aG aO aN aD bv aY rn kd nu tv), (zaI aS cS 901 fS), (zaI aB cB 6 fB), (zaI aT cT 64 fT)]) [0, 1, 2, 3] (by decide) rfl
  have hKc := hK.sub (tys' := [(cS, .int), (cB, .int), (cT, .boolean)]) [0, 1, 2] rfl
  have hFc := va_free (wc := [(zo14irriiiiiirriirrrrlriiii m0 th aS aI im ac sp en wg op aB aT se dn aG aO aN aD bv aY rn kd nu tv), (zaI aS cS 901 fS), (zaI aB cB 6 fB), (zaI aT cT 64 fT)]) hD hS hA [0, 1, 2, 3] rfl
  refine va_callv (va_runV (As := [.int 99, .int 99, .int x]) (rest := []) ⟨hx, hb, hml, hown, hts⟩ (c_looks l dC dI m0 aS aI aB aT aG aO aN aD aY th im ac sp en wg op se dn rn kd nu tv bv cS cB cT fS fB fT 99 99 x cz H.size (zh)) (cwV 3 hts gX12_driftOf_X12_looks rfl rfl rfl hd_yX12_looks ⟨Nat.le_of_ble_eq_true rfl, Nat.le_of_ble_eq_true rfl⟩) ⟨fun a U g mk q => by obtain ⟨q0, q1, qP, qK, qD⟩ := q; exact ⟨q0, q1, qP, va_K.moved (u := U) (U := U.calling g mk a) (Vm.Alike.refl U.vm) qK, qD⟩, va_recv hK hP (ci := 14) (q := (RX12, TX12, 23)) (q0 := 0) rfl rfl, fun U hU hW => ⟨rfl, by rw [hU], by rw [hU]; exact hPc, va_K.moved hW.alike hKc, hDc.weaken (fun _ _ _ _ => trivial)⟩⟩ rfl rfl hl.1 rfl (lv_room (Nat.le_of_ble_eq_true rfl)) dX12_driftOf_6 ⟨Nat.le_of_ble_eq_true rfl, Nat.le_of_ble_eq_true rfl⟩) hS (fun q _ h => hFc q h) hFc (fun u tC H1 locs htC hvm hw_2 hB hz1 hk1 hS => ?_)
  obtain ⟨fB9_3, fT9_4, se9_5, dn9_6⟩ := u
  try dsimp only at hw_2 hB
  obtain ⟨hP1, hK1, hD1⟩ := hB
  rw [htC] at hP1
  have hK1 := va_K.moved hvm.symm hK1
  obtain ⟨hP, hD⟩ := va_join (wr := []) (w1 := [(zo14irriiiiiirriirrrrlriiii m0 th aS aI im ac sp en wg op aB aT se9_5 dn9_6 aG aO aN aD bv aY rn kd nu tv), (zaI aS cS 901 fS), (zaI aB cB 6 fB9_3), (zaI aT cT 64 fT9_4)]) hP hD [0, 1, 2, 3] [] rfl rfl (by decide) (by decide) hk1 hFc hP1 hD1
  have hK := (hK.sub (tys' := []) [] rfl).app hK1
  generalize H1 = H at hP hS ⊢
  have hP : va_P (dC, dI) vwCl [(zo14irriiiiiirriirrrrlriiii m0 th aS aI im ac sp en wg op aB aT se9_5 dn9_6 aG aO aN aD bv aY rn kd nu tv), (zaI aS cS 901 fS), (zaI aB cB 6 fB9_3), (zaI aT cT 64 fT9_4)] H := hP
  have hD : va_D A [(zo14irriiiiiirriirrrrlriiii m0 th aS aI im ac sp en wg op aB aT se9_5 dn9_6 aG aO aN aD bv aY rn kd nu tv), (zaI aS cS 901 fS), (zaI aB cB 6 fB9_3), (zaI aT cT 64 fT9_4)] := hD
  have hK : va_K (dC, dI) vwCl [(cS, .int), (cB, .int), (cT, .boolean)] s := hK
  obtain ⟨ese, edn⟩ := hw_2
  refine lv_aload_n hx hb dX12_driftOf_9 rfl (lv_at hl 0 rfl) ?_
  refine va_get (D := (dC, dI)) (ci := 14) (v := .int dn9_6) (C := RX12) (T := TX12) (N := 23) hx hb hts kc_driftOf_0 hown hK hP 0 rfl rfl 12 (by decide) (hts (.fieldLink RX12 146 "MistHeapsModel" "drifting" "I") kc_driftOf_1) (fun _ h9 => h9) rfl dX12_driftOf_10 ?_
  refine lv_iconst (v := 5) hx hb dX12_driftOf_13 (by decide) ?_
  refine lv_icmp_le (tgt := 21) hx hb dX12_driftOf_14 (by decide) (fun c_7 => ?_) (fun c_7 => ?_)
  · skip
    refine lv_aload_n hx hb dX12_driftOf_21 rfl (lv_at hl 0 rfl) ?_
    refine va_get (D := (dC, dI)) (ci := 14) (v := .int dn9_6) (C := RX12) (T := TX12) (N := 23) hx hb hts kc_driftOf_0 hown hK hP 0 rfl rfl 12 (by decide) (hts (.fieldLink RX12 146 "MistHeapsModel" "drifting" "I") kc_driftOf_1) (fun _ h9 => h9) rfl dX12_driftOf_22 ?_
    rw [hQ]
    have hP9 := hP.sub (ws' := [(zo14irriiiiiirriirrrrlriiii m0 th aS aI im ac sp en wg op aB aT se9_5 dn9_6 aG aO aN aD bv aY rn kd nu tv), (zaI aS cS 901 fS), (zaI aB cB 6 fB9_3), (zaI aT cT 64 fT9_4)]) [0, 1, 2, 3] rfl
    have hD9 := hD.sub (ws' := [(zo14irriiiiiirriirrrrlriiii m0 th aS aI im ac sp en wg op aB aT se9_5 dn9_6 aG aO aN aD bv aY rn kd nu tv), (zaI aS cS 901 fS), (zaI aB cB 6 fB9_3), (zaI aT cT 64 fT9_4)]) [0, 1, 2, 3] (by decide) rfl
    have hK9 := hK.sub (tys' := [(cS, .int), (cB, .int), (cT, .boolean)]) [0, 1, 2] rfl
    exact W.iret (v := dn9_6) hx hb hr (fun tQ htQ hWQ => ⟨⟨dn9_6, (fB9_3, fT9_4, se9_5, dn9_6), rfl, by first | exact dr_a edn (by assumption) | exact dr_b edn (by assumption), by rw [htQ]; exact hP9, va_K.moved hWQ.alike hK9, hD9⟩, hS.F htQ⟩) hS.2.2 dX12_driftOf_25
  · skip
    refine lv_iconst (v := 5) hx hb dX12_driftOf_17 (by decide) ?_
    refine lv_goto (tgt := 25) hx hb dX12_driftOf_18 (by decide) ?_
    rw [hQ]
    have hP9 := hP.sub (ws' := [(zo14irriiiiiirriirrrrlriiii m0 th aS aI im ac sp en wg op aB aT se9_5 dn9_6 aG aO aN aD bv aY rn kd nu tv), (zaI aS cS 901 fS), (zaI aB cB 6 fB9_3), (zaI aT cT 64 fT9_4)]) [0, 1, 2, 3] rfl
    have hD9 := hD.sub (ws' := [(zo14irriiiiiirriirrrrlriiii m0 th aS aI im ac sp en wg op aB aT se9_5 dn9_6 aG aO aN aD bv aY rn kd nu tv), (zaI aS cS 901 fS), (zaI aB cB 6 fB9_3), (zaI aT cT 64 fT9_4)]) [0, 1, 2, 3] (by decide) rfl
    have hK9 := hK.sub (tys' := [(cS, .int), (cB, .int), (cT, .boolean)]) [0, 1, 2] rfl
    exact W.iret (v := 5) hx hb hr (fun tQ htQ hWQ => ⟨⟨5, (fB9_3, fT9_4, se9_5, dn9_6), rfl, by first | exact dr_a edn (by assumption) | exact dr_b edn (by assumption), by rw [htQ]; exact hP9, va_K.moved hWQ.alike hK9, hD9⟩, hS.F htQ⟩) hS.2.2 dX12_driftOf_25

set_option maxHeartbeats 4000000 in
set_option maxRecDepth 100000 in
theorem c_mDrift (l : Launch) (dC : Nat → ClassId) (dI : Nat → Nat → Nat) (m0 aS aI aB aT aG aO aN aD aY : Nat) (th im ac sp en wg op se dn rn kd nu tv : Int32) (bv : Int64) (cS cB cT : ClassId) (fS : Nat → Int32) (fB : Nat → Int32) (fT : Nat → Int32) (mi sn x : Int32) (cz : List pCla) (sz : Nat) (zh : hol fS cz) (zmi : fS 6 = mi) (zsn : fS 7 = sn) : Met l yX12_drift wsX12_drift ({ frames := 2, cells := 0, slots := 0, locals := 52 } : Room) (va_Pc [.ref m0, .int x] (fun U => U.heap.size = sz ∧ va_P (dC, dI) vwCl [(zo14irriiiiiirriirrrrlriiii m0 th aS aI im ac sp en wg op aB aT se dn aG aO aN aD bv aY rn kd nu tv), (zaI aS cS 901 fS), (zaI aB cB 6 fB), (zaI aT cT 64 fT)] U.heap ∧ va_K (dC, dI) vwCl [(cS, .int), (cB, .int), (cT, .boolean)] U ∧ va_D (fun _ => True) [(zo14irriiiiiirriirrrrlriiii m0 th aS aI im ac sp en wg op aB aT se dn aG aO aN aD bv aY rn kd nu tv), (zaI aS cS 901 fS), (zaI aB cB 6 fB), (zaI aT cT 64 fT)])) (va_Qi (fun (r : Int32) (u : (Nat → Int32) × (Nat → Int32) × (Int32) × (Int32)) => match u with | (fB9, fT9, se9, dn9) => r = drR cz mi sn x) (fun (u : (Nat → Int32) × (Nat → Int32) × (Int32) × (Int32)) (t : State) => match u with | (fB9, fT9, se9, dn9) => va_P (dC, dI) vwCl [(zo14irriiiiiirriirrrrlriiii m0 th aS aI im ac sp en wg op aB aT se9 dn9 aG aO aN aD bv aY rn kd nu tv), (zaI aS cS 901 fS), (zaI aB cB 6 fB9), (zaI aT cT 64 fT9)] t.heap ∧ va_K (dC, dI) vwCl [(cS, .int), (cB, .int), (cT, .boolean)] t ∧ va_D (va_A [(zo14irriiiiiirriirrrrlriiii m0 th aS aI im ac sp en wg op aB aT se dn aG aO aN aD bv aY rn kd nu tv), (zaI aS cS 901 fS), (zaI aB cB 6 fB), (zaI aT cT 64 fT)] sz) [(zo14irriiiiiirriirrrrlriiii m0 th aS aI im ac sp en wg op aB aT se9 dn9 aG aO aN aD bv aY rn kd nu tv), (zaI aS cS 901 fS), (zaI aB cB 6 fB9), (zaI aT cT 64 fT9)]) (va_A [(zo14irriiiiiirriirrrrlriiii m0 th aS aI im ac sp en wg op aB aT se dn aG aO aN aD bv aY rn kd nu tv), (zaI aS cS 901 fS), (zaI aB cB 6 fB), (zaI aT cT 64 fT)] sz)) 0 0 (va_A [(zo14irriiiiiirriirrrrlriiii m0 th aS aI im ac sp en wg op aB aT se dn aG aO aN aD bv aY rn kd nu tv), (zaI aS cS 901 fS), (zaI aB cB 6 fB), (zaI aT cT 64 fT)] sz) := by
  refine met_ofQ (cc := cX12_drift) (maxL := 2) (ret := (some .int)) (by decide) rfl ?_
  intro p e s m args below meth c s₁ Q B hml hv hQ
  obtain ⟨rfl, hsz, hP, hK, hD0⟩ := hv
  have hx := B.exec
  have hb := B.bytes
  have hr := B.returns
  have hts := atoms_spec (ws := wsX12_drift) B.pre
  have hown : s.vm.findClass RX12 = some m.cls := findClass_of_methodNamed B.named
  have hlocks := B.notSynchronized
  subst hsz
  have hD := hD0.self (sz := s.heap.size)
  generalize hAe : va_A [(zo14irriiiiiirriirrrrlriiii m0 th aS aI im ac sp en wg op aB aT se dn aG aO aN aD bv aY rn kd nu tv), (zaI aS cS 901 fS), (zaI aB cB 6 fB), (zaI aT cT 64 fT)] s.heap.size = A at hD hQ ⊢
  have hA : ∀ q : Nat, s.heap.size ≤ q → A q := fun q h => by rw [← hAe]; exact Or.inr h
  have hS : va_S A s.heap s.heap [] := va_S.rf
  have hl := lv_entry [.ref m0, .int x] (n := 2) (Nat.le_of_ble_eq_true rfl)
  rw [lg_entry_eq]
  generalize (lg_sl [.ref m0, .int x] ++ List.replicate (2 - (lg_sl [.ref m0, .int x]).length) Slot.unset).toArray = ls at hl ⊢
  generalize hag : ([.ref m0, .int x] : List Value).toArray = args at hts hQ ⊢
  have hl : lv_has ls 2 [(0, .ref m0), (1, .int x)] := hl
  obtain ⟨H, hH⟩ : ∃ H : Heap, H = s.heap := ⟨_, rfl⟩
  rw [← hH] at hP
  rw [← hH]
  have hS : va_S A s.heap H [] := by rw [hH]; exact hS
  obtain ⟨locs, hlo⟩ : ∃ L : List Loc, L = [] := ⟨_, rfl⟩
  rw [← hlo] at hS
  rw [← hlo]
  clear hH hlo
  refine lv_iload_n hx hb dX12_drift_0 rfl (lv_at hl 1 rfl) ?_
  refine vp_callSi (va_runS (As := [.int x]) (rest := []) ⟨hx, hb, hml, hown, hts⟩ (c_mCell l dC dI x) (va_cwS 1 hts gX12_drift_X12_isCell rfl rfl rfl hd_yX12_isCell.2 ⟨Nat.le_of_ble_eq_true rfl, Nat.le_of_ble_eq_true rfl⟩) ⟨fun a U g mk q => ⟨q.1, trivial⟩, fun U hU hW => ⟨rfl, trivial⟩⟩ rfl rfl hl.1 rfl (lv_room (Nat.le_of_ble_eq_true rfl)) dX12_drift_1 ⟨Nat.le_of_ble_eq_true rfl, Nat.le_of_ble_eq_true rfl⟩).run (fun r_1 hw_2 => ?_)
  rcases hw_2 with ⟨rfl, h_3, h_4⟩ | ⟨rfl, h_5⟩
  · skip
    refine lv_if_eq (tgt := 15) hx hb dX12_drift_4 (by decide) (fun c_6 => absurd c_6 (by decide)) (fun _ => ?_)
    refine lv_aload_n hx hb dX12_drift_7 rfl (lv_at hl 0 rfl) ?_
    refine lv_iload_n hx hb dX12_drift_8 rfl (lv_at hl 1 rfl) ?_
    have hPc := hP.sub (ws' := [(zo14irriiiiiirriirrrrlriiii m0 th aS aI im ac sp en wg op aB aT se dn aG aO aN aD bv aY rn kd nu tv), (zaI aS cS 901 fS), (zaI aB cB 6 fB), (zaI aT cT 64 fT)]) [0, 1, 2, 3] rfl
    have hDc := hD.sub (ws' := [(zo14irriiiiiirriirrrrlriiii m0 th aS aI im ac sp en wg op aB aT se dn aG aO aN aD bv aY rn kd nu tv), (zaI aS cS 901 fS), (zaI aB cB 6 fB), (zaI aT cT 64 fT)]) [0, 1, 2, 3] (by decide) rfl
    have hKc := hK.sub (tys' := [(cS, .int), (cB, .int), (cT, .boolean)]) [0, 1, 2] rfl
    have hFc := va_free (wc := [(zo14irriiiiiirriirrrrlriiii m0 th aS aI im ac sp en wg op aB aT se dn aG aO aN aD bv aY rn kd nu tv), (zaI aS cS 901 fS), (zaI aB cB 6 fB), (zaI aT cT 64 fT)]) hD hS hA [0, 1, 2, 3] rfl
    refine va_calli (va_runV (As := [.int x]) (rest := []) ⟨hx, hb, hml, hown, hts⟩ (c_driftOf l dC dI m0 aS aI aB aT aG aO aN aD aY th im ac sp en wg op se dn rn kd nu tv bv cS cB cT fS fB fT x cz H.size (zh)) (cwV 1 hts gX12_drift_X12_driftOf rfl rfl rfl hd_yX12_driftOf ⟨Nat.le_of_ble_eq_true rfl, Nat.le_of_ble_eq_true rfl⟩) ⟨fun a U g mk q => by obtain ⟨q0, q1, qP, qK, qD⟩ := q; exact ⟨q0, q1, qP, va_K.moved (u := U) (U := U.calling g mk a) (Vm.Alike.refl U.vm) qK, qD⟩, va_recv hK hP (ci := 14) (q := (RX12, TX12, 23)) (q0 := 0) rfl rfl, fun U hU hW => ⟨rfl, by rw [hU], by rw [hU]; exact hPc, va_K.moved hW.alike hKc, hDc.weaken (fun _ _ _ _ => trivial)⟩⟩ rfl rfl hl.1 rfl (lv_room (Nat.le_of_ble_eq_true rfl)) dX12_drift_9 ⟨Nat.le_of_ble_eq_true rfl, Nat.le_of_ble_eq_true rfl⟩) hS (fun q _ h => hFc q h) hFc (fun r_7 u tC H1 locs htC hvm hw_8 hB hz1 hk1 hS => ?_)
    obtain ⟨fB9_9, fT9_10, se9_11, dn9_12⟩ := u
    try dsimp only at hw_8 hB
    obtain ⟨hP1, hK1, hD1⟩ := hB
    rw [htC] at hP1
    have hK1 := va_K.moved hvm.symm hK1
    obtain ⟨hP, hD⟩ := va_join (wr := []) (w1 := [(zo14irriiiiiirriirrrrlriiii m0 th aS aI im ac sp en wg op aB aT se9_11 dn9_12 aG aO aN aD bv aY rn kd nu tv), (zaI aS cS 901 fS), (zaI aB cB 6 fB9_9), (zaI aT cT 64 fT9_10)]) hP hD [0, 1, 2, 3] [] rfl rfl (by decide) (by decide) hk1 hFc hP1 hD1
    have hK := (hK.sub (tys' := []) [] rfl).app hK1
    generalize H1 = H at hP hS ⊢
    have hP : va_P (dC, dI) vwCl [(zo14irriiiiiirriirrrrlriiii m0 th aS aI im ac sp en wg op aB aT se9_11 dn9_12 aG aO aN aD bv aY rn kd nu tv), (zaI aS cS 901 fS), (zaI aB cB 6 fB9_9), (zaI aT cT 64 fT9_10)] H := hP
    have hD : va_D A [(zo14irriiiiiirriirrrrlriiii m0 th aS aI im ac sp en wg op aB aT se9_11 dn9_12 aG aO aN aD bv aY rn kd nu tv), (zaI aS cS 901 fS), (zaI aB cB 6 fB9_9), (zaI aT cT 64 fT9_10)] := hD
    have hK : va_K (dC, dI) vwCl [(cS, .int), (cB, .int), (cT, .boolean)] s := hK
    obtain rfl := hw_8
    refine lv_goto (tgt := 16) hx hb dX12_drift_12 (by decide) ?_
    rw [hQ]
    have hP9 := hP.sub (ws' := [(zo14irriiiiiirriirrrrlriiii m0 th aS aI im ac sp en wg op aB aT se9_11 dn9_12 aG aO aN aD bv aY rn kd nu tv), (zaI aS cS 901 fS), (zaI aB cB 6 fB9_9), (zaI aT cT 64 fT9_10)]) [0, 1, 2, 3] rfl
    have hD9 := hD.sub (ws' := [(zo14irriiiiiirriirrrrlriiii m0 th aS aI im ac sp en wg op aB aT se9_11 dn9_12 aG aO aN aD bv aY rn kd nu tv), (zaI aS cS 901 fS), (zaI aB cB 6 fB9_9), (zaI aT cT 64 fT9_10)]) [0, 1, 2, 3] (by decide) rfl
    have hK9 := hK.sub (tys' := [(cS, .int), (cB, .int), (cT, .boolean)]) [0, 1, 2] rfl
    exact W.iret (v := DRV cz (fS 6) (fS 7) x) hx hb hr (fun tQ htQ hWQ => ⟨⟨(DRV cz (fS 6) (fS 7) x), (fB9_9, fT9_10, se9_11, dn9_12), rfl, by first | exact drR_no (by assumption) | exact drR_m (by assumption) (by assumption) zmi zsn, by rw [htQ]; exact hP9, va_K.moved hWQ.alike hK9, hD9⟩, hS.F htQ⟩) hS.2.2 dX12_drift_16
  · skip
    refine lv_if_eq (tgt := 15) hx hb dX12_drift_4 (by decide) (fun _ => ?_) (fun c_13 => absurd c_13 (by decide))
    refine lv_iconst (v := (-1)) hx hb dX12_drift_15 (by decide) ?_
    rw [hQ]
    have hP9 := hP.sub (ws' := [(zo14irriiiiiirriirrrrlriiii m0 th aS aI im ac sp en wg op aB aT se dn aG aO aN aD bv aY rn kd nu tv), (zaI aS cS 901 fS), (zaI aB cB 6 fB), (zaI aT cT 64 fT)]) [0, 1, 2, 3] rfl
    have hD9 := hD.sub (ws' := [(zo14irriiiiiirriirrrrlriiii m0 th aS aI im ac sp en wg op aB aT se dn aG aO aN aD bv aY rn kd nu tv), (zaI aS cS 901 fS), (zaI aB cB 6 fB), (zaI aT cT 64 fT)]) [0, 1, 2, 3] (by decide) rfl
    have hK9 := hK.sub (tys' := [(cS, .int), (cB, .int), (cT, .boolean)]) [0, 1, 2] rfl
    exact W.iret (v := (-1)) hx hb hr (fun tQ htQ hWQ => ⟨⟨(-1), (fB, fT, se, dn), rfl, by first | exact drR_no (by assumption) | exact drR_m (by assumption) (by assumption) zmi zsn, by rw [htQ]; exact hP9, va_K.moved hWQ.alike hK9, hD9⟩, hS.F htQ⟩) hS.2.2 dX12_drift_16

theorem kc_lookDrifts_0 : ∀ w ∈ wsX120, w ∈ wsX12_looksForDrifts := fun w h => List.mem_cons_of_mem _ (gin_wsX120 w h)
theorem kc_lookDrifts_1 : (.fieldLink RX12 35 "MistHeapsModel" "drifts" "[I" : Cond) ∈ wsX12_looksForDrifts := kc_of 1156 rfl rfl rfl
set_option maxHeartbeats 4000000 in
set_option maxRecDepth 100000 in
theorem c_lookDrifts (l : Launch) (dC : Nat → ClassId) (dI : Nat → Nat → Nat) (m0 aS aI aB aT aG aO aN aD aY : Nat) (th im ac sp en wg op se dn rn kd nu tv : Int32) (bv : Int64) (cS cB cT cD : ClassId) (fS : Nat → Int32) (fB : Nat → Int32) (fT : Nat → Int32) (fD : Nat → Int32) (cz : List pCla) (sz : Nat) (zh : hol fS cz) : Met l yX12_looksForDrifts wsX12_looksForDrifts ({ frames := 2, cells := 0, slots := 0, locals := 52 } : Room) (va_Pc [.ref m0] (fun U => U.heap.size = sz ∧ va_P (dC, dI) vwCl [(zo14irriiiiiirriirrrrlriiii m0 th aS aI im ac sp en wg op aB aT se dn aG aO aN aD bv aY rn kd nu tv), (zaI aS cS 901 fS), (zaI aB cB 6 fB), (zaI aT cT 64 fT), (zaI aD cD 36 fD)] U.heap ∧ va_K (dC, dI) vwCl [(cS, .int), (cB, .int), (cT, .boolean), (cD, .int)] U ∧ va_D (fun _ => True) [(zo14irriiiiiirriirrrrlriiii m0 th aS aI im ac sp en wg op aB aT se dn aG aO aN aD bv aY rn kd nu tv), (zaI aS cS 901 fS), (zaI aB cB 6 fB), (zaI aT cT 64 fT), (zaI aD cD 36 fD)])) (va_Qv (fun (u : (Nat → Int32) × (Nat → Int32) × (Int32) × (Int32) × (Nat → Int32)) => match u with | (fB9, fT9, se9, dn9, fD9) => True) (fun (u : (Nat → Int32) × (Nat → Int32) × (Int32) × (Int32) × (Nat → Int32)) (t : State) => match u with | (fB9, fT9, se9, dn9, fD9) => va_P (dC, dI) vwCl [(zo14irriiiiiirriirrrrlriiii m0 th aS aI im ac sp en wg op aB aT se9 dn9 aG aO aN aD bv aY rn kd nu tv), (zaI aS cS 901 fS), (zaI aB cB 6 fB9), (zaI aT cT 64 fT9), (zaI aD cD 36 fD9)] t.heap ∧ va_K (dC, dI) vwCl [(cS, .int), (cB, .int), (cT, .boolean), (cD, .int)] t ∧ va_D (va_A [(zo14irriiiiiirriirrrrlriiii m0 th aS aI im ac sp en wg op aB aT se dn aG aO aN aD bv aY rn kd nu tv), (zaI aS cS 901 fS), (zaI aB cB 6 fB), (zaI aT cT 64 fT), (zaI aD cD 36 fD)] sz) [(zo14irriiiiiirriirrrrlriiii m0 th aS aI im ac sp en wg op aB aT se9 dn9 aG aO aN aD bv aY rn kd nu tv), (zaI aS cS 901 fS), (zaI aB cB 6 fB9), (zaI aT cT 64 fT9), (zaI aD cD 36 fD9)]) (va_A [(zo14irriiiiiirriirrrrlriiii m0 th aS aI im ac sp en wg op aB aT se dn aG aO aN aD bv aY rn kd nu tv), (zaI aS cS 901 fS), (zaI aB cB 6 fB), (zaI aT cT 64 fT), (zaI aD cD 36 fD)] sz)) 0 0 (va_A [(zo14irriiiiiirriirrrrlriiii m0 th aS aI im ac sp en wg op aB aT se dn aG aO aN aD bv aY rn kd nu tv), (zaI aS cS 901 fS), (zaI aB cB 6 fB), (zaI aT cT 64 fT), (zaI aD cD 36 fD)] sz) := by
  refine met_ofQ (cc := cX12_looksForDrifts) (maxL := 2) (ret := none) (by decide) rfl ?_
  intro p e s m args below meth c s₁ Q B hml hv hQ
  obtain ⟨rfl, hsz, hP, hK, hD0⟩ := hv
  have hx := B.exec
  have hb := B.bytes
  have hr := B.returns
  have hts := atoms_spec (ws := wsX12_looksForDrifts) B.pre
  have hown : s.vm.findClass RX12 = some m.cls := findClass_of_methodNamed B.named
  have hlocks := B.notSynchronized
  subst hsz
  have hD := hD0.self (sz := s.heap.size)
  generalize hAe : va_A [(zo14irriiiiiirriirrrrlriiii m0 th aS aI im ac sp en wg op aB aT se dn aG aO aN aD bv aY rn kd nu tv), (zaI aS cS 901 fS), (zaI aB cB 6 fB), (zaI aT cT 64 fT), (zaI aD cD 36 fD)] s.heap.size = A at hD hQ ⊢
  have hA : ∀ q : Nat, s.heap.size ≤ q → A q := fun q h => by rw [← hAe]; exact Or.inr h
  have hS : va_S A s.heap s.heap [] := va_S.rf
  have hl := lv_entry [.ref m0] (n := 2) (Nat.le_of_ble_eq_true rfl)
  rw [lg_entry_eq]
  generalize (lg_sl [.ref m0] ++ List.replicate (2 - (lg_sl [.ref m0]).length) Slot.unset).toArray = ls at hl ⊢
  generalize hag : ([.ref m0] : List Value).toArray = args at hts hQ ⊢
  have hl : lv_has ls 2 [(0, .ref m0)] := hl
  obtain ⟨H, hH⟩ : ∃ H : Heap, H = s.heap := ⟨_, rfl⟩
  rw [← hH] at hP
  rw [← hH]
  have hS : va_S A s.heap H [] := by rw [hH]; exact hS
  obtain ⟨locs, hlo⟩ : ∃ L : List Loc, L = [] := ⟨_, rfl⟩
  rw [← hlo] at hS
  rw [← hlo]
  clear hH hlo
  refine lv_iconst (v := 0) hx hb dX12_looksForDrifts_0 (by decide) ?_
  refine lv_istore_n (lv' := [(1, .int 0), (0, .ref m0)]) hx hb dX12_looksForDrifts_1 rfl hl (by decide) rfl (fun ls hl => ?_)
  have L2 : ∀ (nF : Nat) (i : Nat) (se2 : Int32) (dn2 : Int32) (fB2 : Nat → Int32) (fT2 : Nat → Int32) (fD2 : Nat → Int32), 36 - i < nF → (i ≤ 36) → ∀ (H : Heap) (locs : List Loc), va_K (dC, dI) vwCl [(cS, .int), (cB, .int), (cT, .boolean), (cD, .int)] s → va_P (dC, dI) vwCl [(zo14irriiiiiirriirrrrlriiii m0 th aS aI im ac sp en wg op aB aT se2 dn2 aG aO aN aD bv aY rn kd nu tv), (zaI aS cS 901 fS), (zaI aB cB 6 fB2), (zaI aT cT 64 fT2), (zaI aD cD 36 fD2)] H → va_D A [(zo14irriiiiiirriirrrrlriiii m0 th aS aI im ac sp en wg op aB aT se2 dn2 aG aO aN aD bv aY rn kd nu tv), (zaI aS cS 901 fS), (zaI aB cB 6 fB2), (zaI aT cT 64 fT2), (zaI aD cD 36 fD2)] → va_S A s.heap H locs → ∀ (ls : Array Slot), lv_has ls 2 [(0, .ref m0), (1, .int (nI i))] → W p l e ({ frames := 2, cells := 0, slots := 0, locals := 52 } : Room) s m args below meth c H locs 0 0 Q (F0 m 2 ls []) := by
    intro nF
    induction nF with
    | zero => intro i se2 dn2 fB2 fT2 fD2 hm; exact absurd hm (Nat.not_lt_zero _)
    | succ nF ih2 =>
      intro i se2 dn2 fB2 fT2 fD2 hm hii H locs hK hP hD hS ls hl
      refine lv_iload_n hx hb dX12_looksForDrifts_2 rfl (lv_at hl 1 rfl) ?_
      refine lv_bipush (v := 36) hx hb dX12_looksForDrifts_3 (by decide) ?_
      refine lv_icmp_ge (tgt := 25) hx hb dX12_looksForDrifts_5 (by decide) (fun c_1 => ?_) (fun c_1 => ?_)
      · skip
        have c_1 : 36 ≤ i := (nI_leI (a := 36) (b := i) (by omega) (by omega)).mp c_1
        rw [hQ]
        have hP9 := hP.sub (ws' := [(zo14irriiiiiirriirrrrlriiii m0 th aS aI im ac sp en wg op aB aT se2 dn2 aG aO aN aD bv aY rn kd nu tv), (zaI aS cS 901 fS), (zaI aB cB 6 fB2), (zaI aT cT 64 fT2), (zaI aD cD 36 fD2)]) [0, 1, 2, 3, 4] rfl
        have hD9 := hD.sub (ws' := [(zo14irriiiiiirriirrrrlriiii m0 th aS aI im ac sp en wg op aB aT se2 dn2 aG aO aN aD bv aY rn kd nu tv), (zaI aS cS 901 fS), (zaI aB cB 6 fB2), (zaI aT cT 64 fT2), (zaI aD cD 36 fD2)]) [0, 1, 2, 3, 4] (by decide) rfl
        have hK9 := hK.sub (tys' := [(cS, .int), (cB, .int), (cT, .boolean), (cD, .int)]) [0, 1, 2, 3] rfl
        exact W.vret hx hb hr (fun tQ htQ hWQ => ⟨⟨(fB2, fT2, se2, dn2, fD2), rfl, trivial, by rw [htQ]; exact hP9, va_K.moved hWQ.alike hK9, hD9⟩, hS.F htQ⟩) hS.2.2 dX12_looksForDrifts_25
      · skip
        have c_1 : ¬ 36 ≤ i := fun q => c_1 ((nI_leI (a := 36) (b := i) (by omega) (by omega)).mpr q)
        refine lv_aload_n hx hb dX12_looksForDrifts_8 rfl (lv_at hl 0 rfl) ?_
        refine va_get (D := (dC, dI)) (ci := 14) (v := .ref aD) (C := RX12) (T := TX12) (N := 23) hx hb hts kc_lookDrifts_0 hown hK hP 0 rfl rfl 16 (by decide) (hts (.fieldLink RX12 35 "MistHeapsModel" "drifts" "[I") kc_lookDrifts_1) (fun _ h9 => h9) rfl dX12_looksForDrifts_9 ?_
        refine lv_iload_n hx hb dX12_looksForDrifts_12 rfl (lv_at hl 1 rfl) ?_
        refine lv_aload_n hx hb dX12_looksForDrifts_13 rfl (lv_at hl 0 rfl) ?_
        refine lv_iload_n hx hb dX12_looksForDrifts_14 rfl (lv_at hl 1 rfl) ?_
        have hPc := hP.sub (ws' := [(zo14irriiiiiirriirrrrlriiii m0 th aS aI im ac sp en wg op aB aT se2 dn2 aG aO aN aD bv aY rn kd nu tv), (zaI aS cS 901 fS), (zaI aB cB 6 fB2), (zaI aT cT 64 fT2)]) [0, 1, 2, 3] rfl
        have hDc := hD.sub (ws' := [(zo14irriiiiiirriirrrrlriiii m0 th aS aI im ac sp en wg op aB aT se2 dn2 aG aO aN aD bv aY rn kd nu tv), (zaI aS cS 901 fS), (zaI aB cB 6 fB2), (zaI aT cT 64 fT2)]) [0, 1, 2, 3] (by decide) rfl
        have hKc := hK.sub (tys' := [(cS, .int), (cB, .int), (cT, .boolean)]) [0, 1, 2] rfl
        have hFc := va_free (wc := [(zo14irriiiiiirriirrrrlriiii m0 th aS aI im ac sp en wg op aB aT se2 dn2 aG aO aN aD bv aY rn kd nu tv), (zaI aS cS 901 fS), (zaI aB cB 6 fB2), (zaI aT cT 64 fT2)]) hD hS hA [0, 1, 2, 3] rfl
        refine va_calli (va_runV (As := [.int (nI i)]) (rest := [.int (nI i), .ref aD]) ⟨hx, hb, hml, hown, hts⟩ (c_driftOf l dC dI m0 aS aI aB aT aG aO aN aD aY th im ac sp en wg op se2 dn2 rn kd nu tv bv cS cB cT fS fB2 fT2 (nI i) cz H.size (zh)) (cwV 1 hts gX12_looksForDrifts_X12_driftOf rfl rfl rfl hd_yX12_driftOf ⟨Nat.le_of_ble_eq_true rfl, Nat.le_of_ble_eq_true rfl⟩) ⟨fun a U g mk q => by obtain ⟨q0, q1, qP, qK, qD⟩ := q; exact ⟨q0, q1, qP, va_K.moved (u := U) (U := U.calling g mk a) (Vm.Alike.refl U.vm) qK, qD⟩, va_recv hK hP (ci := 14) (q := (RX12, TX12, 23)) (q0 := 0) rfl rfl, fun U hU hW => ⟨rfl, by rw [hU], by rw [hU]; exact hPc, va_K.moved hW.alike hKc, hDc.weaken (fun _ _ _ _ => trivial)⟩⟩ rfl rfl hl.1 rfl (lv_room (Nat.le_of_ble_eq_true rfl)) dX12_looksForDrifts_15 ⟨Nat.le_of_ble_eq_true rfl, Nat.le_of_ble_eq_true rfl⟩) hS (fun q _ h => hFc q h) hFc (fun r_2 u tC H1 locs htC hvm hw_3 hB hz1 hk1 hS => ?_)
        obtain ⟨fB9_4, fT9_5, se9_6, dn9_7⟩ := u
        try dsimp only at hw_3 hB
        obtain ⟨hP1, hK1, hD1⟩ := hB
        rw [htC] at hP1
        have hK1 := va_K.moved hvm.symm hK1
        obtain ⟨hP, hD⟩ := va_join (wr := [(zaI aD cD 36 fD2)]) (w1 := [(zo14irriiiiiirriirrrrlriiii m0 th aS aI im ac sp en wg op aB aT se9_6 dn9_7 aG aO aN aD bv aY rn kd nu tv), (zaI aS cS 901 fS), (zaI aB cB 6 fB9_4), (zaI aT cT 64 fT9_5)]) hP hD [0, 1, 2, 3] [4] rfl rfl (by decide) (by decide) hk1 hFc hP1 hD1
        have hK := (hK.sub (tys' := [(cD, .int)]) [3] rfl).app hK1
        generalize H1 = H at hP hS ⊢
        have hP : va_P (dC, dI) vwCl [(zaI aD cD 36 fD2), (zo14irriiiiiirriirrrrlriiii m0 th aS aI im ac sp en wg op aB aT se9_6 dn9_7 aG aO aN aD bv aY rn kd nu tv), (zaI aS cS 901 fS), (zaI aB cB 6 fB9_4), (zaI aT cT 64 fT9_5)] H := hP
        have hD : va_D A [(zaI aD cD 36 fD2), (zo14irriiiiiirriirrrrlriiii m0 th aS aI im ac sp en wg op aB aT se9_6 dn9_7 aG aO aN aD bv aY rn kd nu tv), (zaI aS cS 901 fS), (zaI aB cB 6 fB9_4), (zaI aT cT 64 fT9_5)] := hD
        have hK : va_K (dC, dI) vwCl [(cD, .int), (cS, .int), (cB, .int), (cT, .boolean)] s := hK
        obtain rfl := hw_3
        refine va_iast hx hb hK hP hD hS 0 0 rfl rfl (vp_in_nI (n := i) (N := 36) (by omega) (by omega)) dX12_looksForDrifts_18 (fun H locs hP hD hS => ?_)
        rw [nI_clamp (n := i) (by omega)] at hP hD
        have hP : va_P (dC, dI) vwCl [(zaI aD cD 36 (upd fD2 i (DRV cz (fS 6) (fS 7) (nI i)))), (zo14irriiiiiirriirrrrlriiii m0 th aS aI im ac sp en wg op aB aT se9_6 dn9_7 aG aO aN aD bv aY rn kd nu tv), (zaI aS cS 901 fS), (zaI aB cB 6 fB9_4), (zaI aT cT 64 fT9_5)] H := hP
        have hD : va_D A [(zaI aD cD 36 (upd fD2 i (DRV cz (fS 6) (fS 7) (nI i)))), (zo14irriiiiiirriirrrrlriiii m0 th aS aI im ac sp en wg op aB aT se9_6 dn9_7 aG aO aN aD bv aY rn kd nu tv), (zaI aS cS 901 fS), (zaI aB cB 6 fB9_4), (zaI aT cT 64 fT9_5)] := hD
        refine lv_iinc (v := nI (i + 1)) (lv' := [(1, .int (nI (i + 1))), (0, .ref m0)]) hx hb dX12_looksForDrifts_19 hl (k := 1) rfl (nI_add i 1) (by decide) rfl (fun ls hl => ?_)
        refine lv_goto (tgt := 2) hx hb dX12_looksForDrifts_22 (by decide) ?_
        exact ih2 (i + 1) _ _ _ _ _ (by omega) (by omega) _ _ (hK.sub [1, 2, 3, 0] rfl) (hP.sub [1, 2, 3, 4, 0] rfl) (hD.sub [1, 2, 3, 4, 0] (by decide) rfl) hS ls (lv_sub hl [1, 0] rfl)
  exact L2 _ (0) _ _ _ _ _ (Nat.lt_succ_self _) (by omega) _ _ (hK.sub [0, 1, 2, 3] rfl) (hP.sub [0, 1, 2, 3, 4] rfl) (hD.sub [0, 1, 2, 3, 4] (by decide) rfl) hS ls (lv_sub hl [1, 0] rfl)

theorem kc_begins_0 : ∀ w ∈ wsX120, w ∈ wsX12_begins := fun w h => List.mem_cons_of_mem _ (gin_wsX120 w h)
theorem kc_begins_1 : (.fieldLink RX12 28 "MistHeapsModel" "often" "[J" : Cond) ∈ wsX12_begins := kc_of 1154 rfl rfl rfl
set_option maxHeartbeats 4000000 in
set_option maxRecDepth 100000 in
theorem c_begins (l : Launch) (dC : Nat → ClassId) (dI : Nat → Nat → Nat) (m0 aS aI aB aT aG aO aN aD aY : Nat) (th im ac sp en wg op se dn rn kd nu tv : Int32) (bv : Int64) (cO : ClassId) (fO : Nat → Int64) (x : Int32) (sz : Nat) : Met l yX12_begins wsX12_begins ({ frames := 0, cells := 0, slots := 0, locals := 0 } : Room) (va_Pc [.ref m0, .int x] (fun U => U.heap.size = sz ∧ va_P (dC, dI) vwCl [(zo14irriiiiiirriirrrrlriiii m0 th aS aI im ac sp en wg op aB aT se dn aG aO aN aD bv aY rn kd nu tv), (zaL aO cO 36 fO)] U.heap ∧ va_K (dC, dI) vwCl [(cO, .long)] U ∧ va_D (fun _ => True) [(zo14irriiiiiirriirrrrlriiii m0 th aS aI im ac sp en wg op aB aT se dn aG aO aN aD bv aY rn kd nu tv), (zaL aO cO 36 fO)])) (va_Qv (fun (u : Nat → Int64) => match u with | fO9 => True) (fun (u : Nat → Int64) (t : State) => match u with | fO9 => va_P (dC, dI) vwCl [(zo14irriiiiiirriirrrrlriiii m0 th aS aI im ac sp en wg op aB aT se dn aG aO aN aD bv aY rn kd nu tv), (zaL aO cO 36 fO9)] t.heap ∧ va_K (dC, dI) vwCl [(cO, .long)] t ∧ va_D (va_A [(zo14irriiiiiirriirrrrlriiii m0 th aS aI im ac sp en wg op aB aT se dn aG aO aN aD bv aY rn kd nu tv), (zaL aO cO 36 fO)] sz) [(zo14irriiiiiirriirrrrlriiii m0 th aS aI im ac sp en wg op aB aT se dn aG aO aN aD bv aY rn kd nu tv), (zaL aO cO 36 fO9)]) (va_A [(zo14irriiiiiirriirrrrlriiii m0 th aS aI im ac sp en wg op aB aT se dn aG aO aN aD bv aY rn kd nu tv), (zaL aO cO 36 fO)] sz)) 0 0 (va_A [(zo14irriiiiiirriirrrrlriiii m0 th aS aI im ac sp en wg op aB aT se dn aG aO aN aD bv aY rn kd nu tv), (zaL aO cO 36 fO)] sz) := by
  refine met_ofQ (cc := cX12_begins) (maxL := 3) (ret := none) (by decide) rfl ?_
  intro p e s m args below meth c s₁ Q B hml hv hQ
  obtain ⟨rfl, hsz, hP, hK, hD0⟩ := hv
  have hx := B.exec
  have hb := B.bytes
  have hr := B.returns
  have hts := atoms_spec (ws := wsX12_begins) B.pre
  have hown : s.vm.findClass RX12 = some m.cls := findClass_of_methodNamed B.named
  have hlocks := B.notSynchronized
  subst hsz
  have hD := hD0.self (sz := s.heap.size)
  generalize hAe : va_A [(zo14irriiiiiirriirrrrlriiii m0 th aS aI im ac sp en wg op aB aT se dn aG aO aN aD bv aY rn kd nu tv), (zaL aO cO 36 fO)] s.heap.size = A at hD hQ ⊢
  have hA : ∀ q : Nat, s.heap.size ≤ q → A q := fun q h => by rw [← hAe]; exact Or.inr h
  have hS : va_S A s.heap s.heap [] := va_S.rf
  have hl := lv_entry [.ref m0, .int x] (n := 3) (Nat.le_of_ble_eq_true rfl)
  rw [lg_entry_eq]
  generalize (lg_sl [.ref m0, .int x] ++ List.replicate (3 - (lg_sl [.ref m0, .int x]).length) Slot.unset).toArray = ls at hl ⊢
  generalize hag : ([.ref m0, .int x] : List Value).toArray = args at hts hQ ⊢
  have hl : lv_has ls 3 [(0, .ref m0), (1, .int x)] := hl
  obtain ⟨H, hH⟩ : ∃ H : Heap, H = s.heap := ⟨_, rfl⟩
  rw [← hH] at hP
  rw [← hH]
  have hS : va_S A s.heap H [] := by rw [hH]; exact hS
  obtain ⟨locs, hlo⟩ : ∃ L : List Loc, L = [] := ⟨_, rfl⟩
  rw [← hlo] at hS
  rw [← hlo]
  clear hH hlo
  refine lv_iconst (v := 0) hx hb dX12_begins_0 (by decide) ?_
  refine lv_istore_n (lv' := [(2, .int 0), (0, .ref m0), (1, .int x)]) hx hb dX12_begins_1 rfl hl (by decide) rfl (fun ls hl => ?_)
  have L2 : ∀ (nF : Nat) (i : Nat) (fO2 : Nat → Int64), 36 - i < nF → (i ≤ 36) → ∀ (H : Heap) (locs : List Loc), va_K (dC, dI) vwCl [(cO, .long)] s → va_P (dC, dI) vwCl [(zo14irriiiiiirriirrrrlriiii m0 th aS aI im ac sp en wg op aB aT se dn aG aO aN aD bv aY rn kd nu tv), (zaL aO cO 36 fO2)] H → va_D A [(zo14irriiiiiirriirrrrlriiii m0 th aS aI im ac sp en wg op aB aT se dn aG aO aN aD bv aY rn kd nu tv), (zaL aO cO 36 fO2)] → va_S A s.heap H locs → ∀ (ls : Array Slot), lv_has ls 3 [(0, .ref m0), (1, .int x), (2, .int (nI i))] → W p l e ({ frames := 0, cells := 0, slots := 0, locals := 0 } : Room) s m args below meth c H locs 0 0 Q (F0 m 2 ls []) := by
    intro nF
    induction nF with
    | zero => intro i fO2 hm; exact absurd hm (Nat.not_lt_zero _)
    | succ nF ih2 =>
      intro i fO2 hm hii H locs hK hP hD hS ls hl
      refine lv_iload_n hx hb dX12_begins_2 rfl (lv_at hl 2 rfl) ?_
      refine lv_bipush (v := 36) hx hb dX12_begins_3 (by decide) ?_
      refine lv_icmp_ge (tgt := 30) hx hb dX12_begins_5 (by decide) (fun c_1 => ?_) (fun c_1 => ?_)
      · skip
        have c_1 : 36 ≤ i := (nI_leI (a := 36) (b := i) (by omega) (by omega)).mp c_1
        rw [hQ]
        have hP9 := hP.sub (ws' := [(zo14irriiiiiirriirrrrlriiii m0 th aS aI im ac sp en wg op aB aT se dn aG aO aN aD bv aY rn kd nu tv), (zaL aO cO 36 fO2)]) [0, 1] rfl
        have hD9 := hD.sub (ws' := [(zo14irriiiiiirriirrrrlriiii m0 th aS aI im ac sp en wg op aB aT se dn aG aO aN aD bv aY rn kd nu tv), (zaL aO cO 36 fO2)]) [0, 1] (by decide) rfl
        have hK9 := hK.sub (tys' := [(cO, .long)]) [0] rfl
        exact W.vret hx hb hr (fun tQ htQ hWQ => ⟨⟨fO2, rfl, trivial, by rw [htQ]; exact hP9, va_K.moved hWQ.alike hK9, hD9⟩, hS.F htQ⟩) hS.2.2 dX12_begins_30
      · skip
        have c_1 : ¬ 36 ≤ i := fun q => c_1 ((nI_leI (a := 36) (b := i) (by omega) (by omega)).mpr q)
        refine lv_aload_n hx hb dX12_begins_8 rfl (lv_at hl 0 rfl) ?_
        refine va_get (D := (dC, dI)) (ci := 14) (v := .ref aO) (C := RX12) (T := TX12) (N := 23) hx hb hts kc_begins_0 hown hK hP 0 rfl rfl 14 (by decide) (hts (.fieldLink RX12 28 "MistHeapsModel" "often" "[J") kc_begins_1) (fun _ h9 => h9) rfl dX12_begins_9 ?_
        refine lv_iload_n hx hb dX12_begins_12 rfl (lv_at hl 2 rfl) ?_
        refine lv_iload_n hx hb dX12_begins_13 rfl (lv_at hl 2 rfl) ?_
        refine lv_iload_n hx hb dX12_begins_14 rfl (lv_at hl 1 rfl) ?_
        have J15 : ∀ v_2 : Int64, W p l e ({ frames := 0, cells := 0, slots := 0, locals := 0 } : Room) s m args below meth c H locs 0 0 Q (F0 m 23 ls [.long v_2, .int (nI i), .ref aO]) := by
          intro v_2
          refine va_last hx hb hK hP hD hS 1 0 rfl rfl (vp_in_nI (n := i) (N := 36) (by omega) (by omega)) dX12_begins_23 (fun H locs hP hD hS => ?_)
          rw [nI_clamp (n := i) (by omega)] at hP hD
          have hP : va_P (dC, dI) vwCl [(zo14irriiiiiirriirrrrlriiii m0 th aS aI im ac sp en wg op aB aT se dn aG aO aN aD bv aY rn kd nu tv), (zaL aO cO 36 (vp_updL fO2 i v_2))] H := hP
          have hD : va_D A [(zo14irriiiiiirriirrrrlriiii m0 th aS aI im ac sp en wg op aB aT se dn aG aO aN aD bv aY rn kd nu tv), (zaL aO cO 36 (vp_updL fO2 i v_2))] := hD
          refine lv_iinc (v := nI (i + 1)) (lv' := [(2, .int (nI (i + 1))), (0, .ref m0), (1, .int x)]) hx hb dX12_begins_24 hl (k := 2) rfl (nI_add i 1) (by decide) rfl (fun ls hl => ?_)
          refine lv_goto (tgt := 2) hx hb dX12_begins_27 (by decide) ?_
          exact ih2 (i + 1) _ (by omega) (by omega) _ _ (hK.sub [0] rfl) (hP.sub [0, 1] rfl) (hD.sub [0, 1] (by decide) rfl) hS ls (lv_sub hl [1, 2, 0] rfl)
        refine lv_icmp_ne (tgt := 22) hx hb dX12_begins_15 (by decide) (fun c_4 => ?_) (fun c_4 => ?_)
        · skip
          refine lv_lconst (v := 0) hx hb dX12_begins_22 (by decide) ?_
          exact J15 0
        · skip
          refine lv_lconst (v := 1) hx hb dX12_begins_18 (by decide) ?_
          refine lv_goto (tgt := 23) hx hb dX12_begins_19 (by decide) ?_
          exact J15 1
  exact L2 _ (0) _ (Nat.lt_succ_self _) (by omega) _ _ (hK.sub [0] rfl) (hP.sub [0, 1] rfl) (hD.sub [0, 1] (by decide) rfl) hS ls (lv_sub hl [1, 2, 0] rfl)

theorem kc_goesOn_0 : ∀ w ∈ wsX120, w ∈ wsX12_goesOn := fun w h => List.mem_cons_of_mem _ (gin_wsX120 w h)
theorem kc_goesOn_1 : (.fieldLink RX12 28 "MistHeapsModel" "often" "[J" : Cond) ∈ wsX12_goesOn := kc_of 1154 rfl rfl rfl
theorem kc_goesOn_2 : (.fieldLink RX12 32 "MistHeapsModel" "then" "[J" : Cond) ∈ wsX12_goesOn := kc_of 1155 rfl rfl rfl
theorem kc_goesOn_3 : (.fieldLink RX12 35 "MistHeapsModel" "drifts" "[I" : Cond) ∈ wsX12_goesOn := kc_of 1156 rfl rfl rfl
theorem kc_goesOn_4 : (.fieldLink RX12 9 "MistHeapsModel" "s" "[I" : Cond) ∈ wsX12_goesOn := kc_of 1141 rfl rfl rfl
theorem kc_goesOn_5 : (.constantLong RX12 204 (20) : Cond) ∈ wsX12_goesOn := kc_of 1429 rfl rfl rfl
set_option maxHeartbeats 4000000 in
set_option maxRecDepth 100000 in
theorem c_goesOn (l : Launch) (dC : Nat → ClassId) (dI : Nat → Nat → Nat) (m0 aS aI aB aT aG aO aN aD aY : Nat) (th im ac sp en wg op se dn rn kd nu tv : Int32) (bv : Int64) (cS cO cN cD : ClassId) (fS : Nat → Int32) (fO : Nat → Int64) (fN : Nat → Int64) (fD : Nat → Int32) (x : Int32) (sz : Nat) : Met l yX12_goesOn wsX12_goesOn ({ frames := 3, cells := 0, slots := 0, locals := 65 } : Room) (va_Pc [.ref m0, .int x] (fun U => U.heap.size = sz ∧ va_P (dC, dI) vwCl [(zo14irriiiiiirriirrrrlriiii m0 th aS aI im ac sp en wg op aB aT se dn aG aO aN aD bv aY rn kd nu tv), (zaI aS cS 901 fS), (zaL aO cO 36 fO), (zaL aN cN 36 fN), (zaI aD cD 36 fD)] U.heap ∧ va_K (dC, dI) vwCl [(cS, .int), (cO, .long), (cN, .long), (cD, .int)] U ∧ va_D (fun _ => True) [(zo14irriiiiiirriirrrrlriiii m0 th aS aI im ac sp en wg op aB aT se dn aG aO aN aD bv aY rn kd nu tv), (zaI aS cS 901 fS), (zaL aO cO 36 fO), (zaL aN cN 36 fN), (zaI aD cD 36 fD)])) (va_Qv (fun (u : (Nat → Int64) × (Nat → Int64)) => match u with | (fO9, fN9) => True) (fun (u : (Nat → Int64) × (Nat → Int64)) (t : State) => match u with | (fO9, fN9) => va_P (dC, dI) vwCl [(zo14irriiiiiirriirrrrlriiii m0 th aS aI im ac sp en wg op aB aT se dn aG aO aN aD bv aY rn kd nu tv), (zaI aS cS 901 fS), (zaL aO cO 36 fO9), (zaL aN cN 36 fN9), (zaI aD cD 36 fD)] t.heap ∧ va_K (dC, dI) vwCl [(cS, .int), (cO, .long), (cN, .long), (cD, .int)] t ∧ va_D (va_A [(zo14irriiiiiirriirrrrlriiii m0 th aS aI im ac sp en wg op aB aT se dn aG aO aN aD bv aY rn kd nu tv), (zaI aS cS 901 fS), (zaL aO cO 36 fO), (zaL aN cN 36 fN), (zaI aD cD 36 fD)] sz) [(zo14irriiiiiirriirrrrlriiii m0 th aS aI im ac sp en wg op aB aT se dn aG aO aN aD bv aY rn kd nu tv), (zaI aS cS 901 fS), (zaL aO cO 36 fO9), (zaL aN cN 36 fN9), (zaI aD cD 36 fD)]) (va_A [(zo14irriiiiiirriirrrrlriiii m0 th aS aI im ac sp en wg op aB aT se dn aG aO aN aD bv aY rn kd nu tv), (zaI aS cS 901 fS), (zaL aO cO 36 fO), (zaL aN cN 36 fN), (zaI aD cD 36 fD)] sz)) 0 0 (va_A [(zo14irriiiiiirriirrrrlriiii m0 th aS aI im ac sp en wg op aB aT se dn aG aO aN aD bv aY rn kd nu tv), (zaI aS cS 901 fS), (zaL aO cO 36 fO), (zaL aN cN 36 fN), (zaI aD cD 36 fD)] sz) := by
  refine met_ofQ (cc := cX12_goesOn) (maxL := 4) (ret := none) (by decide) rfl ?_
  intro p e s m args below meth c s₁ Q B hml hv hQ
  obtain ⟨rfl, hsz, hP, hK, hD0⟩ := hv
  have hx := B.exec
  have hb := B.bytes
  have hr := B.returns
  have hts := atoms_spec (ws := wsX12_goesOn) B.pre
  have hown : s.vm.findClass RX12 = some m.cls := findClass_of_methodNamed B.named
  have hlocks := B.notSynchronized
  subst hsz
  have hD := hD0.self (sz := s.heap.size)
  generalize hAe : va_A [(zo14irriiiiiirriirrrrlriiii m0 th aS aI im ac sp en wg op aB aT se dn aG aO aN aD bv aY rn kd nu tv), (zaI aS cS 901 fS), (zaL aO cO 36 fO), (zaL aN cN 36 fN), (zaI aD cD 36 fD)] s.heap.size = A at hD hQ ⊢
  have hA : ∀ q : Nat, s.heap.size ≤ q → A q := fun q h => by rw [← hAe]; exact Or.inr h
  have hS : va_S A s.heap s.heap [] := va_S.rf
  have hl := lv_entry [.ref m0, .int x] (n := 4) (Nat.le_of_ble_eq_true rfl)
  rw [lg_entry_eq]
  generalize (lg_sl [.ref m0, .int x] ++ List.replicate (4 - (lg_sl [.ref m0, .int x]).length) Slot.unset).toArray = ls at hl ⊢
  generalize hag : ([.ref m0, .int x] : List Value).toArray = args at hts hQ ⊢
  have hl : lv_has ls 4 [(0, .ref m0), (1, .int x)] := hl
  obtain ⟨H, hH⟩ : ∃ H : Heap, H = s.heap := ⟨_, rfl⟩
  rw [← hH] at hP
  rw [← hH]
  have hS : va_S A s.heap H [] := by rw [hH]; exact hS
  obtain ⟨locs, hlo⟩ : ∃ L : List Loc, L = [] := ⟨_, rfl⟩
  rw [← hlo] at hS
  rw [← hlo]
  clear hH hlo
  refine lv_iconst (v := 0) hx hb dX12_goesOn_0 (by decide) ?_
  refine lv_istore_n (lv' := [(2, .int 0), (0, .ref m0), (1, .int x)]) hx hb dX12_goesOn_1 rfl hl (by decide) rfl (fun ls hl => ?_)
  have L2 : ∀ (nF : Nat) (i : Nat) (fN2 : Nat → Int64), 36 - i < nF → (i ≤ 36) → ∀ (H : Heap) (locs : List Loc), va_K (dC, dI) vwCl [(cS, .int), (cO, .long), (cN, .long), (cD, .int)] s → va_P (dC, dI) vwCl [(zo14irriiiiiirriirrrrlriiii m0 th aS aI im ac sp en wg op aB aT se dn aG aO aN aD bv aY rn kd nu tv), (zaI aS cS 901 fS), (zaL aO cO 36 fO), (zaL aN cN 36 fN2), (zaI aD cD 36 fD)] H → va_D A [(zo14irriiiiiirriirrrrlriiii m0 th aS aI im ac sp en wg op aB aT se dn aG aO aN aD bv aY rn kd nu tv), (zaI aS cS 901 fS), (zaL aO cO 36 fO), (zaL aN cN 36 fN2), (zaI aD cD 36 fD)] → va_S A s.heap H locs → ∀ (ls : Array Slot), lv_has ls 4 [(0, .ref m0), (1, .int x), (2, .int (nI i))] → W p l e ({ frames := 3, cells := 0, slots := 0, locals := 65 } : Room) s m args below meth c H locs 0 0 Q (F0 m 2 ls []) := by
    intro nF
    induction nF with
    | zero => intro i fN2 hm; exact absurd hm (Nat.not_lt_zero _)
    | succ nF ih2 =>
      intro i fN2 hm hii H locs hK hP hD hS ls hl
      refine lv_iload_n hx hb dX12_goesOn_2 rfl (lv_at hl 2 rfl) ?_
      refine lv_bipush (v := 36) hx hb dX12_goesOn_3 (by decide) ?_
      refine lv_icmp_ge (tgt := 21) hx hb dX12_goesOn_5 (by decide) (fun c_1 => ?_) (fun c_1 => ?_)
      · skip
        have c_1 : 36 ≤ i := (nI_leI (a := 36) (b := i) (by omega) (by omega)).mp c_1
        refine lv_iconst (v := 0) hx hb dX12_goesOn_21 (by decide) ?_
        refine lv_istore_n (lv' := [(2, .int 0), (0, .ref m0), (1, .int x)]) hx hb dX12_goesOn_22 rfl hl (by decide) rfl (fun ls hl => ?_)
        have L23 : ∀ (nF : Nat) (i : Nat) (fN2 : Nat → Int64), 36 - i < nF → (i ≤ 36) → ∀ (H : Heap) (locs : List Loc), va_K (dC, dI) vwCl [(cS, .int), (cO, .long), (cN, .long), (cD, .int)] s → va_P (dC, dI) vwCl [(zo14irriiiiiirriirrrrlriiii m0 th aS aI im ac sp en wg op aB aT se dn aG aO aN aD bv aY rn kd nu tv), (zaI aS cS 901 fS), (zaL aO cO 36 fO), (zaL aN cN 36 fN2), (zaI aD cD 36 fD)] H → va_D A [(zo14irriiiiiirriirrrrlriiii m0 th aS aI im ac sp en wg op aB aT se dn aG aO aN aD bv aY rn kd nu tv), (zaI aS cS 901 fS), (zaL aO cO 36 fO), (zaL aN cN 36 fN2), (zaI aD cD 36 fD)] → va_S A s.heap H locs → ∀ (ls : Array Slot), lv_has ls 4 [(0, .ref m0), (1, .int x), (2, .int (nI i))] → W p l e ({ frames := 3, cells := 0, slots := 0, locals := 65 } : Room) s m args below meth c H locs 0 0 Q (F0 m 23 ls []) := by
          intro nF
          induction nF with
          | zero => intro i fN2 hm; exact absurd hm (Nat.not_lt_zero _)
          | succ nF ih23 =>
            intro i fN2 hm hii H locs hK hP hD hS ls hl
            refine lv_iload_n hx hb dX12_goesOn_23 rfl (lv_at hl 2 rfl) ?_
            refine lv_bipush (v := 36) hx hb dX12_goesOn_24 (by decide) ?_
            refine lv_icmp_ge (tgt := 181) hx hb dX12_goesOn_26 (by decide) (fun c_2 => ?_) (fun c_2 => ?_)
            · skip
              have c_2 : 36 ≤ i := (nI_leI (a := 36) (b := i) (by omega) (by omega)).mp c_2
              refine lv_iconst (v := 0) hx hb dX12_goesOn_181 (by decide) ?_
              refine lv_istore_n (lv' := [(2, .int 0), (0, .ref m0), (1, .int x)]) hx hb dX12_goesOn_182 rfl hl (by decide) rfl (fun ls hl => ?_)
              have L183 : ∀ (nF : Nat) (i : Nat) (fO2 : Nat → Int64) (fN2 : Nat → Int64), 36 - i < nF → (i ≤ 36) → ∀ (H : Heap) (locs : List Loc), va_K (dC, dI) vwCl [(cS, .int), (cO, .long), (cN, .long), (cD, .int)] s → va_P (dC, dI) vwCl [(zo14irriiiiiirriirrrrlriiii m0 th aS aI im ac sp en wg op aB aT se dn aG aO aN aD bv aY rn kd nu tv), (zaI aS cS 901 fS), (zaL aO cO 36 fO2), (zaL aN cN 36 fN2), (zaI aD cD 36 fD)] H → va_D A [(zo14irriiiiiirriirrrrlriiii m0 th aS aI im ac sp en wg op aB aT se dn aG aO aN aD bv aY rn kd nu tv), (zaI aS cS 901 fS), (zaL aO cO 36 fO2), (zaL aN cN 36 fN2), (zaI aD cD 36 fD)] → va_S A s.heap H locs → ∀ (ls : Array Slot), lv_has ls 4 [(0, .ref m0), (1, .int x), (2, .int (nI i))] → W p l e ({ frames := 3, cells := 0, slots := 0, locals := 65 } : Room) s m args below meth c H locs 0 0 Q (F0 m 183 ls []) := by
                intro nF
                induction nF with
                | zero => intro i fO2 fN2 hm; exact absurd hm (Nat.not_lt_zero _)
                | succ nF ih183 =>
                  intro i fO2 fN2 hm hii H locs hK hP hD hS ls hl
                  refine lv_iload_n hx hb dX12_goesOn_183 rfl (lv_at hl 2 rfl) ?_
                  refine lv_bipush (v := 36) hx hb dX12_goesOn_184 (by decide) ?_
                  refine lv_icmp_ge (tgt := 207) hx hb dX12_goesOn_186 (by decide) (fun c_3 => ?_) (fun c_3 => ?_)
                  · skip
                    have c_3 : 36 ≤ i := (nI_leI (a := 36) (b := i) (by omega) (by omega)).mp c_3
                    rw [hQ]
                    have hP9 := hP.sub (ws' := [(zo14irriiiiiirriirrrrlriiii m0 th aS aI im ac sp en wg op aB aT se dn aG aO aN aD bv aY rn kd nu tv), (zaI aS cS 901 fS), (zaL aO cO 36 fO2), (zaL aN cN 36 fN2), (zaI aD cD 36 fD)]) [0, 1, 2, 3, 4] rfl
                    have hD9 := hD.sub (ws' := [(zo14irriiiiiirriirrrrlriiii m0 th aS aI im ac sp en wg op aB aT se dn aG aO aN aD bv aY rn kd nu tv), (zaI aS cS 901 fS), (zaL aO cO 36 fO2), (zaL aN cN 36 fN2), (zaI aD cD 36 fD)]) [0, 1, 2, 3, 4] (by decide) rfl
                    have hK9 := hK.sub (tys' := [(cS, .int), (cO, .long), (cN, .long), (cD, .int)]) [0, 1, 2, 3] rfl
                    exact W.vret hx hb hr (fun tQ htQ hWQ => ⟨⟨(fO2, fN2), rfl, trivial, by rw [htQ]; exact hP9, va_K.moved hWQ.alike hK9, hD9⟩, hS.F htQ⟩) hS.2.2 dX12_goesOn_207
                  · skip
                    have c_3 : ¬ 36 ≤ i := fun q => c_3 ((nI_leI (a := 36) (b := i) (by omega) (by omega)).mpr q)
                    refine lv_aload_n hx hb dX12_goesOn_189 rfl (lv_at hl 0 rfl) ?_
                    refine va_get (D := (dC, dI)) (ci := 14) (v := .ref aO) (C := RX12) (T := TX12) (N := 23) hx hb hts kc_goesOn_0 hown hK hP 0 rfl rfl 14 (by decide) (hts (.fieldLink RX12 28 "MistHeapsModel" "often" "[J") kc_goesOn_1) (fun _ h9 => h9) rfl dX12_goesOn_190 ?_
                    refine lv_iload_n hx hb dX12_goesOn_193 rfl (lv_at hl 2 rfl) ?_
                    refine lv_aload_n hx hb dX12_goesOn_194 rfl (lv_at hl 0 rfl) ?_
                    refine va_get (D := (dC, dI)) (ci := 14) (v := .ref aN) (C := RX12) (T := TX12) (N := 23) hx hb hts kc_goesOn_0 hown hK hP 0 rfl rfl 15 (by decide) (hts (.fieldLink RX12 32 "MistHeapsModel" "then" "[J") kc_goesOn_2) (fun _ h9 => h9) rfl dX12_goesOn_195 ?_
                    refine lv_iload_n hx hb dX12_goesOn_198 rfl (lv_at hl 2 rfl) ?_
                    refine va_lald hx hb hK hP 3 2 rfl rfl (vp_in_nI (n := i) (N := 36) (by omega) (by omega)) dX12_goesOn_199 ?_
                    refine ql_as (y := fN2 i) (by rw [nI_clamp (by omega)]) ?_
                    refine va_last hx hb hK hP hD hS 2 1 rfl rfl (vp_in_nI (n := i) (N := 36) (by omega) (by omega)) dX12_goesOn_200 (fun H locs hP hD hS => ?_)
                    rw [nI_clamp (n := i) (by omega)] at hP hD
                    have hP : va_P (dC, dI) vwCl [(zo14irriiiiiirriirrrrlriiii m0 th aS aI im ac sp en wg op aB aT se dn aG aO aN aD bv aY rn kd nu tv), (zaI aS cS 901 fS), (zaL aO cO 36 (vp_updL fO2 i (fN2 i))), (zaL aN cN 36 fN2), (zaI aD cD 36 fD)] H := hP
                    have hD : va_D A [(zo14irriiiiiirriirrrrlriiii m0 th aS aI im ac sp en wg op aB aT se dn aG aO aN aD bv aY rn kd nu tv), (zaI aS cS 901 fS), (zaL aO cO 36 (vp_updL fO2 i (fN2 i))), (zaL aN cN 36 fN2), (zaI aD cD 36 fD)] := hD
                    refine lv_iinc (v := nI (i + 1)) (lv' := [(2, .int (nI (i + 1))), (0, .ref m0), (1, .int x)]) hx hb dX12_goesOn_201 hl (k := 2) rfl (nI_add i 1) (by decide) rfl (fun ls hl => ?_)
                    refine lv_goto (tgt := 183) hx hb dX12_goesOn_204 (by decide) ?_
                    exact ih183 (i + 1) _ _ (by omega) (by omega) _ _ (hK.sub [0, 1, 2, 3] rfl) (hP.sub [0, 1, 2, 3, 4] rfl) (hD.sub [0, 1, 2, 3, 4] (by decide) rfl) hS ls (lv_sub hl [1, 2, 0] rfl)
              exact L183 _ (0) _ _ (Nat.lt_succ_self _) (by omega) _ _ (hK.sub [0, 1, 2, 3] rfl) (hP.sub [0, 1, 2, 3, 4] rfl) (hD.sub [0, 1, 2, 3, 4] (by decide) rfl) hS ls (lv_sub hl [1, 2, 0] rfl)
            · skip
              have c_2 : ¬ 36 ≤ i := fun q => c_2 ((nI_leI (a := 36) (b := i) (by omega) (by omega)).mpr q)
              refine lv_aload_n hx hb dX12_goesOn_29 rfl (lv_at hl 0 rfl) ?_
              refine va_get (D := (dC, dI)) (ci := 14) (v := .ref aO) (C := RX12) (T := TX12) (N := 23) hx hb hts kc_goesOn_0 hown hK hP 0 rfl rfl 14 (by decide) (hts (.fieldLink RX12 28 "MistHeapsModel" "often" "[J") kc_goesOn_1) (fun _ h9 => h9) rfl dX12_goesOn_30 ?_
              refine lv_iload_n hx hb dX12_goesOn_33 rfl (lv_at hl 2 rfl) ?_
              refine va_lald hx hb hK hP 2 1 rfl rfl (vp_in_nI (n := i) (N := 36) (by omega) (by omega)) dX12_goesOn_34 ?_
              refine ql_as (y := fO i) (by rw [nI_clamp (by omega)]) ?_
              refine lv_lconst (v := 0) hx hb dX12_goesOn_35 (by decide) ?_
              refine W.lcmp hx hb dX12_goesOn_36 ?_
              refine lv_if_le (tgt := 75) hx hb dX12_goesOn_37 (by decide) (fun c_4 => ?_) (fun c_4 => ?_)
              · skip
                refine lv_aload_n hx hb dX12_goesOn_75 rfl (lv_at hl 0 rfl) ?_
                refine va_get (D := (dC, dI)) (ci := 14) (v := .ref aO) (C := RX12) (T := TX12) (N := 23) hx hb hts kc_goesOn_0 hown hK hP 0 rfl rfl 14 (by decide) (hts (.fieldLink RX12 28 "MistHeapsModel" "often" "[J") kc_goesOn_1) (fun _ h9 => h9) rfl dX12_goesOn_76 ?_
                refine lv_iload_n hx hb dX12_goesOn_79 rfl (lv_at hl 2 rfl) ?_
                refine va_lald hx hb hK hP 2 1 rfl rfl (vp_in_nI (n := i) (N := 36) (by omega) (by omega)) dX12_goesOn_80 ?_
                refine ql_as (y := fO i) (by rw [nI_clamp (by omega)]) ?_
                refine lv_lconst (v := 0) hx hb dX12_goesOn_81 (by decide) ?_
                refine W.lcmp hx hb dX12_goesOn_82 ?_
                refine lv_if_le (tgt := 175) hx hb dX12_goesOn_83 (by decide) (fun c_5 => ?_) (fun c_5 => ?_)
                · skip
                  refine lv_iinc (v := nI (i + 1)) (lv' := [(2, .int (nI (i + 1))), (0, .ref m0), (1, .int x)]) hx hb dX12_goesOn_175 hl (k := 2) rfl (nI_add i 1) (by decide) rfl (fun ls hl => ?_)
                  refine lv_goto (tgt := 23) hx hb dX12_goesOn_178 (by decide) ?_
                  exact ih23 (i + 1) _ (by omega) (by omega) _ _ (hK.sub [0, 1, 2, 3] rfl) (hP.sub [0, 1, 2, 3, 4] rfl) (hD.sub [0, 1, 2, 3, 4] (by decide) rfl) hS ls (lv_sub hl [1, 2, 0] rfl)
                · skip
                  refine lv_aload_n hx hb dX12_goesOn_86 rfl (lv_at hl 0 rfl) ?_
                  refine va_get (D := (dC, dI)) (ci := 14) (v := .ref aD) (C := RX12) (T := TX12) (N := 23) hx hb hts kc_goesOn_0 hown hK hP 0 rfl rfl 16 (by decide) (hts (.fieldLink RX12 35 "MistHeapsModel" "drifts" "[I") kc_goesOn_3) (fun _ h9 => h9) rfl dX12_goesOn_87 ?_
                  refine lv_iload_n hx hb dX12_goesOn_90 rfl (lv_at hl 2 rfl) ?_
                  refine va_iald hx hb hK hP 4 3 rfl rfl (vp_in_nI (n := i) (N := 36) (by omega) (by omega)) dX12_goesOn_91 ?_
                  refine qi_as (y := fD i) (by rw [nI_clamp (by omega)]) ?_
                  refine lv_istore_n (lv' := [(3, .int (fD i)), (0, .ref m0), (1, .int x), (2, .int (nI i))]) hx hb dX12_goesOn_92 rfl hl (by decide) rfl (fun ls hl => ?_)
                  refine lv_aload_n hx hb dX12_goesOn_93 rfl (lv_at hl 1 rfl) ?_
                  refine va_get (D := (dC, dI)) (ci := 14) (v := .ref aN) (C := RX12) (T := TX12) (N := 23) hx hb hts kc_goesOn_0 hown hK hP 0 rfl rfl 15 (by decide) (hts (.fieldLink RX12 32 "MistHeapsModel" "then" "[J") kc_goesOn_2) (fun _ h9 => h9) rfl dX12_goesOn_94 ?_
                  refine lv_iload_n hx hb dX12_goesOn_97 rfl (lv_at hl 3 rfl) ?_
                  refine lv_iload_n hx hb dX12_goesOn_98 rfl (lv_at hl 2 rfl) ?_
                  refine vp_callSi (va_runS (As := [.int (nI i), .int x]) (rest := [.ref aN]) ⟨hx, hb, hml, hown, hts⟩ (c_nextTo l dC dI i x (by omega)) (va_cwS 2 hts gX12_goesOn_X12_nextTo rfl rfl rfl hd_yX12_nextTo.2 ⟨Nat.le_of_ble_eq_true rfl, Nat.le_of_ble_eq_true rfl⟩) ⟨fun a U g mk q => ⟨q.1, trivial⟩, fun U hU hW => ⟨rfl, trivial⟩⟩ rfl rfl hl.1 rfl (lv_room (Nat.le_of_ble_eq_true rfl)) dX12_goesOn_99 ⟨Nat.le_of_ble_eq_true rfl, Nat.le_of_ble_eq_true rfl⟩).run (fun r_6 hw_7 => ?_)
                  obtain ⟨k_8, hk_9, rfl⟩ := hw_7
                  refine lv_dup2_11 hx hb dX12_goesOn_102 rfl rfl ?_
                  refine va_lald hx hb hK hP 3 2 rfl rfl (vp_in_nI (n := k_8) (N := 36) (by omega) (by omega)) dX12_goesOn_103 ?_
                  refine ql_as (y := fN2 k_8) (by rw [nI_clamp (by omega)]) ?_
                  refine lv_bipush (v := 20) hx hb dX12_goesOn_104 (by decide) ?_
                  refine lv_iconst (v := 2) hx hb dX12_goesOn_106 (by decide) ?_
                  refine lv_iload_n hx hb dX12_goesOn_107 rfl (lv_at hl 0 rfl) ?_
                  refine lv_imul hx hb dX12_goesOn_108 ?_
                  refine lv_isub hx hb dX12_goesOn_109 ?_
                  refine lv_i2l (v := (20 - (2 * (fD i))).toInt64) hx hb dX12_goesOn_110 (rfl) ?_
                  refine lv_aload_n hx hb dX12_goesOn_111 rfl (lv_at hl 1 rfl) ?_
                  refine va_get (D := (dC, dI)) (ci := 14) (v := .ref aO) (C := RX12) (T := TX12) (N := 23) hx hb hts kc_goesOn_0 hown hK hP 0 rfl rfl 14 (by decide) (hts (.fieldLink RX12 28 "MistHeapsModel" "often" "[J") kc_goesOn_1) (fun _ h9 => h9) rfl dX12_goesOn_112 ?_
                  refine lv_iload_n hx hb dX12_goesOn_115 rfl (lv_at hl 3 rfl) ?_
                  refine va_lald hx hb hK hP 2 1 rfl rfl (vp_in_nI (n := i) (N := 36) (by omega) (by omega)) dX12_goesOn_116 ?_
                  refine ql_as (y := fO i) (by rw [nI_clamp (by omega)]) ?_
                  refine lv_lmul hx hb dX12_goesOn_117 ?_
                  refine lv_ladd hx hb dX12_goesOn_118 ?_
                  refine va_last hx hb hK hP hD hS 3 2 rfl rfl (vp_in_nI (n := k_8) (N := 36) (by omega) (by omega)) dX12_goesOn_119 (fun H locs hP hD hS => ?_)
                  rw [nI_clamp (n := k_8) (by omega)] at hP hD
                  have hP : va_P (dC, dI) vwCl [(zo14irriiiiiirriirrrrlriiii m0 th aS aI im ac sp en wg op aB aT se dn aG aO aN aD bv aY rn kd nu tv), (zaI aS cS 901 fS), (zaL aO cO 36 fO), (zaL aN cN 36 (vp_updL fN2 k_8 ((fN2 k_8) + (((20 - (2 * (fD i))).toInt64) * (fO i))))), (zaI aD cD 36 fD)] H := hP
                  have hD : va_D A [(zo14irriiiiiirriirrrrlriiii m0 th aS aI im ac sp en wg op aB aT se dn aG aO aN aD bv aY rn kd nu tv), (zaI aS cS 901 fS), (zaL aO cO 36 fO), (zaL aN cN 36 (vp_updL fN2 k_8 ((fN2 k_8) + (((20 - (2 * (fD i))).toInt64) * (fO i))))), (zaI aD cD 36 fD)] := hD
                  refine lv_aload_n hx hb dX12_goesOn_120 rfl (lv_at hl 1 rfl) ?_
                  refine va_get (D := (dC, dI)) (ci := 14) (v := .ref aN) (C := RX12) (T := TX12) (N := 23) hx hb hts kc_goesOn_0 hown hK hP 0 rfl rfl 15 (by decide) (hts (.fieldLink RX12 32 "MistHeapsModel" "then" "[J") kc_goesOn_2) (fun _ h9 => h9) rfl dX12_goesOn_121 ?_
                  refine lv_iload_n hx hb dX12_goesOn_124 rfl (lv_at hl 3 rfl) ?_
                  refine lv_iload_n hx hb dX12_goesOn_125 rfl (lv_at hl 2 rfl) ?_
                  refine lv_bipush (v := 7) hx hb dX12_goesOn_126 (by decide) ?_
                  refine lv_iadd hx hb dX12_goesOn_128 ?_
                  refine lv_bipush (v := 8) hx hb dX12_goesOn_129 (by decide) ?_
                  refine lv_irem hx hb dX12_goesOn_131 (by decide) ?_
                  refine vp_callSi (va_runS (As := [.int (nI i), .int ((x + 7) - (x + 7) / 8 * 8)]) (rest := [.ref aN]) ⟨hx, hb, hml, hown, hts⟩ (c_nextTo l dC dI i ((x + 7) - (x + 7) / 8 * 8) (by omega)) (va_cwS 2 hts gX12_goesOn_X12_nextTo rfl rfl rfl hd_yX12_nextTo.2 ⟨Nat.le_of_ble_eq_true rfl, Nat.le_of_ble_eq_true rfl⟩) ⟨fun a U g mk q => ⟨q.1, trivial⟩, fun U hU hW => ⟨rfl, trivial⟩⟩ rfl rfl hl.1 rfl (lv_room (Nat.le_of_ble_eq_true rfl)) dX12_goesOn_132 ⟨Nat.le_of_ble_eq_true rfl, Nat.le_of_ble_eq_true rfl⟩).run (fun r_10 hw_11 => ?_)
                  obtain ⟨k_12, hk_13, rfl⟩ := hw_11
                  refine lv_dup2_11 hx hb dX12_goesOn_135 rfl rfl ?_
                  refine va_lald hx hb hK hP 3 2 rfl rfl (vp_in_nI (n := k_12) (N := 36) (by omega) (by omega)) dX12_goesOn_136 ?_
                  refine ql_as (y := (vp_updL fN2 k_8 ((fN2 k_8) + (((20 - (2 * (fD i))).toInt64) * (fO i)))) k_12) (by rw [nI_clamp (by omega)]) ?_
                  refine lv_iload_n hx hb dX12_goesOn_137 rfl (lv_at hl 0 rfl) ?_
                  refine lv_i2l (v := (fD i).toInt64) hx hb dX12_goesOn_138 (rfl) ?_
                  refine lv_aload_n hx hb dX12_goesOn_139 rfl (lv_at hl 1 rfl) ?_
                  refine va_get (D := (dC, dI)) (ci := 14) (v := .ref aO) (C := RX12) (T := TX12) (N := 23) hx hb hts kc_goesOn_0 hown hK hP 0 rfl rfl 14 (by decide) (hts (.fieldLink RX12 28 "MistHeapsModel" "often" "[J") kc_goesOn_1) (fun _ h9 => h9) rfl dX12_goesOn_140 ?_
                  refine lv_iload_n hx hb dX12_goesOn_143 rfl (lv_at hl 3 rfl) ?_
                  refine va_lald hx hb hK hP 2 1 rfl rfl (vp_in_nI (n := i) (N := 36) (by omega) (by omega)) dX12_goesOn_144 ?_
                  refine ql_as (y := fO i) (by rw [nI_clamp (by omega)]) ?_
                  refine lv_lmul hx hb dX12_goesOn_145 ?_
                  refine lv_ladd hx hb dX12_goesOn_146 ?_
                  refine va_last hx hb hK hP hD hS 3 2 rfl rfl (vp_in_nI (n := k_12) (N := 36) (by omega) (by omega)) dX12_goesOn_147 (fun H locs hP hD hS => ?_)
                  rw [nI_clamp (n := k_12) (by omega)] at hP hD
                  have hP : va_P (dC, dI) vwCl [(zo14irriiiiiirriirrrrlriiii m0 th aS aI im ac sp en wg op aB aT se dn aG aO aN aD bv aY rn kd nu tv), (zaI aS cS 901 fS), (zaL aO cO 36 fO), (zaL aN cN 36 (vp_updL (vp_updL fN2 k_8 ((fN2 k_8) + (((20 - (2 * (fD i))).toInt64) * (fO i)))) k_12 (((vp_updL fN2 k_8 ((fN2 k_8) + (((20 - (2 * (fD i))).toInt64) * (fO i)))) k_12) + (((fD i).toInt64) * (fO i))))), (zaI aD cD 36 fD)] H := hP
                  have hD : va_D A [(zo14irriiiiiirriirrrrlriiii m0 th aS aI im ac sp en wg op aB aT se dn aG aO aN aD bv aY rn kd nu tv), (zaI aS cS 901 fS), (zaL aO cO 36 fO), (zaL aN cN 36 (vp_updL (vp_updL fN2 k_8 ((fN2 k_8) + (((20 - (2 * (fD i))).toInt64) * (fO i)))) k_12 (((vp_updL fN2 k_8 ((fN2 k_8) + (((20 - (2 * (fD i))).toInt64) * (fO i)))) k_12) + (((fD i).toInt64) * (fO i))))), (zaI aD cD 36 fD)] := hD
                  refine lv_aload_n hx hb dX12_goesOn_148 rfl (lv_at hl 1 rfl) ?_
                  refine va_get (D := (dC, dI)) (ci := 14) (v := .ref aN) (C := RX12) (T := TX12) (N := 23) hx hb hts kc_goesOn_0 hown hK hP 0 rfl rfl 15 (by decide) (hts (.fieldLink RX12 32 "MistHeapsModel" "then" "[J") kc_goesOn_2) (fun _ h9 => h9) rfl dX12_goesOn_149 ?_
                  refine lv_iload_n hx hb dX12_goesOn_152 rfl (lv_at hl 3 rfl) ?_
                  refine lv_iload_n hx hb dX12_goesOn_153 rfl (lv_at hl 2 rfl) ?_
                  refine lv_iconst (v := 1) hx hb dX12_goesOn_154 (by decide) ?_
                  refine lv_iadd hx hb dX12_goesOn_155 ?_
                  refine lv_bipush (v := 8) hx hb dX12_goesOn_156 (by decide) ?_
                  refine lv_irem hx hb dX12_goesOn_158 (by decide) ?_
                  refine vp_callSi (va_runS (As := [.int (nI i), .int ((x + 1) - (x + 1) / 8 * 8)]) (rest := [.ref aN]) ⟨hx, hb, hml, hown, hts⟩ (c_nextTo l dC dI i ((x + 1) - (x + 1) / 8 * 8) (by omega)) (va_cwS 2 hts gX12_goesOn_X12_nextTo rfl rfl rfl hd_yX12_nextTo.2 ⟨Nat.le_of_ble_eq_true rfl, Nat.le_of_ble_eq_true rfl⟩) ⟨fun a U g mk q => ⟨q.1, trivial⟩, fun U hU hW => ⟨rfl, trivial⟩⟩ rfl rfl hl.1 rfl (lv_room (Nat.le_of_ble_eq_true rfl)) dX12_goesOn_159 ⟨Nat.le_of_ble_eq_true rfl, Nat.le_of_ble_eq_true rfl⟩).run (fun r_14 hw_15 => ?_)
                  obtain ⟨k_16, hk_17, rfl⟩ := hw_15
                  refine lv_dup2_11 hx hb dX12_goesOn_162 rfl rfl ?_
                  refine va_lald hx hb hK hP 3 2 rfl rfl (vp_in_nI (n := k_16) (N := 36) (by omega) (by omega)) dX12_goesOn_163 ?_
                  refine ql_as (y := (vp_updL (vp_updL fN2 k_8 ((fN2 k_8) + (((20 - (2 * (fD i))).toInt64) * (fO i)))) k_12 (((vp_updL fN2 k_8 ((fN2 k_8) + (((20 - (2 * (fD i))).toInt64) * (fO i)))) k_12) + (((fD i).toInt64) * (fO i)))) k_16) (by rw [nI_clamp (by omega)]) ?_
                  refine lv_iload_n hx hb dX12_goesOn_164 rfl (lv_at hl 0 rfl) ?_
                  refine lv_i2l (v := (fD i).toInt64) hx hb dX12_goesOn_165 (rfl) ?_
                  refine lv_aload_n hx hb dX12_goesOn_166 rfl (lv_at hl 1 rfl) ?_
                  refine va_get (D := (dC, dI)) (ci := 14) (v := .ref aO) (C := RX12) (T := TX12) (N := 23) hx hb hts kc_goesOn_0 hown hK hP 0 rfl rfl 14 (by decide) (hts (.fieldLink RX12 28 "MistHeapsModel" "often" "[J") kc_goesOn_1) (fun _ h9 => h9) rfl dX12_goesOn_167 ?_
                  refine lv_iload_n hx hb dX12_goesOn_170 rfl (lv_at hl 3 rfl) ?_
                  refine va_lald hx hb hK hP 2 1 rfl rfl (vp_in_nI (n := i) (N := 36) (by omega) (by omega)) dX12_goesOn_171 ?_
                  refine ql_as (y := fO i) (by rw [nI_clamp (by omega)]) ?_
                  refine lv_lmul hx hb dX12_goesOn_172 ?_
                  refine lv_ladd hx hb dX12_goesOn_173 ?_
                  refine va_last hx hb hK hP hD hS 3 2 rfl rfl (vp_in_nI (n := k_16) (N := 36) (by omega) (by omega)) dX12_goesOn_174 (fun H locs hP hD hS => ?_)
                  rw [nI_clamp (n := k_16) (by omega)] at hP hD
                  have hP : va_P (dC, dI) vwCl [(zo14irriiiiiirriirrrrlriiii m0 th aS aI im ac sp en wg op aB aT se dn aG aO aN aD bv aY rn kd nu tv), (zaI aS cS 901 fS), (zaL aO cO 36 fO), (zaL aN cN 36 (vp_updL (vp_updL (vp_updL fN2 k_8 ((fN2 k_8) + (((20 - (2 * (fD i))).toInt64) * (fO i)))) k_12 (((vp_updL fN2 k_8 ((fN2 k_8) + (((20 - (2 * (fD i))).toInt64) * (fO i)))) k_12) + (((fD i).toInt64) * (fO i)))) k_16 (((vp_updL (vp_updL fN2 k_8 ((fN2 k_8) + (((20 - (2 * (fD i))).toInt64) * (fO i)))) k_12 (((vp_updL fN2 k_8 ((fN2 k_8) + (((20 - (2 * (fD i))).toInt64) * (fO i)))) k_12) + (((fD i).toInt64) * (fO i)))) k_16) + (((fD i).toInt64) * (fO i))))), (zaI aD cD 36 fD)] H := hP
                  have hD : va_D A [(zo14irriiiiiirriirrrrlriiii m0 th aS aI im ac sp en wg op aB aT se dn aG aO aN aD bv aY rn kd nu tv), (zaI aS cS 901 fS), (zaL aO cO 36 fO), (zaL aN cN 36 (vp_updL (vp_updL (vp_updL fN2 k_8 ((fN2 k_8) + (((20 - (2 * (fD i))).toInt64) * (fO i)))) k_12 (((vp_updL fN2 k_8 ((fN2 k_8) + (((20 - (2 * (fD i))).toInt64) * (fO i)))) k_12) + (((fD i).toInt64) * (fO i)))) k_16 (((vp_updL (vp_updL fN2 k_8 ((fN2 k_8) + (((20 - (2 * (fD i))).toInt64) * (fO i)))) k_12 (((vp_updL fN2 k_8 ((fN2 k_8) + (((20 - (2 * (fD i))).toInt64) * (fO i)))) k_12) + (((fD i).toInt64) * (fO i)))) k_16) + (((fD i).toInt64) * (fO i))))), (zaI aD cD 36 fD)] := hD
                  refine lv_iinc (v := nI (i + 1)) (lv' := [(2, .int (nI (i + 1))), (3, .int (fD i)), (0, .ref m0), (1, .int x)]) hx hb dX12_goesOn_175 hl (k := 3) rfl (nI_add i 1) (by decide) rfl (fun ls hl => ?_)
                  refine lv_goto (tgt := 23) hx hb dX12_goesOn_178 (by decide) ?_
                  exact ih23 (i + 1) _ (by omega) (by omega) _ _ (hK.sub [0, 1, 2, 3] rfl) (hP.sub [0, 1, 2, 3, 4] rfl) (hD.sub [0, 1, 2, 3, 4] (by decide) rfl) hS ls (lv_sub hl [2, 3, 0] rfl)
              · skip
                refine lv_aload_n hx hb dX12_goesOn_40 rfl (lv_at hl 0 rfl) ?_
                refine va_get (D := (dC, dI)) (ci := 14) (v := .ref aS) (C := RX12) (T := TX12) (N := 23) hx hb hts kc_goesOn_0 hown hK hP 0 rfl rfl 1 (by decide) (hts (.fieldLink RX12 9 "MistHeapsModel" "s" "[I") kc_goesOn_4) (fun _ h9 => h9) rfl dX12_goesOn_41 ?_
                refine lv_bipush (v := 37) hx hb dX12_goesOn_44 (by decide) ?_
                refine lv_iload_n hx hb dX12_goesOn_46 rfl (lv_at hl 2 rfl) ?_
                refine lv_iadd hx hb dX12_goesOn_47 ?_
                refine qi_as (y := nI (37 + i)) (nI_add 37 i) ?_
                refine va_iald hx hb hK hP 1 0 rfl rfl (vp_in_nI (n := 37 + i) (N := 901) (by omega) (by omega)) dX12_goesOn_48 ?_
                refine qi_as (y := fS (37 + i)) (by rw [nI_clamp (by omega)]) ?_
                refine lv_iconst (v := 1) hx hb dX12_goesOn_49 (by decide) ?_
                refine lv_icmp_ne (tgt := 75) hx hb dX12_goesOn_50 (by decide) (fun c_18 => ?_) (fun c_18 => ?_)
                · skip
                  refine lv_aload_n hx hb dX12_goesOn_75 rfl (lv_at hl 0 rfl) ?_
                  refine va_get (D := (dC, dI)) (ci := 14) (v := .ref aO) (C := RX12) (T := TX12) (N := 23) hx hb hts kc_goesOn_0 hown hK hP 0 rfl rfl 14 (by decide) (hts (.fieldLink RX12 28 "MistHeapsModel" "often" "[J") kc_goesOn_1) (fun _ h9 => h9) rfl dX12_goesOn_76 ?_
                  refine lv_iload_n hx hb dX12_goesOn_79 rfl (lv_at hl 2 rfl) ?_
                  refine va_lald hx hb hK hP 2 1 rfl rfl (vp_in_nI (n := i) (N := 36) (by omega) (by omega)) dX12_goesOn_80 ?_
                  refine ql_as (y := fO i) (by rw [nI_clamp (by omega)]) ?_
                  refine lv_lconst (v := 0) hx hb dX12_goesOn_81 (by decide) ?_
                  refine W.lcmp hx hb dX12_goesOn_82 ?_
                  refine lv_if_le (tgt := 175) hx hb dX12_goesOn_83 (by decide) (fun c_19 => ?_) (fun c_19 => ?_)
                  · skip
                    refine lv_iinc (v := nI (i + 1)) (lv' := [(2, .int (nI (i + 1))), (0, .ref m0), (1, .int x)]) hx hb dX12_goesOn_175 hl (k := 2) rfl (nI_add i 1) (by decide) rfl (fun ls hl => ?_)
                    refine lv_goto (tgt := 23) hx hb dX12_goesOn_178 (by decide) ?_
                    exact ih23 (i + 1) _ (by omega) (by omega) _ _ (hK.sub [0, 1, 2, 3] rfl) (hP.sub [0, 1, 2, 3, 4] rfl) (hD.sub [0, 1, 2, 3, 4] (by decide) rfl) hS ls (lv_sub hl [1, 2, 0] rfl)
                  · skip
                    refine lv_aload_n hx hb dX12_goesOn_86 rfl (lv_at hl 0 rfl) ?_
                    refine va_get (D := (dC, dI)) (ci := 14) (v := .ref aD) (C := RX12) (T := TX12) (N := 23) hx hb hts kc_goesOn_0 hown hK hP 0 rfl rfl 16 (by decide) (hts (.fieldLink RX12 35 "MistHeapsModel" "drifts" "[I") kc_goesOn_3) (fun _ h9 => h9) rfl dX12_goesOn_87 ?_
                    refine lv_iload_n hx hb dX12_goesOn_90 rfl (lv_at hl 2 rfl) ?_
                    refine va_iald hx hb hK hP 4 3 rfl rfl (vp_in_nI (n := i) (N := 36) (by omega) (by omega)) dX12_goesOn_91 ?_
                    refine qi_as (y := fD i) (by rw [nI_clamp (by omega)]) ?_
                    refine lv_istore_n (lv' := [(3, .int (fD i)), (0, .ref m0), (1, .int x), (2, .int (nI i))]) hx hb dX12_goesOn_92 rfl hl (by decide) rfl (fun ls hl => ?_)
                    refine lv_aload_n hx hb dX12_goesOn_93 rfl (lv_at hl 1 rfl) ?_
                    refine va_get (D := (dC, dI)) (ci := 14) (v := .ref aN) (C := RX12) (T := TX12) (N := 23) hx hb hts kc_goesOn_0 hown hK hP 0 rfl rfl 15 (by decide) (hts (.fieldLink RX12 32 "MistHeapsModel" "then" "[J") kc_goesOn_2) (fun _ h9 => h9) rfl dX12_goesOn_94 ?_
                    refine lv_iload_n hx hb dX12_goesOn_97 rfl (lv_at hl 3 rfl) ?_
                    refine lv_iload_n hx hb dX12_goesOn_98 rfl (lv_at hl 2 rfl) ?_
                    refine vp_callSi (va_runS (As := [.int (nI i), .int x]) (rest := [.ref aN]) ⟨hx, hb, hml, hown, hts⟩ (c_nextTo l dC dI i x (by omega)) (va_cwS 2 hts gX12_goesOn_X12_nextTo rfl rfl rfl hd_yX12_nextTo.2 ⟨Nat.le_of_ble_eq_true rfl, Nat.le_of_ble_eq_true rfl⟩) ⟨fun a U g mk q => ⟨q.1, trivial⟩, fun U hU hW => ⟨rfl, trivial⟩⟩ rfl rfl hl.1 rfl (lv_room (Nat.le_of_ble_eq_true rfl)) dX12_goesOn_99 ⟨Nat.le_of_ble_eq_true rfl, Nat.le_of_ble_eq_true rfl⟩).run (fun r_20 hw_21 => ?_)
                    obtain ⟨k_22, hk_23, rfl⟩ := hw_21
                    refine lv_dup2_11 hx hb dX12_goesOn_102 rfl rfl ?_
                    refine va_lald hx hb hK hP 3 2 rfl rfl (vp_in_nI (n := k_22) (N := 36) (by omega) (by omega)) dX12_goesOn_103 ?_
                    refine ql_as (y := fN2 k_22) (by rw [nI_clamp (by omega)]) ?_
                    refine lv_bipush (v := 20) hx hb dX12_goesOn_104 (by decide) ?_
                    refine lv_iconst (v := 2) hx hb dX12_goesOn_106 (by decide) ?_
                    refine lv_iload_n hx hb dX12_goesOn_107 rfl (lv_at hl 0 rfl) ?_
                    refine lv_imul hx hb dX12_goesOn_108 ?_
                    refine lv_isub hx hb dX12_goesOn_109 ?_
                    refine lv_i2l (v := (20 - (2 * (fD i))).toInt64) hx hb dX12_goesOn_110 (rfl) ?_
                    refine lv_aload_n hx hb dX12_goesOn_111 rfl (lv_at hl 1 rfl) ?_
                    refine va_get (D := (dC, dI)) (ci := 14) (v := .ref aO) (C := RX12) (T := TX12) (N := 23) hx hb hts kc_goesOn_0 hown hK hP 0 rfl rfl 14 (by decide) (hts (.fieldLink RX12 28 "MistHeapsModel" "often" "[J") kc_goesOn_1) (fun _ h9 => h9) rfl dX12_goesOn_112 ?_
                    refine lv_iload_n hx hb dX12_goesOn_115 rfl (lv_at hl 3 rfl) ?_
                    refine va_lald hx hb hK hP 2 1 rfl rfl (vp_in_nI (n := i) (N := 36) (by omega) (by omega)) dX12_goesOn_116 ?_
                    refine ql_as (y := fO i) (by rw [nI_clamp (by omega)]) ?_
                    refine lv_lmul hx hb dX12_goesOn_117 ?_
                    refine lv_ladd hx hb dX12_goesOn_118 ?_
                    refine va_last hx hb hK hP hD hS 3 2 rfl rfl (vp_in_nI (n := k_22) (N := 36) (by omega) (by omega)) dX12_goesOn_119 (fun H locs hP hD hS => ?_)
                    rw [nI_clamp (n := k_22) (by omega)] at hP hD
                    have hP : va_P (dC, dI) vwCl [(zo14irriiiiiirriirrrrlriiii m0 th aS aI im ac sp en wg op aB aT se dn aG aO aN aD bv aY rn kd nu tv), (zaI aS cS 901 fS), (zaL aO cO 36 fO), (zaL aN cN 36 (vp_updL fN2 k_22 ((fN2 k_22) + (((20 - (2 * (fD i))).toInt64) * (fO i))))), (zaI aD cD 36 fD)] H := hP
                    have hD : va_D A [(zo14irriiiiiirriirrrrlriiii m0 th aS aI im ac sp en wg op aB aT se dn aG aO aN aD bv aY rn kd nu tv), (zaI aS cS 901 fS), (zaL aO cO 36 fO), (zaL aN cN 36 (vp_updL fN2 k_22 ((fN2 k_22) + (((20 - (2 * (fD i))).toInt64) * (fO i))))), (zaI aD cD 36 fD)] := hD
                    refine lv_aload_n hx hb dX12_goesOn_120 rfl (lv_at hl 1 rfl) ?_
                    refine va_get (D := (dC, dI)) (ci := 14) (v := .ref aN) (C := RX12) (T := TX12) (N := 23) hx hb hts kc_goesOn_0 hown hK hP 0 rfl rfl 15 (by decide) (hts (.fieldLink RX12 32 "MistHeapsModel" "then" "[J") kc_goesOn_2) (fun _ h9 => h9) rfl dX12_goesOn_121 ?_
                    refine lv_iload_n hx hb dX12_goesOn_124 rfl (lv_at hl 3 rfl) ?_
                    refine lv_iload_n hx hb dX12_goesOn_125 rfl (lv_at hl 2 rfl) ?_
                    refine lv_bipush (v := 7) hx hb dX12_goesOn_126 (by decide) ?_
                    refine lv_iadd hx hb dX12_goesOn_128 ?_
                    refine lv_bipush (v := 8) hx hb dX12_goesOn_129 (by decide) ?_
                    refine lv_irem hx hb dX12_goesOn_131 (by decide) ?_
                    refine vp_callSi (va_runS (As := [.int (nI i), .int ((x + 7) - (x + 7) / 8 * 8)]) (rest := [.ref aN]) ⟨hx, hb, hml, hown, hts⟩ (c_nextTo l dC dI i ((x + 7) - (x + 7) / 8 * 8) (by omega)) (va_cwS 2 hts gX12_goesOn_X12_nextTo rfl rfl rfl hd_yX12_nextTo.2 ⟨Nat.le_of_ble_eq_true rfl, Nat.le_of_ble_eq_true rfl⟩) ⟨fun a U g mk q => ⟨q.1, trivial⟩, fun U hU hW => ⟨rfl, trivial⟩⟩ rfl rfl hl.1 rfl (lv_room (Nat.le_of_ble_eq_true rfl)) dX12_goesOn_132 ⟨Nat.le_of_ble_eq_true rfl, Nat.le_of_ble_eq_true rfl⟩).run (fun r_24 hw_25 => ?_)
                    obtain ⟨k_26, hk_27, rfl⟩ := hw_25
                    refine lv_dup2_11 hx hb dX12_goesOn_135 rfl rfl ?_
                    refine va_lald hx hb hK hP 3 2 rfl rfl (vp_in_nI (n := k_26) (N := 36) (by omega) (by omega)) dX12_goesOn_136 ?_
                    refine ql_as (y := (vp_updL fN2 k_22 ((fN2 k_22) + (((20 - (2 * (fD i))).toInt64) * (fO i)))) k_26) (by rw [nI_clamp (by omega)]) ?_
                    refine lv_iload_n hx hb dX12_goesOn_137 rfl (lv_at hl 0 rfl) ?_
                    refine lv_i2l (v := (fD i).toInt64) hx hb dX12_goesOn_138 (rfl) ?_
                    refine lv_aload_n hx hb dX12_goesOn_139 rfl (lv_at hl 1 rfl) ?_
                    refine va_get (D := (dC, dI)) (ci := 14) (v := .ref aO) (C := RX12) (T := TX12) (N := 23) hx hb hts kc_goesOn_0 hown hK hP 0 rfl rfl 14 (by decide) (hts (.fieldLink RX12 28 "MistHeapsModel" "often" "[J") kc_goesOn_1) (fun _ h9 => h9) rfl dX12_goesOn_140 ?_
                    refine lv_iload_n hx hb dX12_goesOn_143 rfl (lv_at hl 3 rfl) ?_
                    refine va_lald hx hb hK hP 2 1 rfl rfl (vp_in_nI (n := i) (N := 36) (by omega) (by omega)) dX12_goesOn_144 ?_
                    refine ql_as (y := fO i) (by rw [nI_clamp (by omega)]) ?_
                    refine lv_lmul hx hb dX12_goesOn_145 ?_
                    refine lv_ladd hx hb dX12_goesOn_146 ?_
                    refine va_last hx hb hK hP hD hS 3 2 rfl rfl (vp_in_nI (n := k_26) (N := 36) (by omega) (by omega)) dX12_goesOn_147 (fun H locs hP hD hS => ?_)
                    rw [nI_clamp (n := k_26) (by omega)] at hP hD
                    have hP : va_P (dC, dI) vwCl [(zo14irriiiiiirriirrrrlriiii m0 th aS aI im ac sp en wg op aB aT se dn aG aO aN aD bv aY rn kd nu tv), (zaI aS cS 901 fS), (zaL aO cO 36 fO), (zaL aN cN 36 (vp_updL (vp_updL fN2 k_22 ((fN2 k_22) + (((20 - (2 * (fD i))).toInt64) * (fO i)))) k_26 (((vp_updL fN2 k_22 ((fN2 k_22) + (((20 - (2 * (fD i))).toInt64) * (fO i)))) k_26) + (((fD i).toInt64) * (fO i))))), (zaI aD cD 36 fD)] H := hP
                    have hD : va_D A [(zo14irriiiiiirriirrrrlriiii m0 th aS aI im ac sp en wg op aB aT se dn aG aO aN aD bv aY rn kd nu tv), (zaI aS cS 901 fS), (zaL aO cO 36 fO), (zaL aN cN 36 (vp_updL (vp_updL fN2 k_22 ((fN2 k_22) + (((20 - (2 * (fD i))).toInt64) * (fO i)))) k_26 (((vp_updL fN2 k_22 ((fN2 k_22) + (((20 - (2 * (fD i))).toInt64) * (fO i)))) k_26) + (((fD i).toInt64) * (fO i))))), (zaI aD cD 36 fD)] := hD
                    refine lv_aload_n hx hb dX12_goesOn_148 rfl (lv_at hl 1 rfl) ?_
                    refine va_get (D := (dC, dI)) (ci := 14) (v := .ref aN) (C := RX12) (T := TX12) (N := 23) hx hb hts kc_goesOn_0 hown hK hP 0 rfl rfl 15 (by decide) (hts (.fieldLink RX12 32 "MistHeapsModel" "then" "[J") kc_goesOn_2) (fun _ h9 => h9) rfl dX12_goesOn_149 ?_
                    refine lv_iload_n hx hb dX12_goesOn_152 rfl (lv_at hl 3 rfl) ?_
                    refine lv_iload_n hx hb dX12_goesOn_153 rfl (lv_at hl 2 rfl) ?_
                    refine lv_iconst (v := 1) hx hb dX12_goesOn_154 (by decide) ?_
                    refine lv_iadd hx hb dX12_goesOn_155 ?_
                    refine lv_bipush (v := 8) hx hb dX12_goesOn_156 (by decide) ?_
                    refine lv_irem hx hb dX12_goesOn_158 (by decide) ?_
                    refine vp_callSi (va_runS (As := [.int (nI i), .int ((x + 1) - (x + 1) / 8 * 8)]) (rest := [.ref aN]) ⟨hx, hb, hml, hown, hts⟩ (c_nextTo l dC dI i ((x + 1) - (x + 1) / 8 * 8) (by omega)) (va_cwS 2 hts gX12_goesOn_X12_nextTo rfl rfl rfl hd_yX12_nextTo.2 ⟨Nat.le_of_ble_eq_true rfl, Nat.le_of_ble_eq_true rfl⟩) ⟨fun a U g mk q => ⟨q.1, trivial⟩, fun U hU hW => ⟨rfl, trivial⟩⟩ rfl rfl hl.1 rfl (lv_room (Nat.le_of_ble_eq_true rfl)) dX12_goesOn_159 ⟨Nat.le_of_ble_eq_true rfl, Nat.le_of_ble_eq_true rfl⟩).run (fun r_28 hw_29 => ?_)
                    obtain ⟨k_30, hk_31, rfl⟩ := hw_29
                    refine lv_dup2_11 hx hb dX12_goesOn_162 rfl rfl ?_
                    refine va_lald hx hb hK hP 3 2 rfl rfl (vp_in_nI (n := k_30) (N := 36) (by omega) (by omega)) dX12_goesOn_163 ?_
                    refine ql_as (y := (vp_updL (vp_updL fN2 k_22 ((fN2 k_22) + (((20 - (2 * (fD i))).toInt64) * (fO i)))) k_26 (((vp_updL fN2 k_22 ((fN2 k_22) + (((20 - (2 * (fD i))).toInt64) * (fO i)))) k_26) + (((fD i).toInt64) * (fO i)))) k_30) (by rw [nI_clamp (by omega)]) ?_
                    refine lv_iload_n hx hb dX12_goesOn_164 rfl (lv_at hl 0 rfl) ?_
                    refine lv_i2l (v := (fD i).toInt64) hx hb dX12_goesOn_165 (rfl) ?_
                    refine lv_aload_n hx hb dX12_goesOn_166 rfl (lv_at hl 1 rfl) ?_
                    refine va_get (D := (dC, dI)) (ci := 14) (v := .ref aO) (C := RX12) (T := TX12) (N := 23) hx hb hts kc_goesOn_0 hown hK hP 0 rfl rfl 14 (by decide) (hts (.fieldLink RX12 28 "MistHeapsModel" "often" "[J") kc_goesOn_1) (fun _ h9 => h9) rfl dX12_goesOn_167 ?_
                    refine lv_iload_n hx hb dX12_goesOn_170 rfl (lv_at hl 3 rfl) ?_
                    refine va_lald hx hb hK hP 2 1 rfl rfl (vp_in_nI (n := i) (N := 36) (by omega) (by omega)) dX12_goesOn_171 ?_
                    refine ql_as (y := fO i) (by rw [nI_clamp (by omega)]) ?_
                    refine lv_lmul hx hb dX12_goesOn_172 ?_
                    refine lv_ladd hx hb dX12_goesOn_173 ?_
                    refine va_last hx hb hK hP hD hS 3 2 rfl rfl (vp_in_nI (n := k_30) (N := 36) (by omega) (by omega)) dX12_goesOn_174 (fun H locs hP hD hS => ?_)
                    rw [nI_clamp (n := k_30) (by omega)] at hP hD
                    have hP : va_P (dC, dI) vwCl [(zo14irriiiiiirriirrrrlriiii m0 th aS aI im ac sp en wg op aB aT se dn aG aO aN aD bv aY rn kd nu tv), (zaI aS cS 901 fS), (zaL aO cO 36 fO), (zaL aN cN 36 (vp_updL (vp_updL (vp_updL fN2 k_22 ((fN2 k_22) + (((20 - (2 * (fD i))).toInt64) * (fO i)))) k_26 (((vp_updL fN2 k_22 ((fN2 k_22) + (((20 - (2 * (fD i))).toInt64) * (fO i)))) k_26) + (((fD i).toInt64) * (fO i)))) k_30 (((vp_updL (vp_updL fN2 k_22 ((fN2 k_22) + (((20 - (2 * (fD i))).toInt64) * (fO i)))) k_26 (((vp_updL fN2 k_22 ((fN2 k_22) + (((20 - (2 * (fD i))).toInt64) * (fO i)))) k_26) + (((fD i).toInt64) * (fO i)))) k_30) + (((fD i).toInt64) * (fO i))))), (zaI aD cD 36 fD)] H := hP
                    have hD : va_D A [(zo14irriiiiiirriirrrrlriiii m0 th aS aI im ac sp en wg op aB aT se dn aG aO aN aD bv aY rn kd nu tv), (zaI aS cS 901 fS), (zaL aO cO 36 fO), (zaL aN cN 36 (vp_updL (vp_updL (vp_updL fN2 k_22 ((fN2 k_22) + (((20 - (2 * (fD i))).toInt64) * (fO i)))) k_26 (((vp_updL fN2 k_22 ((fN2 k_22) + (((20 - (2 * (fD i))).toInt64) * (fO i)))) k_26) + (((fD i).toInt64) * (fO i)))) k_30 (((vp_updL (vp_updL fN2 k_22 ((fN2 k_22) + (((20 - (2 * (fD i))).toInt64) * (fO i)))) k_26 (((vp_updL fN2 k_22 ((fN2 k_22) + (((20 - (2 * (fD i))).toInt64) * (fO i)))) k_26) + (((fD i).toInt64) * (fO i)))) k_30) + (((fD i).toInt64) * (fO i))))), (zaI aD cD 36 fD)] := hD
                    refine lv_iinc (v := nI (i + 1)) (lv' := [(2, .int (nI (i + 1))), (3, .int (fD i)), (0, .ref m0), (1, .int x)]) hx hb dX12_goesOn_175 hl (k := 3) rfl (nI_add i 1) (by decide) rfl (fun ls hl => ?_)
                    refine lv_goto (tgt := 23) hx hb dX12_goesOn_178 (by decide) ?_
                    exact ih23 (i + 1) _ (by omega) (by omega) _ _ (hK.sub [0, 1, 2, 3] rfl) (hP.sub [0, 1, 2, 3, 4] rfl) (hD.sub [0, 1, 2, 3, 4] (by decide) rfl) hS ls (lv_sub hl [2, 3, 0] rfl)
                · skip
                  refine lv_aload_n hx hb dX12_goesOn_53 rfl (lv_at hl 0 rfl) ?_
                  refine va_get (D := (dC, dI)) (ci := 14) (v := .ref aN) (C := RX12) (T := TX12) (N := 23) hx hb hts kc_goesOn_0 hown hK hP 0 rfl rfl 15 (by decide) (hts (.fieldLink RX12 32 "MistHeapsModel" "then" "[J") kc_goesOn_2) (fun _ h9 => h9) rfl dX12_goesOn_54 ?_
                  refine lv_iload_n hx hb dX12_goesOn_57 rfl (lv_at hl 2 rfl) ?_
                  refine lv_dup2_11 hx hb dX12_goesOn_58 rfl rfl ?_
                  refine va_lald hx hb hK hP 3 2 rfl rfl (vp_in_nI (n := i) (N := 36) (by omega) (by omega)) dX12_goesOn_59 ?_
                  refine ql_as (y := fN2 i) (by rw [nI_clamp (by omega)]) ?_
                  refine lv_ldc2 (v := 20) hx hb hown (hts (.constantLong RX12 204 (20)) kc_goesOn_5) dX12_goesOn_60 ?_
                  refine lv_aload_n hx hb dX12_goesOn_63 rfl (lv_at hl 0 rfl) ?_
                  refine va_get (D := (dC, dI)) (ci := 14) (v := .ref aO) (C := RX12) (T := TX12) (N := 23) hx hb hts kc_goesOn_0 hown hK hP 0 rfl rfl 14 (by decide) (hts (.fieldLink RX12 28 "MistHeapsModel" "often" "[J") kc_goesOn_1) (fun _ h9 => h9) rfl dX12_goesOn_64 ?_
                  refine lv_iload_n hx hb dX12_goesOn_67 rfl (lv_at hl 2 rfl) ?_
                  refine va_lald hx hb hK hP 2 1 rfl rfl (vp_in_nI (n := i) (N := 36) (by omega) (by omega)) dX12_goesOn_68 ?_
                  refine ql_as (y := fO i) (by rw [nI_clamp (by omega)]) ?_
                  refine lv_lmul hx hb dX12_goesOn_69 ?_
                  refine lv_ladd hx hb dX12_goesOn_70 ?_
                  refine va_last hx hb hK hP hD hS 3 2 rfl rfl (vp_in_nI (n := i) (N := 36) (by omega) (by omega)) dX12_goesOn_71 (fun H locs hP hD hS => ?_)
                  rw [nI_clamp (n := i) (by omega)] at hP hD
                  have hP : va_P (dC, dI) vwCl [(zo14irriiiiiirriirrrrlriiii m0 th aS aI im ac sp en wg op aB aT se dn aG aO aN aD bv aY rn kd nu tv), (zaI aS cS 901 fS), (zaL aO cO 36 fO), (zaL aN cN 36 (vp_updL fN2 i ((fN2 i) + (20 * (fO i))))), (zaI aD cD 36 fD)] H := hP
                  have hD : va_D A [(zo14irriiiiiirriirrrrlriiii m0 th aS aI im ac sp en wg op aB aT se dn aG aO aN aD bv aY rn kd nu tv), (zaI aS cS 901 fS), (zaL aO cO 36 fO), (zaL aN cN 36 (vp_updL fN2 i ((fN2 i) + (20 * (fO i))))), (zaI aD cD 36 fD)] := hD
                  refine lv_goto (tgt := 175) hx hb dX12_goesOn_72 (by decide) ?_
                  refine lv_iinc (v := nI (i + 1)) (lv' := [(2, .int (nI (i + 1))), (0, .ref m0), (1, .int x)]) hx hb dX12_goesOn_175 hl (k := 2) rfl (nI_add i 1) (by decide) rfl (fun ls hl => ?_)
                  refine lv_goto (tgt := 23) hx hb dX12_goesOn_178 (by decide) ?_
                  exact ih23 (i + 1) _ (by omega) (by omega) _ _ (hK.sub [0, 1, 2, 3] rfl) (hP.sub [0, 1, 2, 3, 4] rfl) (hD.sub [0, 1, 2, 3, 4] (by decide) rfl) hS ls (lv_sub hl [1, 2, 0] rfl)
        exact L23 _ (0) _ (Nat.lt_succ_self _) (by omega) _ _ (hK.sub [0, 1, 2, 3] rfl) (hP.sub [0, 1, 2, 3, 4] rfl) (hD.sub [0, 1, 2, 3, 4] (by decide) rfl) hS ls (lv_sub hl [1, 2, 0] rfl)
      · skip
        have c_1 : ¬ 36 ≤ i := fun q => c_1 ((nI_leI (a := 36) (b := i) (by omega) (by omega)).mpr q)
        refine lv_aload_n hx hb dX12_goesOn_8 rfl (lv_at hl 0 rfl) ?_
        refine va_get (D := (dC, dI)) (ci := 14) (v := .ref aN) (C := RX12) (T := TX12) (N := 23) hx hb hts kc_goesOn_0 hown hK hP 0 rfl rfl 15 (by decide) (hts (.fieldLink RX12 32 "MistHeapsModel" "then" "[J") kc_goesOn_2) (fun _ h9 => h9) rfl dX12_goesOn_9 ?_
        refine lv_iload_n hx hb dX12_goesOn_12 rfl (lv_at hl 2 rfl) ?_
        refine lv_lconst (v := 0) hx hb dX12_goesOn_13 (by decide) ?_
        refine va_last hx hb hK hP hD hS 3 2 rfl rfl (vp_in_nI (n := i) (N := 36) (by omega) (by omega)) dX12_goesOn_14 (fun H locs hP hD hS => ?_)
        rw [nI_clamp (n := i) (by omega)] at hP hD
        have hP : va_P (dC, dI) vwCl [(zo14irriiiiiirriirrrrlriiii m0 th aS aI im ac sp en wg op aB aT se dn aG aO aN aD bv aY rn kd nu tv), (zaI aS cS 901 fS), (zaL aO cO 36 fO), (zaL aN cN 36 (vp_updL fN2 i 0)), (zaI aD cD 36 fD)] H := hP
        have hD : va_D A [(zo14irriiiiiirriirrrrlriiii m0 th aS aI im ac sp en wg op aB aT se dn aG aO aN aD bv aY rn kd nu tv), (zaI aS cS 901 fS), (zaL aO cO 36 fO), (zaL aN cN 36 (vp_updL fN2 i 0)), (zaI aD cD 36 fD)] := hD
        refine lv_iinc (v := nI (i + 1)) (lv' := [(2, .int (nI (i + 1))), (0, .ref m0), (1, .int x)]) hx hb dX12_goesOn_15 hl (k := 2) rfl (nI_add i 1) (by decide) rfl (fun ls hl => ?_)
        refine lv_goto (tgt := 2) hx hb dX12_goesOn_18 (by decide) ?_
        exact ih2 (i + 1) _ (by omega) (by omega) _ _ (hK.sub [0, 1, 2, 3] rfl) (hP.sub [0, 1, 2, 3, 4] rfl) (hD.sub [0, 1, 2, 3, 4] (by decide) rfl) hS ls (lv_sub hl [1, 2, 0] rfl)
  exact L2 _ (0) _ (Nat.lt_succ_self _) (by omega) _ _ (hK.sub [0, 1, 2, 3] rfl) (hP.sub [0, 1, 2, 3, 4] rfl) (hD.sub [0, 1, 2, 3, 4] (by decide) rfl) hS ls (lv_sub hl [1, 2, 0] rfl)

theorem kc_over_0 : ∀ w ∈ wsX120, w ∈ wsX12_over := fun w h => List.mem_cons_of_mem _ (gin_wsX120 w h)
theorem kc_over_1 : (.fieldLink RX12 9 "MistHeapsModel" "s" "[I" : Cond) ∈ wsX12_over := kc_of 1141 rfl rfl rfl
theorem kc_over_2 : (.fieldLink RX12 28 "MistHeapsModel" "often" "[J" : Cond) ∈ wsX12_over := kc_of 1154 rfl rfl rfl
set_option maxHeartbeats 4000000 in
set_option maxRecDepth 100000 in
theorem c_over (l : Launch) (dC : Nat → ClassId) (dI : Nat → Nat → Nat) (m0 aS aI aB aT aG aO aN aD aY : Nat) (th im ac sp en wg op se dn rn kd nu tv : Int32) (bv : Int64) (cS cO : ClassId) (fS : Nat → Int32) (fO : Nat → Int64) : Met l yX12_over wsX12_over ({ frames := 0, cells := 0, slots := 0, locals := 0 } : Room) (va_Pc [.ref m0] (fun U => va_P (dC, dI) vwCl [(zo14irriiiiiirriirrrrlriiii m0 th aS aI im ac sp en wg op aB aT se dn aG aO aN aD bv aY rn kd nu tv), (zaI aS cS 901 fS), (zaL aO cO 36 fO)] U.heap ∧ va_K (dC, dI) vwCl [(cS, .int), (cO, .long)] U)) (vp_Sl (fun r => True)) 0 0 (fun _ => False) := by
  refine met_ofQ (cc := cX12_over) (maxL := 4) (ret := (some .long)) (by decide) rfl ?_
  intro p e s m args below meth c s₁ Q B hml hv hQ
  obtain ⟨rfl, hP, hK⟩ := hv
  have hx := B.exec
  have hb := B.bytes
  have hr := B.returns
  have hts := atoms_spec (ws := wsX12_over) B.pre
  have hown : s.vm.findClass RX12 = some m.cls := findClass_of_methodNamed B.named
  have hlocks := B.notSynchronized
  obtain ⟨A, hAe⟩ : ∃ A : Nat → Prop, A = fun _ => False := ⟨_, rfl⟩
  rw [← hAe] at hQ
  have hS : va_S A s.heap s.heap [] := va_S.rf
  have hl := lv_entry [.ref m0] (n := 4) (Nat.le_of_ble_eq_true rfl)
  rw [lg_entry_eq]
  generalize (lg_sl [.ref m0] ++ List.replicate (4 - (lg_sl [.ref m0]).length) Slot.unset).toArray = ls at hl ⊢
  generalize hag : ([.ref m0] : List Value).toArray = args at hts hQ ⊢
  have hl : lv_has ls 4 [(0, .ref m0)] := hl
  refine lv_lconst (v := 0) hx hb dX12_over_0 (by decide) ?_
  refine lv_lstore_n (lv' := [(1, .long 0), (0, .ref m0)]) hx hb dX12_over_1 rfl hl (by decide) rfl (fun ls hl => ?_)
  refine lv_iconst (v := 0) hx hb dX12_over_2 (by decide) ?_
  refine lv_istore_n (lv' := [(3, .int 0), (1, .long 0), (0, .ref m0)]) hx hb dX12_over_3 rfl hl (by decide) rfl (fun ls hl => ?_)
  have L4 : ∀ (nF : Nat) (i : Nat) (q : Int64), 36 - i < nF → (i ≤ 36) → ∀ (ls : Array Slot), lv_has ls 4 [(0, .ref m0), (1, .long q), (3, .int (nI i))] → W p l e ({ frames := 0, cells := 0, slots := 0, locals := 0 } : Room) s m args below meth c s.heap [] 0 0 Q (F0 m 4 ls []) := by
    intro nF
    induction nF with
    | zero => intro i q hm; exact absurd hm (Nat.not_lt_zero _)
    | succ nF ih4 =>
      intro i q hm hii ls hl
      refine lv_iload_n hx hb dX12_over_4 rfl (lv_at hl 2 rfl) ?_
      refine lv_bipush (v := 36) hx hb dX12_over_5 (by decide) ?_
      refine lv_icmp_ge (tgt := 42) hx hb dX12_over_7 (by decide) (fun c_1 => ?_) (fun c_1 => ?_)
      · skip
        have c_1 : 36 ≤ i := (nI_leI (a := 36) (b := i) (by omega) (by omega)).mp c_1
        refine lv_lload_n hx hb dX12_over_42 rfl (lv_at hl 1 rfl) ?_
        rw [hQ]
        exact W.lret (v := q) hx hb hr (fun tQ htQ hWQ => ⟨q, rfl, trivial, by rw [htQ]⟩) (fun q hq => absurd hq List.not_mem_nil) dX12_over_43
      · skip
        have c_1 : ¬ 36 ≤ i := fun q => c_1 ((nI_leI (a := 36) (b := i) (by omega) (by omega)).mpr q)
        refine lv_lload_n hx hb dX12_over_10 rfl (lv_at hl 1 rfl) ?_
        refine lv_aload_n hx hb dX12_over_11 rfl (lv_at hl 0 rfl) ?_
        refine va_get (D := (dC, dI)) (ci := 14) (v := .ref aS) (C := RX12) (T := TX12) (N := 23) hx hb hts kc_over_0 hown hK hP 0 rfl rfl 1 (by decide) (hts (.fieldLink RX12 9 "MistHeapsModel" "s" "[I") kc_over_1) (fun _ h9 => h9) rfl dX12_over_12 ?_
        refine lv_bipush (v := 37) hx hb dX12_over_15 (by decide) ?_
        refine lv_iload_n hx hb dX12_over_17 rfl (lv_at hl 2 rfl) ?_
        refine lv_iadd hx hb dX12_over_18 ?_
        refine qi_as (y := nI (37 + i)) (nI_add 37 i) ?_
        refine va_iald hx hb hK hP 1 0 rfl rfl (vp_in_nI (n := 37 + i) (N := 901) (by omega) (by omega)) dX12_over_19 ?_
        refine qi_as (y := fS (37 + i)) (by rw [nI_clamp (by omega)]) ?_
        refine lv_iconst (v := 1) hx hb dX12_over_20 (by decide) ?_
        refine lv_icmp_ne (tgt := 33) hx hb dX12_over_21 (by decide) (fun c_2 => ?_) (fun c_2 => ?_)
        · skip
          refine lv_lconst (v := 0) hx hb dX12_over_33 (by decide) ?_
          refine lv_ladd hx hb dX12_over_34 ?_
          refine lv_lstore_n (lv' := [(1, .long (q + 0)), (0, .ref m0), (3, .int (nI i))]) hx hb dX12_over_35 rfl hl (by decide) rfl (fun ls hl => ?_)
          refine lv_iinc (v := nI (i + 1)) (lv' := [(3, .int (nI (i + 1))), (1, .long (q + 0)), (0, .ref m0)]) hx hb dX12_over_36 hl (k := 2) rfl (nI_add i 1) (by decide) rfl (fun ls hl => ?_)
          refine lv_goto (tgt := 4) hx hb dX12_over_39 (by decide) ?_
          exact ih4 (i + 1) _ (by omega) (by omega) ls (lv_sub hl [2, 1, 0] rfl)
        · skip
          refine lv_aload_n hx hb dX12_over_24 rfl (lv_at hl 0 rfl) ?_
          refine va_get (D := (dC, dI)) (ci := 14) (v := .ref aO) (C := RX12) (T := TX12) (N := 23) hx hb hts kc_over_0 hown hK hP 0 rfl rfl 14 (by decide) (hts (.fieldLink RX12 28 "MistHeapsModel" "often" "[J") kc_over_2) (fun _ h9 => h9) rfl dX12_over_25 ?_
          refine lv_iload_n hx hb dX12_over_28 rfl (lv_at hl 2 rfl) ?_
          refine va_lald hx hb hK hP 2 1 rfl rfl (vp_in_nI (n := i) (N := 36) (by omega) (by omega)) dX12_over_29 ?_
          refine ql_as (y := fO i) (by rw [nI_clamp (by omega)]) ?_
          refine lv_goto (tgt := 34) hx hb dX12_over_30 (by decide) ?_
          refine lv_ladd hx hb dX12_over_34 ?_
          refine lv_lstore_n (lv' := [(1, .long (q + (fO i))), (0, .ref m0), (3, .int (nI i))]) hx hb dX12_over_35 rfl hl (by decide) rfl (fun ls hl => ?_)
          refine lv_iinc (v := nI (i + 1)) (lv' := [(3, .int (nI (i + 1))), (1, .long (q + (fO i))), (0, .ref m0)]) hx hb dX12_over_36 hl (k := 2) rfl (nI_add i 1) (by decide) rfl (fun ls hl => ?_)
          refine lv_goto (tgt := 4) hx hb dX12_over_39 (by decide) ?_
          exact ih4 (i + 1) _ (by omega) (by omega) ls (lv_sub hl [2, 1, 0] rfl)
  exact L4 _ (0) _ (Nat.lt_succ_self _) (by omega) ls (lv_sub hl [2, 1, 0] rfl)

theorem kc_seen_0 : ∀ w ∈ wsX120, w ∈ wsX12_seen := fun w h => List.mem_cons_of_mem _ (gin_wsX120 w h)
theorem kc_seen_1 : (.fieldLink RX12 9 "MistHeapsModel" "s" "[I" : Cond) ∈ wsX12_seen := kc_of 1141 rfl rfl rfl
theorem kc_seen_2 : (.fieldLink RX12 28 "MistHeapsModel" "often" "[J" : Cond) ∈ wsX12_seen := kc_of 1154 rfl rfl rfl
set_option maxHeartbeats 4000000 in
set_option maxRecDepth 100000 in
theorem c_seen (l : Launch) (dC : Nat → ClassId) (dI : Nat → Nat → Nat) (m0 aS aI aB aT aG aO aN aD aY : Nat) (th im ac sp en wg op se dn rn kd nu tv : Int32) (bv : Int64) (cS cB cT cO : ClassId) (fS : Nat → Int32) (fB : Nat → Int32) (fT : Nat → Int32) (fO : Nat → Int64) (h : Nat) (cz : List pCla) (sz : Nat) (hh : h ≤ 8) (zh : hol fS cz) : Met l yX12_seen wsX12_seen ({ frames := 3, cells := 0, slots := 0, locals := 77 } : Room) (va_Pc [.ref m0, .int (nI h)] (fun U => U.heap.size = sz ∧ va_P (dC, dI) vwCl [(zo14irriiiiiirriirrrrlriiii m0 th aS aI im ac sp en wg op aB aT se dn aG aO aN aD bv aY rn kd nu tv), (zaI aS cS 901 fS), (zaI aB cB 6 fB), (zaI aT cT 64 fT), (zaL aO cO 36 fO)] U.heap ∧ va_K (dC, dI) vwCl [(cS, .int), (cB, .int), (cT, .boolean), (cO, .long)] U ∧ va_D (fun _ => True) [(zo14irriiiiiirriirrrrlriiii m0 th aS aI im ac sp en wg op aB aT se dn aG aO aN aD bv aY rn kd nu tv), (zaI aS cS 901 fS), (zaI aB cB 6 fB), (zaI aT cT 64 fT), (zaL aO cO 36 fO)])) (va_Ql (fun (r : Int64) (u : (Nat → Int32) × (Nat → Int32) × (Int32) × (Int32)) => match u with | (fB9, fT9, se9, dn9) => True) (fun (u : (Nat → Int32) × (Nat → Int32) × (Int32) × (Int32)) (t : State) => match u with | (fB9, fT9, se9, dn9) => va_P (dC, dI) vwCl [(zo14irriiiiiirriirrrrlriiii m0 th aS aI im ac sp en wg op aB aT se9 dn9 aG aO aN aD bv aY rn kd nu tv), (zaI aS cS 901 fS), (zaI aB cB 6 fB9), (zaI aT cT 64 fT9), (zaL aO cO 36 fO)] t.heap ∧ va_K (dC, dI) vwCl [(cS, .int), (cB, .int), (cT, .boolean), (cO, .long)] t ∧ va_D (va_A [(zo14irriiiiiirriirrrrlriiii m0 th aS aI im ac sp en wg op aB aT se dn aG aO aN aD bv aY rn kd nu tv), (zaI aS cS 901 fS), (zaI aB cB 6 fB), (zaI aT cT 64 fT), (zaL aO cO 36 fO)] sz) [(zo14irriiiiiirriirrrrlriiii m0 th aS aI im ac sp en wg op aB aT se9 dn9 aG aO aN aD bv aY rn kd nu tv), (zaI aS cS 901 fS), (zaI aB cB 6 fB9), (zaI aT cT 64 fT9), (zaL aO cO 36 fO)]) (va_A [(zo14irriiiiiirriirrrrlriiii m0 th aS aI im ac sp en wg op aB aT se dn aG aO aN aD bv aY rn kd nu tv), (zaI aS cS 901 fS), (zaI aB cB 6 fB), (zaI aT cT 64 fT), (zaL aO cO 36 fO)] sz)) 0 0 (va_A [(zo14irriiiiiirriirrrrlriiii m0 th aS aI im ac sp en wg op aB aT se dn aG aO aN aD bv aY rn kd nu tv), (zaI aS cS 901 fS), (zaI aB cB 6 fB), (zaI aT cT 64 fT), (zaL aO cO 36 fO)] sz) := by
  refine met_ofQ (cc := cX12_seen) (maxL := 5) (ret := (some .long)) (by decide) rfl ?_
  intro p e s m args below meth c s₁ Q B hml hv hQ
  obtain ⟨rfl, hsz, hP, hK, hD0⟩ := hv
  have hx := B.exec
  have hb := B.bytes
  have hr := B.returns
  have hts := atoms_spec (ws := wsX12_seen) B.pre
  have hown : s.vm.findClass RX12 = some m.cls := findClass_of_methodNamed B.named
  have hlocks := B.notSynchronized
  subst hsz
  have hD := hD0.self (sz := s.heap.size)
  generalize hAe : va_A [(zo14irriiiiiirriirrrrlriiii m0 th aS aI im ac sp en wg op aB aT se dn aG aO aN aD bv aY rn kd nu tv), (zaI aS cS 901 fS), (zaI aB cB 6 fB), (zaI aT cT 64 fT), (zaL aO cO 36 fO)] s.heap.size = A at hD hQ ⊢
  have hA : ∀ q : Nat, s.heap.size ≤ q → A q := fun q h => by rw [← hAe]; exact Or.inr h
  have hS : va_S A s.heap s.heap [] := va_S.rf
  have hl := lv_entry [.ref m0, .int (nI h)] (n := 5) (Nat.le_of_ble_eq_true rfl)
  rw [lg_entry_eq]
  generalize (lg_sl [.ref m0, .int (nI h)] ++ List.replicate (5 - (lg_sl [.ref m0, .int (nI h)]).length) Slot.unset).toArray = ls at hl ⊢
  generalize hag : ([.ref m0, .int (nI h)] : List Value).toArray = args at hts hQ ⊢
  have hl : lv_has ls 5 [(0, .ref m0), (1, .int (nI h))] := hl
  obtain ⟨H, hH⟩ : ∃ H : Heap, H = s.heap := ⟨_, rfl⟩
  rw [← hH] at hP
  rw [← hH]
  have hS : va_S A s.heap H [] := by rw [hH]; exact hS
  obtain ⟨locs, hlo⟩ : ∃ L : List Loc, L = [] := ⟨_, rfl⟩
  rw [← hlo] at hS
  rw [← hlo]
  clear hH hlo
  refine lv_lconst (v := 0) hx hb dX12_seen_0 (by decide) ?_
  refine lv_lstore_n (lv' := [(2, .long 0), (0, .ref m0), (1, .int (nI h))]) hx hb dX12_seen_1 rfl hl (by decide) rfl (fun ls hl => ?_)
  refine lv_iconst (v := 0) hx hb dX12_seen_2 (by decide) ?_
  refine lv_istore (lv' := [(4, .int 0), (2, .long 0), (0, .ref m0), (1, .int (nI h))]) hx hb dX12_seen_3 hl (by decide) rfl (fun ls hl => ?_)
  have L5 : ∀ (nF : Nat) (i : Nat) (se2 : Int32) (dn2 : Int32) (fB2 : Nat → Int32) (fT2 : Nat → Int32) (q : Int64), 36 - i < nF → (i ≤ 36) → ∀ (H : Heap) (locs : List Loc), va_K (dC, dI) vwCl [(cS, .int), (cB, .int), (cT, .boolean), (cO, .long)] s → va_P (dC, dI) vwCl [(zo14irriiiiiirriirrrrlriiii m0 th aS aI im ac sp en wg op aB aT se2 dn2 aG aO aN aD bv aY rn kd nu tv), (zaI aS cS 901 fS), (zaI aB cB 6 fB2), (zaI aT cT 64 fT2), (zaL aO cO 36 fO)] H → va_D A [(zo14irriiiiiirriirrrrlriiii m0 th aS aI im ac sp en wg op aB aT se2 dn2 aG aO aN aD bv aY rn kd nu tv), (zaI aS cS 901 fS), (zaI aB cB 6 fB2), (zaI aT cT 64 fT2), (zaL aO cO 36 fO)] → va_S A s.heap H locs → ∀ (ls : Array Slot), lv_has ls 5 [(0, .ref m0), (1, .int (nI h)), (2, .long q), (4, .int (nI i))] → W p l e ({ frames := 3, cells := 0, slots := 0, locals := 77 } : Room) s m args below meth c H locs 0 0 Q (F0 m 5 ls []) := by
    intro nF
    induction nF with
    | zero => intro i se2 dn2 fB2 fT2 q hm; exact absurd hm (Nat.not_lt_zero _)
    | succ nF ih5 =>
      intro i se2 dn2 fB2 fT2 q hm hii H locs hK hP hD hS ls hl
      refine lv_iload hx hb dX12_seen_5 (lv_at hl 3 rfl) ?_
      refine lv_bipush (v := 36) hx hb dX12_seen_7 (by decide) ?_
      refine lv_icmp_ge (tgt := 55) hx hb dX12_seen_9 (by decide) (fun c_1 => ?_) (fun c_1 => ?_)
      · skip
        have c_1 : 36 ≤ i := (nI_leI (a := 36) (b := i) (by omega) (by omega)).mp c_1
        refine lv_lload_n hx hb dX12_seen_55 rfl (lv_at hl 2 rfl) ?_
        rw [hQ]
        have hP9 := hP.sub (ws' := [(zo14irriiiiiirriirrrrlriiii m0 th aS aI im ac sp en wg op aB aT se2 dn2 aG aO aN aD bv aY rn kd nu tv), (zaI aS cS 901 fS), (zaI aB cB 6 fB2), (zaI aT cT 64 fT2), (zaL aO cO 36 fO)]) [0, 1, 2, 3, 4] rfl
        have hD9 := hD.sub (ws' := [(zo14irriiiiiirriirrrrlriiii m0 th aS aI im ac sp en wg op aB aT se2 dn2 aG aO aN aD bv aY rn kd nu tv), (zaI aS cS 901 fS), (zaI aB cB 6 fB2), (zaI aT cT 64 fT2), (zaL aO cO 36 fO)]) [0, 1, 2, 3, 4] (by decide) rfl
        have hK9 := hK.sub (tys' := [(cS, .int), (cB, .int), (cT, .boolean), (cO, .long)]) [0, 1, 2, 3] rfl
        exact W.lret (v := q) hx hb hr (fun tQ htQ hWQ => ⟨⟨q, (fB2, fT2, se2, dn2), rfl, trivial, by rw [htQ]; exact hP9, va_K.moved hWQ.alike hK9, hD9⟩, hS.F htQ⟩) hS.2.2 dX12_seen_56
      · skip
        have c_1 : ¬ 36 ≤ i := fun q => c_1 ((nI_leI (a := 36) (b := i) (by omega) (by omega)).mpr q)
        refine lv_lload_n hx hb dX12_seen_12 rfl (lv_at hl 2 rfl) ?_
        refine lv_aload_n hx hb dX12_seen_13 rfl (lv_at hl 0 rfl) ?_
        refine va_get (D := (dC, dI)) (ci := 14) (v := .ref aS) (C := RX12) (T := TX12) (N := 23) hx hb hts kc_seen_0 hown hK hP 0 rfl rfl 1 (by decide) (hts (.fieldLink RX12 9 "MistHeapsModel" "s" "[I") kc_seen_1) (fun _ h9 => h9) rfl dX12_seen_14 ?_
        refine lv_bipush (v := 37) hx hb dX12_seen_17 (by decide) ?_
        refine lv_iload hx hb dX12_seen_19 (lv_at hl 3 rfl) ?_
        refine lv_iadd hx hb dX12_seen_21 ?_
        refine qi_as (y := nI (37 + i)) (nI_add 37 i) ?_
        refine va_iald hx hb hK hP 1 0 rfl rfl (vp_in_nI (n := 37 + i) (N := 901) (by omega) (by omega)) dX12_seen_22 ?_
        refine qi_as (y := fS (37 + i)) (by rw [nI_clamp (by omega)]) ?_
        refine lv_if_ne (tgt := 46) hx hb dX12_seen_23 (by decide) (fun c_2 => ?_) (fun c_2 => ?_)
        · skip
          refine lv_lconst (v := 0) hx hb dX12_seen_46 (by decide) ?_
          refine lv_ladd hx hb dX12_seen_47 ?_
          refine lv_lstore_n (lv' := [(2, .long (q + 0)), (0, .ref m0), (1, .int (nI h)), (4, .int (nI i))]) hx hb dX12_seen_48 rfl hl (by decide) rfl (fun ls hl => ?_)
          refine lv_iinc (v := nI (i + 1)) (lv' := [(4, .int (nI (i + 1))), (2, .long (q + 0)), (0, .ref m0), (1, .int (nI h))]) hx hb dX12_seen_49 hl (k := 3) rfl (nI_add i 1) (by decide) rfl (fun ls hl => ?_)
          refine lv_goto (tgt := 5) hx hb dX12_seen_52 (by decide) ?_
          exact ih5 (i + 1) _ _ _ _ _ (by omega) (by omega) _ _ (hK.sub [0, 1, 2, 3] rfl) (hP.sub [0, 1, 2, 3, 4] rfl) (hD.sub [0, 1, 2, 3, 4] (by decide) rfl) hS ls (lv_sub hl [2, 3, 1, 0] rfl)
        · skip
          refine lv_aload_n hx hb dX12_seen_26 rfl (lv_at hl 0 rfl) ?_
          refine lv_iload_n hx hb dX12_seen_27 rfl (lv_at hl 1 rfl) ?_
          refine lv_iload hx hb dX12_seen_28 (lv_at hl 3 rfl) ?_
          have hPc := hP.sub (ws' := [(zo14irriiiiiirriirrrrlriiii m0 th aS aI im ac sp en wg op aB aT se2 dn2 aG aO aN aD bv aY rn kd nu tv), (zaI aS cS 901 fS), (zaI aB cB 6 fB2), (zaI aT cT 64 fT2)]) [0, 1, 2, 3] rfl
          have hDc := hD.sub (ws' := [(zo14irriiiiiirriirrrrlriiii m0 th aS aI im ac sp en wg op aB aT se2 dn2 aG aO aN aD bv aY rn kd nu tv), (zaI aS cS 901 fS), (zaI aB cB 6 fB2), (zaI aT cT 64 fT2)]) [0, 1, 2, 3] (by decide) rfl
          have hKc := hK.sub (tys' := [(cS, .int), (cB, .int), (cT, .boolean)]) [0, 1, 2] rfl
          have hFc := va_free (wc := [(zo14irriiiiiirriirrrrlriiii m0 th aS aI im ac sp en wg op aB aT se2 dn2 aG aO aN aD bv aY rn kd nu tv), (zaI aS cS 901 fS), (zaI aB cB 6 fB2), (zaI aT cT 64 fT2)]) hD hS hA [0, 1, 2, 3] rfl
          refine va_calli (va_runV (As := [.int (nI h), .int (nI i)]) (rest := [.long q]) ⟨hx, hb, hml, hown, hts⟩ (c_isSeen l dC dI m0 aS aI aB aT aG aO aN aD aY th im ac sp en wg op se2 dn2 rn kd nu tv bv cS cB cT fS fB2 fT2 h (nI i) cz H.size (by omega) (zh)) (cwV 2 hts gX12_seen_X12_isSeen rfl rfl rfl hd_yX12_isSeen ⟨Nat.le_of_ble_eq_true rfl, Nat.le_of_ble_eq_true rfl⟩) ⟨fun a U g mk q => by obtain ⟨q0, q1, qP, qK, qD⟩ := q; exact ⟨q0, q1, qP, va_K.moved (u := U) (U := U.calling g mk a) (Vm.Alike.refl U.vm) qK, qD⟩, va_recv hK hP (ci := 14) (q := (RX12, TX12, 23)) (q0 := 0) rfl rfl, fun U hU hW => ⟨rfl, by rw [hU], by rw [hU]; exact hPc, va_K.moved hW.alike hKc, hDc.weaken (fun _ _ _ _ => trivial)⟩⟩ rfl rfl hl.1 rfl (lv_room (Nat.le_of_ble_eq_true rfl)) dX12_seen_30 ⟨Nat.le_of_ble_eq_true rfl, Nat.le_of_ble_eq_true rfl⟩) hS (fun q _ h => hFc q h) hFc (fun r_3 u tC H1 locs htC hvm hw_4 hB hz1 hk1 hS => ?_)
          obtain ⟨fB9_5, fT9_6, se9_7, dn9_8⟩ := u
          try dsimp only at hw_4 hB
          obtain ⟨hP1, hK1, hD1⟩ := hB
          rw [htC] at hP1
          have hK1 := va_K.moved hvm.symm hK1
          obtain ⟨hP, hD⟩ := va_join (wr := [(zaL aO cO 36 fO)]) (w1 := [(zo14irriiiiiirriirrrrlriiii m0 th aS aI im ac sp en wg op aB aT se9_7 dn9_8 aG aO aN aD bv aY rn kd nu tv), (zaI aS cS 901 fS), (zaI aB cB 6 fB9_5), (zaI aT cT 64 fT9_6)]) hP hD [0, 1, 2, 3] [4] rfl rfl (by decide) (by decide) hk1 hFc hP1 hD1
          have hK := (hK.sub (tys' := [(cO, .long)]) [3] rfl).app hK1
          generalize H1 = H at hP hS ⊢
          have hP : va_P (dC, dI) vwCl [(zaL aO cO 36 fO), (zo14irriiiiiirriirrrrlriiii m0 th aS aI im ac sp en wg op aB aT se9_7 dn9_8 aG aO aN aD bv aY rn kd nu tv), (zaI aS cS 901 fS), (zaI aB cB 6 fB9_5), (zaI aT cT 64 fT9_6)] H := hP
          have hD : va_D A [(zaL aO cO 36 fO), (zo14irriiiiiirriirrrrlriiii m0 th aS aI im ac sp en wg op aB aT se9_7 dn9_8 aG aO aN aD bv aY rn kd nu tv), (zaI aS cS 901 fS), (zaI aB cB 6 fB9_5), (zaI aT cT 64 fT9_6)] := hD
          have hK : va_K (dC, dI) vwCl [(cO, .long), (cS, .int), (cB, .int), (cT, .boolean)] s := hK
          rcases hw_4 with ⟨rfl, hs_9⟩ | ⟨rfl, hs_9⟩
          · skip
            refine lv_if_eq (tgt := 46) hx hb dX12_seen_33 (by decide) (fun c_10 => absurd c_10 (by decide)) (fun _ => ?_)
            refine lv_aload_n hx hb dX12_seen_36 rfl (lv_at hl 0 rfl) ?_
            refine va_get (D := (dC, dI)) (ci := 14) (v := .ref aO) (C := RX12) (T := TX12) (N := 23) hx hb hts kc_seen_0 hown hK hP 1 rfl rfl 14 (by decide) (hts (.fieldLink RX12 28 "MistHeapsModel" "often" "[J") kc_seen_2) (fun _ h9 => h9) rfl dX12_seen_37 ?_
            refine lv_iload hx hb dX12_seen_40 (lv_at hl 3 rfl) ?_
            refine va_lald hx hb hK hP 0 0 rfl rfl (vp_in_nI (n := i) (N := 36) (by omega) (by omega)) dX12_seen_42 ?_
            refine ql_as (y := fO i) (by rw [nI_clamp (by omega)]) ?_
            refine lv_goto (tgt := 47) hx hb dX12_seen_43 (by decide) ?_
            refine lv_ladd hx hb dX12_seen_47 ?_
            refine lv_lstore_n (lv' := [(2, .long (q + (fO i))), (0, .ref m0), (1, .int (nI h)), (4, .int (nI i))]) hx hb dX12_seen_48 rfl hl (by decide) rfl (fun ls hl => ?_)
            refine lv_iinc (v := nI (i + 1)) (lv' := [(4, .int (nI (i + 1))), (2, .long (q + (fO i))), (0, .ref m0), (1, .int (nI h))]) hx hb dX12_seen_49 hl (k := 3) rfl (nI_add i 1) (by decide) rfl (fun ls hl => ?_)
            refine lv_goto (tgt := 5) hx hb dX12_seen_52 (by decide) ?_
            exact ih5 (i + 1) _ _ _ _ _ (by omega) (by omega) _ _ (hK.sub [1, 2, 3, 0] rfl) (hP.sub [1, 2, 3, 4, 0] rfl) (hD.sub [1, 2, 3, 4, 0] (by decide) rfl) hS ls (lv_sub hl [2, 3, 1, 0] rfl)
          · skip
            refine lv_if_eq (tgt := 46) hx hb dX12_seen_33 (by decide) (fun _ => ?_) (fun c_11 => absurd c_11 (by decide))
            refine lv_lconst (v := 0) hx hb dX12_seen_46 (by decide) ?_
            refine lv_ladd hx hb dX12_seen_47 ?_
            refine lv_lstore_n (lv' := [(2, .long (q + 0)), (0, .ref m0), (1, .int (nI h)), (4, .int (nI i))]) hx hb dX12_seen_48 rfl hl (by decide) rfl (fun ls hl => ?_)
            refine lv_iinc (v := nI (i + 1)) (lv' := [(4, .int (nI (i + 1))), (2, .long (q + 0)), (0, .ref m0), (1, .int (nI h))]) hx hb dX12_seen_49 hl (k := 3) rfl (nI_add i 1) (by decide) rfl (fun ls hl => ?_)
            refine lv_goto (tgt := 5) hx hb dX12_seen_52 (by decide) ?_
            exact ih5 (i + 1) _ _ _ _ _ (by omega) (by omega) _ _ (hK.sub [1, 2, 3, 0] rfl) (hP.sub [1, 2, 3, 4, 0] rfl) (hD.sub [1, 2, 3, 4, 0] (by decide) rfl) hS ls (lv_sub hl [2, 3, 1, 0] rfl)
  exact L5 _ (0) _ _ _ _ _ (Nat.lt_succ_self _) (by omega) _ _ (hK.sub [0, 1, 2, 3] rfl) (hP.sub [0, 1, 2, 3, 4] rfl) (hD.sub [0, 1, 2, 3, 4] (by decide) rfl) hS ls (lv_sub hl [2, 3, 1, 0] rfl)

set_option maxHeartbeats 4000000 in
set_option maxRecDepth 100000 in
theorem c_lowest (l : Launch) (dC : Nat → ClassId) (dI : Nat → Nat → Nat) (a b : Int64) (x : Int32) (zb : ¬ b = 0) : Met l yX12_lowest wsX12_lowest ({ frames := 0, cells := 0, slots := 0, locals := 0 } : Room) (va_Pc [.long a, .long b, .int x] (fun U => True)) (vp_Sl (fun r => True)) 0 0 (fun _ => False) := by
  refine met_ofQ (cc := cX12_lowest) (maxL := 11) (ret := (some .long)) (by decide) rfl ?_
  intro p e s m args below meth c s₁ Q B hml hv hQ
  obtain ⟨rfl, -⟩ := hv
  have hx := B.exec
  have hb := B.bytes
  have hr := B.returns
  have hts := atoms_spec (ws := wsX12_lowest) B.pre
  have hown : s.vm.findClass RX12 = some m.cls := findClass_of_methodNamed B.named
  have hlocks := B.notSynchronized
  obtain ⟨A, hAe⟩ : ∃ A : Nat → Prop, A = fun _ => False := ⟨_, rfl⟩
  rw [← hAe] at hQ
  have hS : va_S A s.heap s.heap [] := va_S.rf
  have hl := lv_entry [.long a, .long b, .int x] (n := 11) (Nat.le_of_ble_eq_true rfl)
  rw [lg_entry_eq]
  generalize (lg_sl [.long a, .long b, .int x] ++ List.replicate (11 - (lg_sl [.long a, .long b, .int x]).length) Slot.unset).toArray = ls at hl ⊢
  generalize hag : ([.long a, .long b, .int x] : List Value).toArray = args at hts hQ ⊢
  have hl : lv_has ls 11 [(0, .long a), (2, .long b), (4, .int x)] := hl
  refine lv_lload_n hx hb dX12_lowest_0 rfl (lv_at hl 0 rfl) ?_
  refine lv_lstore (lv' := [(5, .long a), (0, .long a), (2, .long b), (4, .int x)]) hx hb dX12_lowest_1 hl (by decide) rfl (fun ls hl => ?_)
  refine lv_lload_n hx hb dX12_lowest_3 rfl (lv_at hl 2 rfl) ?_
  refine lv_lstore (lv' := [(7, .long b), (5, .long a), (0, .long a), (2, .long b), (4, .int x)]) hx hb dX12_lowest_4 hl (by decide) rfl (fun ls hl => ?_)
  have L6 : ∀ (nF : Nat) (u : Int64) (v : Int64), v.toInt.natAbs < nF → (v = 0 → ¬ u = 0) → ∀ (ls : Array Slot), lv_has ls 11 [(0, .long a), (2, .long b), (4, .int x), (5, .long u), (7, .long v)] → W p l e ({ frames := 0, cells := 0, slots := 0, locals := 0 } : Room) s m args below meth c s.heap [] 0 0 Q (F0 m 6 ls []) := by
    intro nF
    induction nF with
    | zero => intro u v hm; exact absurd hm (Nat.not_lt_zero _)
    | succ nF ih6 =>
      intro u v hm hz ls hl
      refine lv_lload hx hb dX12_lowest_6 (lv_at hl 4 rfl) ?_
      refine lv_lconst (v := 0) hx hb dX12_lowest_8 (by decide) ?_
      refine W.lcmp hx hb dX12_lowest_9 ?_
      refine lv_if_eq (tgt := 31) hx hb dX12_lowest_10 (by decide) (fun c_1 => ?_) (fun c_1 => ?_)
      · skip
        rw [lg_cmp_eq] at c_1
        refine lv_iload hx hb dX12_lowest_31 (lv_at hl 2 rfl) ?_
        have J33 : ∀ v_2 : Int64, W p l e ({ frames := 0, cells := 0, slots := 0, locals := 0 } : Room) s m args below meth c s.heap [] 0 0 Q (F0 m 41 ls [.long v_2]) := by
          intro v_2
          refine lv_lload hx hb dX12_lowest_41 (lv_at hl 3 rfl) ?_
          refine lv_ldiv hx hb dX12_lowest_43 (hz (by assumption)) ?_
          rw [hQ]
          exact W.lret (v := v_2 / u) hx hb hr (fun tQ htQ hWQ => ⟨v_2 / u, rfl, trivial, by rw [htQ]⟩) (fun q hq => absurd hq List.not_mem_nil) dX12_lowest_44
        refine lv_if_ne (tgt := 40) hx hb dX12_lowest_33 (by decide) (fun c_4 => ?_) (fun c_4 => ?_)
        · skip
          refine lv_lload_n hx hb dX12_lowest_40 rfl (lv_at hl 1 rfl) ?_
          exact J33 b
        · skip
          refine lv_lload_n hx hb dX12_lowest_36 rfl (lv_at hl 0 rfl) ?_
          refine lv_goto (tgt := 41) hx hb dX12_lowest_37 (by decide) ?_
          exact J33 a
      · skip
        rw [lg_cmp_eq] at c_1
        refine lv_lload hx hb dX12_lowest_13 (lv_at hl 3 rfl) ?_
        refine lv_lload hx hb dX12_lowest_15 (lv_at hl 4 rfl) ?_
        refine lv_lrem hx hb dX12_lowest_17 (by assumption) ?_
        refine lv_lstore (lv' := [(9, .long (u - u / v * v)), (0, .long a), (2, .long b), (4, .int x), (5, .long u), (7, .long v)]) hx hb dX12_lowest_18 hl (by decide) rfl (fun ls hl => ?_)
        refine lv_lload hx hb dX12_lowest_20 (lv_at hl 5 rfl) ?_
        refine lv_lstore (lv' := [(5, .long v), (9, .long (u - u / v * v)), (0, .long a), (2, .long b), (4, .int x), (7, .long v)]) hx hb dX12_lowest_22 hl (by decide) rfl (fun ls hl => ?_)
        refine lv_lload hx hb dX12_lowest_24 (lv_at hl 1 rfl) ?_
        refine lv_lstore (lv' := [(7, .long (u - u / v * v)), (5, .long v), (9, .long (u - u / v * v)), (0, .long a), (2, .long b), (4, .int x)]) hx hb dX12_lowest_26 hl (by decide) rfl (fun ls hl => ?_)
        refine lv_goto (tgt := 6) hx hb dX12_lowest_28 (by decide) ?_
        exact ih6 _ _ (Nat.lt_of_lt_of_le (lrem_lt c_1) (by omega)) (fun _ => c_1) ls (lv_sub hl [3, 4, 5, 1, 0] rfl)
  exact L6 _ _ _ (Nat.lt_succ_self _) (fun e => absurd e zb) ls (lv_sub hl [2, 3, 4, 1, 0] rfl)

theorem tw_step : ∀ i : Nat, i < 6 → lN (20 ^ i) * 20 = lN (20 ^ (i + 1)) := by decide +kernel
theorem tw_ne : ∀ i : Nat, i < 7 → ¬ lN (20 ^ i) = 0 := by decide +kernel

theorem kc_twenties_0 : (.constantLong RX12 204 (20) : Cond) ∈ wsX12_twenties := kc_of 1429 rfl rfl rfl
set_option maxHeartbeats 4000000 in
set_option maxRecDepth 100000 in
theorem c_twenties (l : Launch) (dC : Nat → ClassId) (dI : Nat → Nat → Nat) (n : Nat) (zn : n ≤ 6) : Met l yX12_twenties wsX12_twenties ({ frames := 0, cells := 0, slots := 0, locals := 0 } : Room) (va_Pc [.int (nI n)] (fun U => True)) (vp_Sl (fun r => ¬ r = 0)) 0 0 (fun _ => False) := by
  refine met_ofQ (cc := cX12_twenties) (maxL := 4) (ret := (some .long)) (by decide) rfl ?_
  intro p e s m args below meth c s₁ Q B hml hv hQ
  obtain ⟨rfl, -⟩ := hv
  have hx := B.exec
  have hb := B.bytes
  have hr := B.returns
  have hts := atoms_spec (ws := wsX12_twenties) B.pre
  have hown : s.vm.findClass RX12 = some m.cls := findClass_of_methodNamed B.named
  have hlocks := B.notSynchronized
  obtain ⟨A, hAe⟩ : ∃ A : Nat → Prop, A = fun _ => False := ⟨_, rfl⟩
  rw [← hAe] at hQ
  have hS : va_S A s.heap s.heap [] := va_S.rf
  have hl := lv_entry [.int (nI n)] (n := 4) (Nat.le_of_ble_eq_true rfl)
  rw [lg_entry_eq]
  generalize (lg_sl [.int (nI n)] ++ List.replicate (4 - (lg_sl [.int (nI n)]).length) Slot.unset).toArray = ls at hl ⊢
  generalize hag : ([.int (nI n)] : List Value).toArray = args at hts hQ ⊢
  have hl : lv_has ls 4 [(0, .int (nI n))] := hl
  refine lv_lconst (v := 1) hx hb dX12_twenties_0 (by decide) ?_
  refine lv_lstore_n (lv' := [(1, .long 1), (0, .int (nI n))]) hx hb dX12_twenties_1 rfl hl (by decide) rfl (fun ls hl => ?_)
  refine lv_iconst (v := 0) hx hb dX12_twenties_2 (by decide) ?_
  refine lv_istore_n (lv' := [(3, .int 0), (1, .long 1), (0, .int (nI n))]) hx hb dX12_twenties_3 rfl hl (by decide) rfl (fun ls hl => ?_)
  have L4 : ∀ (nF : Nat) (i : Nat), n - i < nF → (i ≤ n) → ∀ (ls : Array Slot), lv_has ls 4 [(0, .int (nI n)), (1, .long (lN (20 ^ i))), (3, .int (nI i))] → W p l e ({ frames := 0, cells := 0, slots := 0, locals := 0 } : Room) s m args below meth c s.heap [] 0 0 Q (F0 m 4 ls []) := by
    intro nF
    induction nF with
    | zero => intro i hm; exact absurd hm (Nat.not_lt_zero _)
    | succ nF ih4 =>
      intro i hm hi ls hl
      refine lv_iload_n hx hb dX12_twenties_4 rfl (lv_at hl 2 rfl) ?_
      refine lv_iload_n hx hb dX12_twenties_5 rfl (lv_at hl 0 rfl) ?_
      refine lv_icmp_ge (tgt := 21) hx hb dX12_twenties_6 (by decide) (fun c_1 => ?_) (fun c_1 => ?_)
      · skip
        have c_1 : n ≤ i := (nI_leI (a := n) (b := i) (by omega) (by omega)).mp c_1
        refine lv_lload_n hx hb dX12_twenties_21 rfl (lv_at hl 1 rfl) ?_
        rw [hQ]
        exact W.lret (v := lN (20 ^ i)) hx hb hr (fun tQ htQ hWQ => ⟨lN (20 ^ i), rfl, tw_ne _ (by omega), by rw [htQ]⟩) (fun q hq => absurd hq List.not_mem_nil) dX12_twenties_22
      · skip
        have c_1 : ¬ n ≤ i := fun q => c_1 ((nI_leI (a := n) (b := i) (by omega) (by omega)).mpr q)
        refine lv_lload_n hx hb dX12_twenties_9 rfl (lv_at hl 1 rfl) ?_
        refine lv_ldc2 (v := 20) hx hb hown (hts (.constantLong RX12 204 (20)) kc_twenties_0) dX12_twenties_10 ?_
        refine lv_lmul hx hb dX12_twenties_13 ?_
        refine ql_as (y := lN (20 ^ (i + 1))) (tw_step i (by omega)) ?_
        refine lv_lstore_n (lv' := [(1, .long (lN (20 ^ (i + 1)))), (0, .int (nI n)), (3, .int (nI i))]) hx hb dX12_twenties_14 rfl hl (by decide) rfl (fun ls hl => ?_)
        refine lv_iinc (v := nI (i + 1)) (lv' := [(3, .int (nI (i + 1))), (1, .long (lN (20 ^ (i + 1)))), (0, .int (nI n))]) hx hb dX12_twenties_15 hl (k := 2) rfl (nI_add i 1) (by decide) rfl (fun ls hl => ?_)
        refine lv_goto (tgt := 4) hx hb dX12_twenties_18 (by decide) ?_
        exact ih4 (i + 1) (by omega) (by omega) ls (lv_sub hl [2, 1, 0] rfl)
  exact L4 _ (0) (Nat.lt_succ_self _) (by omega) ls (lv_sub hl [2, 1, 0] rfl)
