theorem ggX11_bears_X8_areHeaps : GoodIn wsX11_bears wsX8_areHeaps := gga_of 719 rfl rfl rfl
theorem gX11_bears_X8_areHeaps : GoodIn wsX11_bears (wsV RX11 141 RX8 yX8_areHeaps wsX8_areHeaps) := goodIn_app (ggh_of [716, 717, 718, 64] rfl rfl rfl) ggX11_bears_X8_areHeaps
theorem ggX11_bears_X2_link : GoodIn wsX11_bears wsX2_link := gga_of 724 rfl rfl rfl
theorem gX11_bears_X2_link : GoodIn wsX11_bears (wsV RX11 145 RX2 yX2_link wsX2_link) := goodIn_app (ggh_of [721, 722, 723, 66] rfl rfl rfl) ggX11_bears_X2_link
theorem ggX11_bears_X2_fewest : GoodIn wsX11_bears wsX2_fewest := gga_of 757 rfl rfl rfl
theorem gX11_bears_X2_fewest : GoodIn wsX11_bears (wsV RX11 148 RX2 yX2_fewest wsX2_fewest) := goodIn_app (ggh_of [754, 755, 756, 66] rfl rfl rfl) ggX11_bears_X2_fewest
theorem ggX11_looked_X2_link : GoodIn wsX11_looked wsX2_link := gga_of 724 rfl rfl rfl
theorem gX11_looked_X2_link : GoodIn wsX11_looked (wsV RX11 145 RX2 yX2_link wsX2_link) := goodIn_app (ggh_of [721, 722, 723, 66] rfl rfl rfl) ggX11_looked_X2_link
theorem ggX11_looked_X2_isGoing : GoodIn wsX11_looked wsX2_isGoing := gga_of 774 rfl rfl rfl
theorem gX11_looked_X2_isGoing : GoodIn wsX11_looked (wsV RX11 227 RX2 yX2_isGoing wsX2_isGoing) := goodIn_app (ggh_of [910, 772, 773, 66] rfl rfl rfl) ggX11_looked_X2_isGoing
theorem ggX11_build_X8_areHeaps : GoodIn wsX11_build wsX8_areHeaps := gga_of 719 rfl rfl rfl
theorem gX11_build_X8_areHeaps : GoodIn wsX11_build (wsV RX11 141 RX8 yX8_areHeaps wsX8_areHeaps) := goodIn_app (ggh_of [716, 717, 718, 64] rfl rfl rfl) ggX11_build_X8_areHeaps
theorem ggX11_build_X2_bestCell : GoodIn wsX11_build wsX2_bestCell := gga_of 794 rfl rfl rfl
theorem gX11_build_X2_bestCell : GoodIn wsX11_build (wsV RX11 159 RX2 yX2_bestCell wsX2_bestCell) := goodIn_app (ggh_of [791, 792, 793, 66] rfl rfl rfl) ggX11_build_X2_bestCell
theorem ggX11_build_X2_join : GoodIn wsX11_build wsX2_join := gga_of 800 rfl rfl rfl
theorem gX11_build_X2_join : GoodIn wsX11_build (wsV RX11 163 RX2 yX2_join wsX2_join) := goodIn_app (ggh_of [801, 798, 799, 66] rfl rfl rfl) ggX11_build_X2_join
theorem ggX11_build_X2_fewest : GoodIn wsX11_build wsX2_fewest := gga_of 757 rfl rfl rfl
theorem gX11_build_X2_fewest : GoodIn wsX11_build (wsV RX11 148 RX2 yX2_fewest wsX2_fewest) := goodIn_app (ggh_of [754, 755, 756, 66] rfl rfl rfl) ggX11_build_X2_fewest
theorem ggX11_drift_X11_isCell : GoodIn wsX11_drift wsX11_isCell := gga_of 549 rfl rfl rfl
theorem gX11_drift_X11_isCell : GoodIn wsX11_drift (va_wsS RX11 94 yX11_isCell wsX11_isCell) := goodIn_app (ggh_of [547, 548, 63] rfl rfl rfl) ggX11_drift_X11_isCell
theorem ggX11_drift_X8_driftOn : GoodIn wsX11_drift wsX8_driftOn := gga_of 809 rfl rfl rfl
theorem gX11_drift_X8_driftOn : GoodIn wsX11_drift (wsV RX11 166 RX8 yX8_driftOn wsX8_driftOn) := goodIn_app (ggh_of [806, 807, 808, 64] rfl rfl rfl) ggX11_drift_X8_driftOn
noncomputable def dk18cpub_cX11_bears_0 : List (Nat × Instr × Nat) := [(0, .aload_n 0, 1), (1, .getfield 14, 3), (4, .iload_n 1, 1), (5, .iload_n 2, 1), (6, .invokevirtual 141, 3), (9, .ifCond .ne 5, 3), (14, .bipush 9, 2), (16, .istore_n 3, 1), (17, .iload_n 3, 1), (18, .ifCond .lt 38, 3), (21, .aload_n 0, 1), (22, .getfield 35, 3), (25, .aload_n 0, 1), (26, .getfield 14, 3), (29, .iload_n 3, 1), (30, .invokevirtual 145, 3), (33, .aload_n 0, 1), (34, .getfield 35, 3), (37, .iload_n 1, 1), (38, .iload_n 2, 1), (39, .iconst 0, 1), (40, .invokevirtual 148, 3), (43, .bipush (-5), 2), (45, .if_icmp .eq 5, 3), (50, .iinc 3 (-1), 3), (53, .goto (-36), 3), (56, .bipush (-5), 2), (58, .ireturn, 1), (48, .iload_n 3, 1), (49, .ireturn, 1), (12, .iconst (-1), 1), (13, .ireturn, 1)]
set_option maxRecDepth 100000 in
theorem dk18cpub_cX11_bears_0_a : dkA cX11_bears dk18cpub_cX11_bears_0 = true := by decide +kernel
theorem dX11_bears_0 : decode cX11_bears 0 = .ok (.aload_n 0, 1) := dkAt dk18cpub_cX11_bears_0_a 0 rfl
theorem dX11_bears_1 : decode cX11_bears 1 = .ok (.getfield 14, 3) := dkAt dk18cpub_cX11_bears_0_a 1 rfl
theorem dX11_bears_4 : decode cX11_bears 4 = .ok (.iload_n 1, 1) := dkAt dk18cpub_cX11_bears_0_a 2 rfl
theorem dX11_bears_5 : decode cX11_bears 5 = .ok (.iload_n 2, 1) := dkAt dk18cpub_cX11_bears_0_a 3 rfl
theorem dX11_bears_6 : decode cX11_bears 6 = .ok (.invokevirtual 141, 3) := dkAt dk18cpub_cX11_bears_0_a 4 rfl
theorem dX11_bears_9 : decode cX11_bears 9 = .ok (.ifCond .ne 5, 3) := dkAt dk18cpub_cX11_bears_0_a 5 rfl
theorem dX11_bears_14 : decode cX11_bears 14 = .ok (.bipush 9, 2) := dkAt dk18cpub_cX11_bears_0_a 6 rfl
theorem dX11_bears_16 : decode cX11_bears 16 = .ok (.istore_n 3, 1) := dkAt dk18cpub_cX11_bears_0_a 7 rfl
theorem dX11_bears_17 : decode cX11_bears 17 = .ok (.iload_n 3, 1) := dkAt dk18cpub_cX11_bears_0_a 8 rfl
theorem dX11_bears_18 : decode cX11_bears 18 = .ok (.ifCond .lt 38, 3) := dkAt dk18cpub_cX11_bears_0_a 9 rfl
theorem dX11_bears_21 : decode cX11_bears 21 = .ok (.aload_n 0, 1) := dkAt dk18cpub_cX11_bears_0_a 10 rfl
theorem dX11_bears_22 : decode cX11_bears 22 = .ok (.getfield 35, 3) := dkAt dk18cpub_cX11_bears_0_a 11 rfl
theorem dX11_bears_25 : decode cX11_bears 25 = .ok (.aload_n 0, 1) := dkAt dk18cpub_cX11_bears_0_a 12 rfl
theorem dX11_bears_26 : decode cX11_bears 26 = .ok (.getfield 14, 3) := dkAt dk18cpub_cX11_bears_0_a 13 rfl
theorem dX11_bears_29 : decode cX11_bears 29 = .ok (.iload_n 3, 1) := dkAt dk18cpub_cX11_bears_0_a 14 rfl
theorem dX11_bears_30 : decode cX11_bears 30 = .ok (.invokevirtual 145, 3) := dkAt dk18cpub_cX11_bears_0_a 15 rfl
theorem dX11_bears_33 : decode cX11_bears 33 = .ok (.aload_n 0, 1) := dkAt dk18cpub_cX11_bears_0_a 16 rfl
theorem dX11_bears_34 : decode cX11_bears 34 = .ok (.getfield 35, 3) := dkAt dk18cpub_cX11_bears_0_a 17 rfl
theorem dX11_bears_37 : decode cX11_bears 37 = .ok (.iload_n 1, 1) := dkAt dk18cpub_cX11_bears_0_a 18 rfl
theorem dX11_bears_38 : decode cX11_bears 38 = .ok (.iload_n 2, 1) := dkAt dk18cpub_cX11_bears_0_a 19 rfl
theorem dX11_bears_39 : decode cX11_bears 39 = .ok (.iconst 0, 1) := dkAt dk18cpub_cX11_bears_0_a 20 rfl
theorem dX11_bears_40 : decode cX11_bears 40 = .ok (.invokevirtual 148, 3) := dkAt dk18cpub_cX11_bears_0_a 21 rfl
theorem dX11_bears_43 : decode cX11_bears 43 = .ok (.bipush (-5), 2) := dkAt dk18cpub_cX11_bears_0_a 22 rfl
theorem dX11_bears_45 : decode cX11_bears 45 = .ok (.if_icmp .eq 5, 3) := dkAt dk18cpub_cX11_bears_0_a 23 rfl
theorem dX11_bears_50 : decode cX11_bears 50 = .ok (.iinc 3 (-1), 3) := dkAt dk18cpub_cX11_bears_0_a 24 rfl
theorem dX11_bears_53 : decode cX11_bears 53 = .ok (.goto (-36), 3) := dkAt dk18cpub_cX11_bears_0_a 25 rfl
theorem dX11_bears_56 : decode cX11_bears 56 = .ok (.bipush (-5), 2) := dkAt dk18cpub_cX11_bears_0_a 26 rfl
theorem dX11_bears_58 : decode cX11_bears 58 = .ok (.ireturn, 1) := dkAt dk18cpub_cX11_bears_0_a 27 rfl
theorem dX11_bears_48 : decode cX11_bears 48 = .ok (.iload_n 3, 1) := dkAt dk18cpub_cX11_bears_0_a 28 rfl
theorem dX11_bears_49 : decode cX11_bears 49 = .ok (.ireturn, 1) := dkAt dk18cpub_cX11_bears_0_a 29 rfl
theorem dX11_bears_12 : decode cX11_bears 12 = .ok (.iconst (-1), 1) := dkAt dk18cpub_cX11_bears_0_a 30 rfl
theorem dX11_bears_13 : decode cX11_bears 13 = .ok (.ireturn, 1) := dkAt dk18cpub_cX11_bears_0_a 31 rfl
noncomputable def dk18cpub_cX11_looked_0 : List (Nat × Instr × Nat) := [(0, .aload_n 0, 1), (1, .getfield 35, 3), (4, .aload_n 0, 1), (5, .getfield 14, 3), (8, .aload_n 0, 1), (9, .getfield 14, 3), (12, .getfield 88, 3), (15, .invokevirtual 145, 3), (18, .iconst 1, 1), (19, .istore_n 1, 1), (20, .iload_n 1, 1), (21, .aload_n 0, 1), (22, .getfield 14, 3), (25, .getfield 221, 3), (28, .if_icmp .ge 49, 3), (77, .bipush (-5), 2), (79, .ireturn, 1), (31, .aload_n 0, 1), (32, .getfield 35, 3), (35, .aload_n 0, 1), (36, .getfield 14, 3), (39, .getfield 224, 3), (42, .iload_n 1, 1), (43, .iconst 1, 1), (44, .isub, 1), (45, .iaload, 1), (46, .aload_n 0, 1), (47, .getfield 14, 3), (50, .getfield 224, 3), (53, .iload_n 1, 1), (54, .iaload, 1), (55, .invokevirtual 227, 3), (58, .ifCond .ne 13, 3), (71, .iinc 1 1, 3), (74, .goto (-54), 3), (61, .aload_n 0, 1), (62, .getfield 14, 3), (65, .getfield 224, 3), (68, .iload_n 1, 1), (69, .iaload, 1)]
set_option maxRecDepth 100000 in
theorem dk18cpub_cX11_looked_0_a : dkA cX11_looked dk18cpub_cX11_looked_0 = true := by decide +kernel
theorem dX11_looked_0 : decode cX11_looked 0 = .ok (.aload_n 0, 1) := dkAt dk18cpub_cX11_looked_0_a 0 rfl
theorem dX11_looked_1 : decode cX11_looked 1 = .ok (.getfield 35, 3) := dkAt dk18cpub_cX11_looked_0_a 1 rfl
theorem dX11_looked_4 : decode cX11_looked 4 = .ok (.aload_n 0, 1) := dkAt dk18cpub_cX11_looked_0_a 2 rfl
theorem dX11_looked_5 : decode cX11_looked 5 = .ok (.getfield 14, 3) := dkAt dk18cpub_cX11_looked_0_a 3 rfl
theorem dX11_looked_8 : decode cX11_looked 8 = .ok (.aload_n 0, 1) := dkAt dk18cpub_cX11_looked_0_a 4 rfl
theorem dX11_looked_9 : decode cX11_looked 9 = .ok (.getfield 14, 3) := dkAt dk18cpub_cX11_looked_0_a 5 rfl
theorem dX11_looked_12 : decode cX11_looked 12 = .ok (.getfield 88, 3) := dkAt dk18cpub_cX11_looked_0_a 6 rfl
theorem dX11_looked_15 : decode cX11_looked 15 = .ok (.invokevirtual 145, 3) := dkAt dk18cpub_cX11_looked_0_a 7 rfl
theorem dX11_looked_18 : decode cX11_looked 18 = .ok (.iconst 1, 1) := dkAt dk18cpub_cX11_looked_0_a 8 rfl
theorem dX11_looked_19 : decode cX11_looked 19 = .ok (.istore_n 1, 1) := dkAt dk18cpub_cX11_looked_0_a 9 rfl
theorem dX11_looked_20 : decode cX11_looked 20 = .ok (.iload_n 1, 1) := dkAt dk18cpub_cX11_looked_0_a 10 rfl
theorem dX11_looked_21 : decode cX11_looked 21 = .ok (.aload_n 0, 1) := dkAt dk18cpub_cX11_looked_0_a 11 rfl
theorem dX11_looked_22 : decode cX11_looked 22 = .ok (.getfield 14, 3) := dkAt dk18cpub_cX11_looked_0_a 12 rfl
theorem dX11_looked_25 : decode cX11_looked 25 = .ok (.getfield 221, 3) := dkAt dk18cpub_cX11_looked_0_a 13 rfl
theorem dX11_looked_28 : decode cX11_looked 28 = .ok (.if_icmp .ge 49, 3) := dkAt dk18cpub_cX11_looked_0_a 14 rfl
theorem dX11_looked_77 : decode cX11_looked 77 = .ok (.bipush (-5), 2) := dkAt dk18cpub_cX11_looked_0_a 15 rfl
theorem dX11_looked_79 : decode cX11_looked 79 = .ok (.ireturn, 1) := dkAt dk18cpub_cX11_looked_0_a 16 rfl
theorem dX11_looked_31 : decode cX11_looked 31 = .ok (.aload_n 0, 1) := dkAt dk18cpub_cX11_looked_0_a 17 rfl
theorem dX11_looked_32 : decode cX11_looked 32 = .ok (.getfield 35, 3) := dkAt dk18cpub_cX11_looked_0_a 18 rfl
theorem dX11_looked_35 : decode cX11_looked 35 = .ok (.aload_n 0, 1) := dkAt dk18cpub_cX11_looked_0_a 19 rfl
theorem dX11_looked_36 : decode cX11_looked 36 = .ok (.getfield 14, 3) := dkAt dk18cpub_cX11_looked_0_a 20 rfl
theorem dX11_looked_39 : decode cX11_looked 39 = .ok (.getfield 224, 3) := dkAt dk18cpub_cX11_looked_0_a 21 rfl
theorem dX11_looked_42 : decode cX11_looked 42 = .ok (.iload_n 1, 1) := dkAt dk18cpub_cX11_looked_0_a 22 rfl
theorem dX11_looked_43 : decode cX11_looked 43 = .ok (.iconst 1, 1) := dkAt dk18cpub_cX11_looked_0_a 23 rfl
theorem dX11_looked_44 : decode cX11_looked 44 = .ok (.isub, 1) := dkAt dk18cpub_cX11_looked_0_a 24 rfl
theorem dX11_looked_45 : decode cX11_looked 45 = .ok (.iaload, 1) := dkAt dk18cpub_cX11_looked_0_a 25 rfl
theorem dX11_looked_46 : decode cX11_looked 46 = .ok (.aload_n 0, 1) := dkAt dk18cpub_cX11_looked_0_a 26 rfl
theorem dX11_looked_47 : decode cX11_looked 47 = .ok (.getfield 14, 3) := dkAt dk18cpub_cX11_looked_0_a 27 rfl
theorem dX11_looked_50 : decode cX11_looked 50 = .ok (.getfield 224, 3) := dkAt dk18cpub_cX11_looked_0_a 28 rfl
theorem dX11_looked_53 : decode cX11_looked 53 = .ok (.iload_n 1, 1) := dkAt dk18cpub_cX11_looked_0_a 29 rfl
theorem dX11_looked_54 : decode cX11_looked 54 = .ok (.iaload, 1) := dkAt dk18cpub_cX11_looked_0_a 30 rfl
theorem dX11_looked_55 : decode cX11_looked 55 = .ok (.invokevirtual 227, 3) := dkAt dk18cpub_cX11_looked_0_a 31 rfl
theorem dX11_looked_58 : decode cX11_looked 58 = .ok (.ifCond .ne 13, 3) := dkAt dk18cpub_cX11_looked_0_a 32 rfl
theorem dX11_looked_71 : decode cX11_looked 71 = .ok (.iinc 1 1, 3) := dkAt dk18cpub_cX11_looked_0_a 33 rfl
theorem dX11_looked_74 : decode cX11_looked 74 = .ok (.goto (-54), 3) := dkAt dk18cpub_cX11_looked_0_a 34 rfl
theorem dX11_looked_61 : decode cX11_looked 61 = .ok (.aload_n 0, 1) := dkAt dk18cpub_cX11_looked_0_a 35 rfl
theorem dX11_looked_62 : decode cX11_looked 62 = .ok (.getfield 14, 3) := dkAt dk18cpub_cX11_looked_0_a 36 rfl
theorem dX11_looked_65 : decode cX11_looked 65 = .ok (.getfield 224, 3) := dkAt dk18cpub_cX11_looked_0_a 37 rfl
theorem dX11_looked_68 : decode cX11_looked 68 = .ok (.iload_n 1, 1) := dkAt dk18cpub_cX11_looked_0_a 38 rfl
theorem dX11_looked_69 : decode cX11_looked 69 = .ok (.iaload, 1) := dkAt dk18cpub_cX11_looked_0_a 39 rfl
noncomputable def dk18cpub_cX11_looked_40 : List (Nat × Instr × Nat) := [(70, .ireturn, 1)]
set_option maxRecDepth 100000 in
theorem dk18cpub_cX11_looked_40_a : dkA cX11_looked dk18cpub_cX11_looked_40 = true := by decide +kernel
theorem dX11_looked_70 : decode cX11_looked 70 = .ok (.ireturn, 1) := dkAt dk18cpub_cX11_looked_40_a 0 rfl
noncomputable def dk18cpub_cX11_build_0 : List (Nat × Instr × Nat) := [(0, .aload_n 0, 1), (1, .getfield 14, 3), (4, .iload_n 1, 1), (5, .iload_n 2, 1), (6, .invokevirtual 141, 3), (9, .ifCond .eq 12, 3), (12, .iload_n 3, 1), (13, .ifCond .lt 8, 3), (21, .iconst (-1), 1), (22, .ireturn, 1), (16, .iload_n 3, 1), (17, .iconst 1, 1), (18, .if_icmp .le 5, 3), (23, .aload_n 0, 1), (24, .getfield 35, 3), (27, .aload_n 0, 1), (28, .getfield 14, 3), (31, .iload_n 1, 1), (32, .iload_n 2, 1), (33, .invokevirtual 159, 3), (36, .istore 4, 2), (38, .iload 4, 2), (40, .bipush (-5), 2), (42, .if_icmp .eq 7, 3), (49, .iload 4, 2), (51, .ireturn, 1), (45, .iload_n 3, 1), (46, .ifCond .ne 6, 3), (52, .aload_n 0, 1), (53, .getfield 35, 3), (56, .aload_n 0, 1), (57, .getfield 14, 3), (60, .iload 4, 2), (62, .invokevirtual 163, 3), (65, .aload_n 0, 1), (66, .getfield 35, 3), (69, .iload_n 1, 1), (70, .iload_n 2, 1), (71, .iconst 0, 1), (72, .invokevirtual 148, 3)]
set_option maxRecDepth 100000 in
theorem dk18cpub_cX11_build_0_a : dkA cX11_build dk18cpub_cX11_build_0 = true := by decide +kernel
theorem dX11_build_0 : decode cX11_build 0 = .ok (.aload_n 0, 1) := dkAt dk18cpub_cX11_build_0_a 0 rfl
theorem dX11_build_1 : decode cX11_build 1 = .ok (.getfield 14, 3) := dkAt dk18cpub_cX11_build_0_a 1 rfl
theorem dX11_build_4 : decode cX11_build 4 = .ok (.iload_n 1, 1) := dkAt dk18cpub_cX11_build_0_a 2 rfl
theorem dX11_build_5 : decode cX11_build 5 = .ok (.iload_n 2, 1) := dkAt dk18cpub_cX11_build_0_a 3 rfl
theorem dX11_build_6 : decode cX11_build 6 = .ok (.invokevirtual 141, 3) := dkAt dk18cpub_cX11_build_0_a 4 rfl
theorem dX11_build_9 : decode cX11_build 9 = .ok (.ifCond .eq 12, 3) := dkAt dk18cpub_cX11_build_0_a 5 rfl
theorem dX11_build_12 : decode cX11_build 12 = .ok (.iload_n 3, 1) := dkAt dk18cpub_cX11_build_0_a 6 rfl
theorem dX11_build_13 : decode cX11_build 13 = .ok (.ifCond .lt 8, 3) := dkAt dk18cpub_cX11_build_0_a 7 rfl
theorem dX11_build_21 : decode cX11_build 21 = .ok (.iconst (-1), 1) := dkAt dk18cpub_cX11_build_0_a 8 rfl
theorem dX11_build_22 : decode cX11_build 22 = .ok (.ireturn, 1) := dkAt dk18cpub_cX11_build_0_a 9 rfl
theorem dX11_build_16 : decode cX11_build 16 = .ok (.iload_n 3, 1) := dkAt dk18cpub_cX11_build_0_a 10 rfl
theorem dX11_build_17 : decode cX11_build 17 = .ok (.iconst 1, 1) := dkAt dk18cpub_cX11_build_0_a 11 rfl
theorem dX11_build_18 : decode cX11_build 18 = .ok (.if_icmp .le 5, 3) := dkAt dk18cpub_cX11_build_0_a 12 rfl
theorem dX11_build_23 : decode cX11_build 23 = .ok (.aload_n 0, 1) := dkAt dk18cpub_cX11_build_0_a 13 rfl
theorem dX11_build_24 : decode cX11_build 24 = .ok (.getfield 35, 3) := dkAt dk18cpub_cX11_build_0_a 14 rfl
theorem dX11_build_27 : decode cX11_build 27 = .ok (.aload_n 0, 1) := dkAt dk18cpub_cX11_build_0_a 15 rfl
theorem dX11_build_28 : decode cX11_build 28 = .ok (.getfield 14, 3) := dkAt dk18cpub_cX11_build_0_a 16 rfl
theorem dX11_build_31 : decode cX11_build 31 = .ok (.iload_n 1, 1) := dkAt dk18cpub_cX11_build_0_a 17 rfl
theorem dX11_build_32 : decode cX11_build 32 = .ok (.iload_n 2, 1) := dkAt dk18cpub_cX11_build_0_a 18 rfl
theorem dX11_build_33 : decode cX11_build 33 = .ok (.invokevirtual 159, 3) := dkAt dk18cpub_cX11_build_0_a 19 rfl
theorem dX11_build_36 : decode cX11_build 36 = .ok (.istore 4, 2) := dkAt dk18cpub_cX11_build_0_a 20 rfl
theorem dX11_build_38 : decode cX11_build 38 = .ok (.iload 4, 2) := dkAt dk18cpub_cX11_build_0_a 21 rfl
theorem dX11_build_40 : decode cX11_build 40 = .ok (.bipush (-5), 2) := dkAt dk18cpub_cX11_build_0_a 22 rfl
theorem dX11_build_42 : decode cX11_build 42 = .ok (.if_icmp .eq 7, 3) := dkAt dk18cpub_cX11_build_0_a 23 rfl
theorem dX11_build_49 : decode cX11_build 49 = .ok (.iload 4, 2) := dkAt dk18cpub_cX11_build_0_a 24 rfl
theorem dX11_build_51 : decode cX11_build 51 = .ok (.ireturn, 1) := dkAt dk18cpub_cX11_build_0_a 25 rfl
theorem dX11_build_45 : decode cX11_build 45 = .ok (.iload_n 3, 1) := dkAt dk18cpub_cX11_build_0_a 26 rfl
theorem dX11_build_46 : decode cX11_build 46 = .ok (.ifCond .ne 6, 3) := dkAt dk18cpub_cX11_build_0_a 27 rfl
theorem dX11_build_52 : decode cX11_build 52 = .ok (.aload_n 0, 1) := dkAt dk18cpub_cX11_build_0_a 28 rfl
theorem dX11_build_53 : decode cX11_build 53 = .ok (.getfield 35, 3) := dkAt dk18cpub_cX11_build_0_a 29 rfl
theorem dX11_build_56 : decode cX11_build 56 = .ok (.aload_n 0, 1) := dkAt dk18cpub_cX11_build_0_a 30 rfl
theorem dX11_build_57 : decode cX11_build 57 = .ok (.getfield 14, 3) := dkAt dk18cpub_cX11_build_0_a 31 rfl
theorem dX11_build_60 : decode cX11_build 60 = .ok (.iload 4, 2) := dkAt dk18cpub_cX11_build_0_a 32 rfl
theorem dX11_build_62 : decode cX11_build 62 = .ok (.invokevirtual 163, 3) := dkAt dk18cpub_cX11_build_0_a 33 rfl
theorem dX11_build_65 : decode cX11_build 65 = .ok (.aload_n 0, 1) := dkAt dk18cpub_cX11_build_0_a 34 rfl
theorem dX11_build_66 : decode cX11_build 66 = .ok (.getfield 35, 3) := dkAt dk18cpub_cX11_build_0_a 35 rfl
theorem dX11_build_69 : decode cX11_build 69 = .ok (.iload_n 1, 1) := dkAt dk18cpub_cX11_build_0_a 36 rfl
theorem dX11_build_70 : decode cX11_build 70 = .ok (.iload_n 2, 1) := dkAt dk18cpub_cX11_build_0_a 37 rfl
theorem dX11_build_71 : decode cX11_build 71 = .ok (.iconst 0, 1) := dkAt dk18cpub_cX11_build_0_a 38 rfl
theorem dX11_build_72 : decode cX11_build 72 = .ok (.invokevirtual 148, 3) := dkAt dk18cpub_cX11_build_0_a 39 rfl
noncomputable def dk18cpub_cX11_build_40 : List (Nat × Instr × Nat) := [(75, .ireturn, 1)]
set_option maxRecDepth 100000 in
theorem dk18cpub_cX11_build_40_a : dkA cX11_build dk18cpub_cX11_build_40 = true := by decide +kernel
theorem dX11_build_75 : decode cX11_build 75 = .ok (.ireturn, 1) := dkAt dk18cpub_cX11_build_40_a 0 rfl
noncomputable def dk18cpub_cX11_drift_0 : List (Nat × Instr × Nat) := [(0, .iload_n 1, 1), (1, .invokestatic 94, 3), (4, .ifCond .eq 14, 3), (7, .aload_n 0, 1), (8, .getfield 14, 3), (11, .iload_n 1, 1), (12, .invokevirtual 166, 3), (15, .goto 4, 3), (19, .ireturn, 1), (18, .iconst (-1), 1)]
set_option maxRecDepth 100000 in
theorem dk18cpub_cX11_drift_0_a : dkA cX11_drift dk18cpub_cX11_drift_0 = true := by decide +kernel
theorem dX11_drift_0 : decode cX11_drift 0 = .ok (.iload_n 1, 1) := dkAt dk18cpub_cX11_drift_0_a 0 rfl
theorem dX11_drift_1 : decode cX11_drift 1 = .ok (.invokestatic 94, 3) := dkAt dk18cpub_cX11_drift_0_a 1 rfl
theorem dX11_drift_4 : decode cX11_drift 4 = .ok (.ifCond .eq 14, 3) := dkAt dk18cpub_cX11_drift_0_a 2 rfl
theorem dX11_drift_7 : decode cX11_drift 7 = .ok (.aload_n 0, 1) := dkAt dk18cpub_cX11_drift_0_a 3 rfl
theorem dX11_drift_8 : decode cX11_drift 8 = .ok (.getfield 14, 3) := dkAt dk18cpub_cX11_drift_0_a 4 rfl
theorem dX11_drift_11 : decode cX11_drift 11 = .ok (.iload_n 1, 1) := dkAt dk18cpub_cX11_drift_0_a 5 rfl
theorem dX11_drift_12 : decode cX11_drift 12 = .ok (.invokevirtual 166, 3) := dkAt dk18cpub_cX11_drift_0_a 6 rfl
theorem dX11_drift_15 : decode cX11_drift 15 = .ok (.goto 4, 3) := dkAt dk18cpub_cX11_drift_0_a 7 rfl
theorem dX11_drift_19 : decode cX11_drift 19 = .ok (.ireturn, 1) := dkAt dk18cpub_cX11_drift_0_a 8 rfl
theorem dX11_drift_18 : decode cX11_drift 18 = .ok (.iconst (-1), 1) := dkAt dk18cpub_cX11_drift_0_a 9 rfl
theorem kc_xBears_0 : ∀ w ∈ wsX110, w ∈ wsX11_bears := fun w h => List.mem_cons_of_mem _ (gin_wsX110 w h)
theorem kc_xBears_1 : (.fieldLink RX11 14 "MistHeaps" "scene" "LMistHeaps$Scene;" : Cond) ∈ wsX11_bears := kc_of 328 rfl rfl rfl
theorem kc_xBears_2 : (.fieldLink RX11 35 "MistHeaps" "goings" "LMistHeaps$Goings;" : Cond) ∈ wsX11_bears := kc_of 332 rfl rfl rfl
set_option maxHeartbeats 4000000 in
set_option maxRecDepth 100000 in
theorem c_xBears (l : Launch) (dC : Nat → ClassId) (dI : Nat → Nat → Nat) (gd : Nat → Nat)  (kA : Nat)   (h0 : Nat) (sc : Nat) (kp : Nat) (bl : Nat) (go : Nat) (ch : Nat) (bo : Nat) (aTp : Nat) (aHl : Nat) (aHs : Nat) (aWk : Nat) (aBk : Nat) (aFc : Nat) (bW : Nat) (bA : Nat) (bE : Nat) (bC : Nat) (gR : Nat) (gO : Nat) (gS : Nat) (ts : Nat) (nh : Nat) (n : Nat) (wz : Nat) (bz : Nat) (lk : Nat) (cl : Nat) (mi : Int32) (sn : Int32) (sg : Int32) (cdd : Int32) (szz : Int32) (att : Int32) (nmb : Int32) (ik : Int32) (x : Int32) (y : Int32) (ed : Int64) (cHs : ClassId) (cFc : ClassId) (cbW : ClassId) (cbA : ClassId) (cbE : ClassId) (cbC : ClassId) (cR : ClassId) (cO : ClassId) (fFc : Nat → Int32) (fbW : Nat → Int32) (fbA : Nat → Int32) (fbE : Nat → Int32) (fbC : Nat → Int32) (fR : Nat → Int32) (fO : Nat → Int32) (yk : Nat → Int32) (yv : Nat → Int32) (yc : Nat → Int32) (fHs : Nat → Option Nat) (yi : Nat → Nat) (ya : Nat → Nat) (tpv : Value) (cz : List pCla) (sz : Nat) (zhs : ∀ k0, k0 < n → fHs k0 = some (ya k0)) (hn8 : n ≤ 8) (zcl : cl ≤ 10) (zE : ∀ k0, k0 < 10 → ∃ e0 : Nat, e0 ≤ 100 ∧ fbE k0 = nI e0) (zC : ∀ k0, k0 < 100 → okC (fbC k0)) (zyv : ∀ k0, k0 < n → ∃ v0 : Nat, v0 ≤ 9 ∧ yv k0 = nI v0) (zyc : ∀ k0, k0 < n → ∃ v0 : Nat, v0 < 36 ∧ yc k0 = nI v0) (hlk : lk ≤ 8) (zHC : HC cl sg fbW fbA fbE fbC cz ∧ WfC cz) (zyt : ∀ k0, k0 < n → hpT (yi k0) (yk k0)) : Met l yX11_bears wsX11_bears ({ frames := 7, cells := 0, slots := 0, locals := 149 } : Room) (va_Pc [.ref h0, .int x, .int y] (fun U => U.heap.size = sz ∧ va_P (dC, dI) vwCl [(zo13rrirrrr h0 sc kp ik bl go ch bo), (zo4rrir go gR gO (nI lk) gS), (zaI gR cR 8 fR), (zaI gO cO 8 fO), (zo10ririliiriririr sc aTp (nI ts) aHl (nI nh) ed mi sn aHs (nI n) aWk (nI wz) aBk (nI bz) aFc), (zaR aHs cHs 8 fHs), (zaI aFc cFc 6 fFc)] U.heap ∧ va_K (dC, dI) vwCl [(cR, .int), (cO, .int), (cHs, .object "MistHeaps$Heap"), (cFc, .int)] U ∧ va_D (fun _ => True) [(zo13rrirrrr h0 sc kp ik bl go ch bo), (zo4rrir go gR gO (nI lk) gS), (zaI gR cR 8 fR), (zaI gO cO 8 fO), (zo10ririliiriririr sc aTp (nI ts) aHl (nI nh) ed mi sn aHs (nI n) aWk (nI wz) aBk (nI bz) aFc), (zaR aHs cHs 8 fHs), (zaI aFc cFc 6 fFc)] ∧ Gl gd (va_A [(zo13rrirrrr h0 sc kp ik bl go ch bo), (zo4rrir go gR gO (nI lk) gS), (zaI gR cR 8 fR), (zaI gO cO 8 fO), (zo10ririliiriririr sc aTp (nI ts) aHl (nI nh) ed mi sn aHs (nI n) aWk (nI wz) aBk (nI bz) aFc), (zaR aHs cHs 8 fHs), (zaI aFc cFc 6 fFc)] sz) U ∧ Gw (va_A [(zo13rrirrrr h0 sc kp ik bl go ch bo), (zo4rrir go gR gO (nI lk) gS), (zaI gR cR 8 fR), (zaI gO cO 8 fO), (zo10ririliiriririr sc aTp (nI ts) aHl (nI nh) ed mi sn aHs (nI n) aWk (nI wz) aBk (nI bz) aFc), (zaR aHs cHs 8 fHs), (zaI aFc cFc 6 fFc)] sz) U ∧ Gn kA (va_A [(zo13rrirrrr h0 sc kp ik bl go ch bo), (zo4rrir go gR gO (nI lk) gS), (zaI gR cR 8 fR), (zaI gO cO 8 fO), (zo10ririliiriririr sc aTp (nI ts) aHl (nI nh) ed mi sn aHs (nI n) aWk (nI wz) aBk (nI bz) aFc), (zaR aHs cHs 8 fHs), (zaI aFc cFc 6 fFc)] sz) U ∧ Fz dC dI [(zo7iirrrriviii aHl sg (nI cl) bW bA bE bC cdd tpv szz att nmb), (zaI bW cbW 10 fbW), (zaI bA cbA 10 fbA), (zaI bE cbE 10 fbE), (zaI bC cbC 100 fbC)] [(cbW, .int), (cbA, .int), (cbE, .int), (cbC, .int)] (va_A [(zo13rrirrrr h0 sc kp ik bl go ch bo), (zo4rrir go gR gO (nI lk) gS), (zaI gR cR 8 fR), (zaI gO cO 8 fO), (zo10ririliiriririr sc aTp (nI ts) aHl (nI nh) ed mi sn aHs (nI n) aWk (nI wz) aBk (nI bz) aFc), (zaR aHs cHs 8 fHs), (zaI aFc cFc 6 fFc)] sz) U ∧ Hs dC dI n yi ya yk yv yc (va_A [(zo13rrirrrr h0 sc kp ik bl go ch bo), (zo4rrir go gR gO (nI lk) gS), (zaI gR cR 8 fR), (zaI gO cO 8 fO), (zo10ririliiriririr sc aTp (nI ts) aHl (nI nh) ed mi sn aHs (nI n) aWk (nI wz) aBk (nI bz) aFc), (zaR aHs cHs 8 fHs), (zaI aFc cFc 6 fFc)] sz) U)) (va_Qi (fun (r : Int32) (u : (Nat) × (Nat → Int32) × (Nat → Int32) × (Nat → Int32)) => match u with | (lk9, fR9, fO9, fFc9) => lk9 ≤ 8 ∧ r = beR_ n yk yv yc cz mi x y) (fun (u : (Nat) × (Nat → Int32) × (Nat → Int32) × (Nat → Int32)) (t : State) => match u with | (lk9, fR9, fO9, fFc9) => va_P (dC, dI) vwCl [(zo13rrirrrr h0 sc kp ik bl go ch bo), (zo4rrir go gR gO (nI lk9) gS), (zaI gR cR 8 fR9), (zaI gO cO 8 fO9), (zo10ririliiriririr sc aTp (nI ts) aHl (nI nh) ed mi sn aHs (nI n) aWk (nI wz) aBk (nI bz) aFc), (zaR aHs cHs 8 fHs), (zaI aFc cFc 6 fFc9)] t.heap ∧ va_K (dC, dI) vwCl [(cR, .int), (cO, .int), (cHs, .object "MistHeaps$Heap"), (cFc, .int)] t ∧ va_D (va_A [(zo13rrirrrr h0 sc kp ik bl go ch bo), (zo4rrir go gR gO (nI lk) gS), (zaI gR cR 8 fR), (zaI gO cO 8 fO), (zo10ririliiriririr sc aTp (nI ts) aHl (nI nh) ed mi sn aHs (nI n) aWk (nI wz) aBk (nI bz) aFc), (zaR aHs cHs 8 fHs), (zaI aFc cFc 6 fFc)] sz) [(zo13rrirrrr h0 sc kp ik bl go ch bo), (zo4rrir go gR gO (nI lk9) gS), (zaI gR cR 8 fR9), (zaI gO cO 8 fO9), (zo10ririliiriririr sc aTp (nI ts) aHl (nI nh) ed mi sn aHs (nI n) aWk (nI wz) aBk (nI bz) aFc), (zaR aHs cHs 8 fHs), (zaI aFc cFc 6 fFc9)]) (va_A [(zo13rrirrrr h0 sc kp ik bl go ch bo), (zo4rrir go gR gO (nI lk) gS), (zaI gR cR 8 fR), (zaI gO cO 8 fO), (zo10ririliiriririr sc aTp (nI ts) aHl (nI nh) ed mi sn aHs (nI n) aWk (nI wz) aBk (nI bz) aFc), (zaR aHs cHs 8 fHs), (zaI aFc cFc 6 fFc)] sz)) 0 0 (va_A [(zo13rrirrrr h0 sc kp ik bl go ch bo), (zo4rrir go gR gO (nI lk) gS), (zaI gR cR 8 fR), (zaI gO cO 8 fO), (zo10ririliiriririr sc aTp (nI ts) aHl (nI nh) ed mi sn aHs (nI n) aWk (nI wz) aBk (nI bz) aFc), (zaR aHs cHs 8 fHs), (zaI aFc cFc 6 fFc)] sz) := by
  refine met_ofQ (cc := cX11_bears) (maxL := 4) (ret := (some .int)) (by decide) rfl ?_
  intro p e s m args below meth c s₁ Q B hml hv hQ
  obtain ⟨rfl, hsz, hP, hK, hD0, hG, hW_, hN_, hZ, hH_⟩ := hv
  have hx := B.exec
  have hb := B.bytes
  have hr := B.returns
  have hts := atoms_spec (ws := wsX11_bears) B.pre
  have hown : s.vm.findClass RX11 = some m.cls := findClass_of_methodNamed B.named
  have hlocks := B.notSynchronized
  subst hsz
  have hD := hD0.self (sz := s.heap.size)
  generalize hAe : va_A [(zo13rrirrrr h0 sc kp ik bl go ch bo), (zo4rrir go gR gO (nI lk) gS), (zaI gR cR 8 fR), (zaI gO cO 8 fO), (zo10ririliiriririr sc aTp (nI ts) aHl (nI nh) ed mi sn aHs (nI n) aWk (nI wz) aBk (nI bz) aFc), (zaR aHs cHs 8 fHs), (zaI aFc cFc 6 fFc)] s.heap.size = A at hD hQ hG hW_ hN_ hZ hH_ ⊢
  have hA : ∀ q : Nat, s.heap.size ≤ q → A q := fun q h => by rw [← hAe]; exact Or.inr h
  have hS : va_S A s.heap s.heap [] := va_S.rf
  have hl := lv_entry [.ref h0, .int x, .int y] (n := 4) (Nat.le_of_ble_eq_true rfl)
  rw [lg_entry_eq]
  generalize (lg_sl [.ref h0, .int x, .int y] ++ List.replicate (4 - (lg_sl [.ref h0, .int x, .int y]).length) Slot.unset).toArray = ls at hl ⊢
  generalize hag : ([.ref h0, .int x, .int y] : List Value).toArray = args at hts hQ ⊢
  have hl : lv_has ls 4 [(0, .ref h0), (1, .int x), (2, .int y)] := hl
  obtain ⟨H, hH⟩ : ∃ H : Heap, H = s.heap := ⟨_, rfl⟩
  rw [← hH] at hP
  rw [← hH]
  have hS : va_S A s.heap H [] := by rw [hH]; exact hS
  obtain ⟨locs, hlo⟩ : ∃ L : List Loc, L = [] := ⟨_, rfl⟩
  rw [← hlo] at hS
  rw [← hlo]
  clear hH hlo
  refine lv_aload_n hx hb dX11_bears_0 rfl (lv_at hl 0 rfl) ?_
  refine va_get (D := (dC, dI)) (ci := 13) (v := .ref sc) (C := RX11) (T := TX11) (N := 7) hx hb hts kc_xBears_0 hown hK hP 0 rfl rfl 0 (by decide) (hts (.fieldLink RX11 14 "MistHeaps" "scene" "LMistHeaps$Scene;") kc_xBears_1) (fun _ h9 => h9) rfl dX11_bears_1 ?_
  refine lv_iload_n hx hb dX11_bears_4 rfl (lv_at hl 1 rfl) ?_
  refine lv_iload_n hx hb dX11_bears_5 rfl (lv_at hl 2 rfl) ?_
  have hPc := hP.sub (ws' := [(zo10ririliiriririr sc aTp (nI ts) aHl (nI nh) ed mi sn aHs (nI n) aWk (nI wz) aBk (nI bz) aFc), (zaR aHs cHs 8 fHs)]) [4, 5] rfl
  have hKc := hK.sub (tys' := [(cHs, .object "MistHeaps$Heap")]) [2] rfl
  refine vp_callSi (va_runV (As := [.int x, .int y]) (rest := []) ⟨hx, hb, hml, hown, hts⟩ (c_areHeaps l dC dI sc aTp aHl aHs aWk aBk aFc ts nh n wz bz mi sn x y ed cHs fHs ya (zhs) (hn8)) (cwV 2 hts gX11_bears_X8_areHeaps rfl rfl rfl hd_yX8_areHeaps ⟨Nat.le_of_ble_eq_true rfl, Nat.le_of_ble_eq_true rfl⟩) ⟨fun a U g mk q => by obtain ⟨q0, qP, qK⟩ := q; exact ⟨q0, qP, va_K.moved (u := U) (U := U.calling g mk a) (Vm.Alike.refl U.vm) qK⟩, va_recv hK hP (ci := 10) (q := (RX8, TX8, 14)) (q0 := 4) rfl rfl, fun U hU hW => ⟨rfl, by rw [hU]; exact hPc, va_K.moved hW.alike hKc⟩⟩ rfl rfl hl.1 rfl (lv_room (Nat.le_of_ble_eq_true rfl)) dX11_bears_6 ⟨Nat.le_of_ble_eq_true rfl, Nat.le_of_ble_eq_true rfl⟩).run (fun r_1 hw_2 => ?_)
  rcases hw_2 with ⟨rfl, j1, j2, hj1, hj2, rfl, rfl⟩ | ⟨rfl, hno⟩
  · skip
    refine lv_if_ne (tgt := 14) hx hb dX11_bears_9 (by decide) (fun _ => ?_) (fun c_3 => absurd c_3 (by decide))
    obtain ⟨A9, hA0⟩ : ∃ A : Int32, A = beF (fun k => ¬ fsR (gRow n yk yv yc cz mi (nI k)) n (nI j1) (nI j2) 0 = -5) 10 := ⟨_, rfl⟩
    have hA9 := hA0
    refine lv_bipush (v := 9) hx hb dX11_bears_14 (by decide) ?_
    refine lv_istore_n (lv' := [(3, .int 9), (0, .ref h0), (1, .int (nI j1)), (2, .int (nI j2))]) hx hb dX11_bears_16 rfl hl (by decide) rfl (fun ls hl => ?_)
    refine lv_iload_n hx hb dX11_bears_17 rfl (lv_at hl 0 rfl) ?_
    refine lv_if_lt (tgt := 56) hx hb dX11_bears_18 (by decide) (fun c_4 => absurd c_4 (by decide)) (fun _ => ?_)
    refine lv_aload_n hx hb dX11_bears_21 rfl (lv_at hl 1 rfl) ?_
    refine va_get (D := (dC, dI)) (ci := 13) (v := .ref go) (C := RX11) (T := TX11) (N := 7) hx hb hts kc_xBears_0 hown hK hP 0 rfl rfl 4 (by decide) (hts (.fieldLink RX11 35 "MistHeaps" "goings" "LMistHeaps$Goings;") kc_xBears_2) (fun _ h9 => h9) rfl dX11_bears_22 ?_
    refine lv_aload_n hx hb dX11_bears_25 rfl (lv_at hl 1 rfl) ?_
    refine va_get (D := (dC, dI)) (ci := 13) (v := .ref sc) (C := RX11) (T := TX11) (N := 7) hx hb hts kc_xBears_0 hown hK hP 0 rfl rfl 0 (by decide) (hts (.fieldLink RX11 14 "MistHeaps" "scene" "LMistHeaps$Scene;") kc_xBears_1) (fun _ h9 => h9) rfl dX11_bears_26 ?_
    refine lv_iload_n hx hb dX11_bears_29 rfl (lv_at hl 0 rfl) ?_
    have hPc := hP.sub (ws' := [(zo4rrir go gR gO (nI lk) gS), (zaI gR cR 8 fR), (zaI gO cO 8 fO), (zo10ririliiriririr sc aTp (nI ts) aHl (nI nh) ed mi sn aHs (nI n) aWk (nI wz) aBk (nI bz) aFc), (zaR aHs cHs 8 fHs), (zaI aFc cFc 6 fFc)]) [1, 2, 3, 4, 5, 6] rfl
    have hDc := hD.sub (ws' := [(zo4rrir go gR gO (nI lk) gS), (zaI gR cR 8 fR), (zaI gO cO 8 fO), (zo10ririliiriririr sc aTp (nI ts) aHl (nI nh) ed mi sn aHs (nI n) aWk (nI wz) aBk (nI bz) aFc), (zaR aHs cHs 8 fHs), (zaI aFc cFc 6 fFc)]) [1, 2, 3, 4, 5, 6] (by decide) rfl
    have hKc := hK.sub (tys' := [(cR, .int), (cO, .int), (cHs, .object "MistHeaps$Heap"), (cFc, .int)]) [0, 1, 2, 3] rfl
    have hFc := va_free (wc := [(zo4rrir go gR gO (nI lk) gS), (zaI gR cR 8 fR), (zaI gO cO 8 fO), (zo10ririliiriririr sc aTp (nI ts) aHl (nI nh) ed mi sn aHs (nI n) aWk (nI wz) aBk (nI bz) aFc), (zaR aHs cHs 8 fHs), (zaI aFc cFc 6 fFc)]) hD hS hA [1, 2, 3, 4, 5, 6] rfl
    refine va_callv (va_runV (As := [.ref sc, .int 9]) (rest := []) ⟨hx, hb, hml, hown, hts⟩ (c_link l dC dI gd  kA   sc go aTp aHl aHs aWk aBk aFc bW bA bE bC gR gO gS ts nh n wz bz lk cl mi sn sg cdd szz att nmb 9 ed cHs cFc cbW cbA cbE cbC cR cO fFc fbW fbA fbE fbC fR fO yk yv yc fHs yi ya tpv cz H.size (zhs) (hn8) (zcl) (zE) (zC) (zyv) (zyc) (zHC) (zyt)) (cwV 2 hts gX11_bears_X2_link rfl rfl rfl hd_yX2_link ⟨Nat.le_of_ble_eq_true rfl, Nat.le_of_ble_eq_true rfl⟩) ⟨fun a U g mk q => by obtain ⟨q0, q1, qP, qK, qD, qhG, qhW_, qhN_, qhZ, qhH_⟩ := q; exact ⟨q0, q1, qP, va_K.moved (u := U) (U := U.calling g mk a) (Vm.Alike.refl U.vm) qK, qD, qhG.same rfl rfl, qhW_.same rfl rfl, qhN_.same rfl rfl, qhZ.same rfl rfl, qhH_.same rfl rfl⟩, va_recv hK hP (ci := 4) (q := (RX2, TX2, 4)) (q0 := 1) rfl rfl, fun U hU hW => ⟨rfl, by rw [hU], by rw [hU]; exact hPc, va_K.moved hW.alike hKc, hDc.weaken (fun _ _ _ _ => trivial), hG.call hS hU hW (fun q h => hFc q h), hW_.call hS hU hW (fun q h => hFc q h), hN_.call hS hU hW (fun q h => hFc q h), (hZ.sub [0, 1, 2, 3, 4] [0, 1, 2, 3] rfl rfl).call hS hU hW (fun q h => hFc q h), hH_.call hS hU hW (fun q h => hFc q h)⟩⟩ rfl rfl hl.1 rfl (lv_room (Nat.le_of_ble_eq_true rfl)) dX11_bears_30 ⟨Nat.le_of_ble_eq_true rfl, Nat.le_of_ble_eq_true rfl⟩) hS (fun q _ h => hFc q h) hFc (fun u tC H1 locs htC hvm hw_6 hB hz1 hk1 hS => ?_)
    obtain ⟨lk9_7, fR9_8, fO9_9, fFc9_10⟩ := u
    try dsimp only at hw_6 hB
    obtain ⟨hP1, hK1, hD1⟩ := hB
    rw [htC] at hP1
    have hK1 := va_K.moved hvm.symm hK1
    obtain ⟨hP, hD⟩ := va_join (wr := [(zo13rrirrrr h0 sc kp ik bl go ch bo)]) (w1 := [(zo4rrir go gR gO (nI lk9_7) gS), (zaI gR cR 8 fR9_8), (zaI gO cO 8 fO9_9), (zo10ririliiriririr sc aTp (nI ts) aHl (nI nh) ed mi sn aHs (nI n) aWk (nI wz) aBk (nI bz) aFc), (zaR aHs cHs 8 fHs), (zaI aFc cFc 6 fFc9_10)]) hP hD [1, 2, 3, 4, 5, 6] [0] rfl rfl (by decide) (by decide) hk1 hFc hP1 hD1
    have hK := (hK.sub (tys' := []) [] rfl).app hK1
    generalize H1 = H at hP hS ⊢
    have hP : va_P (dC, dI) vwCl [(zo13rrirrrr h0 sc kp ik bl go ch bo), (zo4rrir go gR gO (nI lk9_7) gS), (zaI gR cR 8 fR9_8), (zaI gO cO 8 fO9_9), (zo10ririliiriririr sc aTp (nI ts) aHl (nI nh) ed mi sn aHs (nI n) aWk (nI wz) aBk (nI bz) aFc), (zaR aHs cHs 8 fHs), (zaI aFc cFc 6 fFc9_10)] H := hP
    have hD : va_D A [(zo13rrirrrr h0 sc kp ik bl go ch bo), (zo4rrir go gR gO (nI lk9_7) gS), (zaI gR cR 8 fR9_8), (zaI gO cO 8 fO9_9), (zo10ririliiriririr sc aTp (nI ts) aHl (nI nh) ed mi sn aHs (nI n) aWk (nI wz) aBk (nI bz) aFc), (zaR aHs cHs 8 fHs), (zaI aFc cFc 6 fFc9_10)] := hD
    have hK : va_K (dC, dI) vwCl [(cR, .int), (cO, .int), (cHs, .object "MistHeaps$Heap"), (cFc, .int)] s := hK
    obtain ⟨elk, hlR, hlO⟩ := hw_6
    obtain rfl := elk.symm
    refine lv_aload_n hx hb dX11_bears_33 rfl (lv_at hl 1 rfl) ?_
    refine va_get (D := (dC, dI)) (ci := 13) (v := .ref go) (C := RX11) (T := TX11) (N := 7) hx hb hts kc_xBears_0 hown hK hP 0 rfl rfl 4 (by decide) (hts (.fieldLink RX11 35 "MistHeaps" "goings" "LMistHeaps$Goings;") kc_xBears_2) (fun _ h9 => h9) rfl dX11_bears_34 ?_
    refine lv_iload_n hx hb dX11_bears_37 rfl (lv_at hl 2 rfl) ?_
    refine lv_iload_n hx hb dX11_bears_38 rfl (lv_at hl 3 rfl) ?_
    refine lv_iconst (v := 0) hx hb dX11_bears_39 (by decide) ?_
    have hPc := hP.sub (ws' := [(zo4rrir go gR gO (nI n) gS), (zaI gO cO 8 fO9_9)]) [1, 3] rfl
    have hKc := hK.sub (tys' := [(cO, .int)]) [1] rfl
    refine vp_callSi (va_runV (As := [.int (nI j1), .int (nI j2), .int 0]) (rest := []) ⟨hx, hb, hml, hown, hts⟩ (c_fewest l dC dI go gR gO gS n (nI j1) (nI j2) 0 cO fO9_9 (by omega)) (cwV 3 hts gX11_bears_X2_fewest rfl rfl rfl hd_yX2_fewest ⟨Nat.le_of_ble_eq_true rfl, Nat.le_of_ble_eq_true rfl⟩) ⟨fun a U g mk q => by obtain ⟨q0, qP, qK⟩ := q; exact ⟨q0, qP, va_K.moved (u := U) (U := U.calling g mk a) (Vm.Alike.refl U.vm) qK⟩, va_recv hK hP (ci := 4) (q := (RX2, TX2, 4)) (q0 := 1) rfl rfl, fun U hU hW => ⟨rfl, by rw [hU]; exact hPc, va_K.moved hW.alike hKc⟩⟩ rfl rfl hl.1 rfl (lv_room (Nat.le_of_ble_eq_true rfl)) dX11_bears_40 ⟨Nat.le_of_ble_eq_true rfl, Nat.le_of_ble_eq_true rfl⟩).run (fun r_11 hw_12 => ?_)
    obtain rfl := hw_12
    refine lv_bipush (v := (-5)) hx hb dX11_bears_43 (by decide) ?_
    refine lv_icmp_eq (tgt := 50) hx hb dX11_bears_45 (by decide) (fun c_13 => ?_) (fun c_13 => ?_)
    · skip
      have hA9 := be_dn (i := 9) hA9 (fun z9 => z9 ((show fwR _ n (nI j1) (nI j2) 0 = fsR (gRow n yk yv yc cz mi (nI 9)) n (nI j1) (nI j2) 0 from fw_row hn8 hj1 hj2 (b_0 _) hlO.B).symm.trans c_13))
      refine lv_iinc (v := 8) (lv' := [(3, .int 8), (0, .ref h0), (1, .int (nI j1)), (2, .int (nI j2))]) hx hb dX11_bears_50 hl (k := 0) rfl (by decide) (by decide) rfl (fun ls hl => ?_)
      refine lv_goto (tgt := 17) hx hb dX11_bears_53 (by decide) ?_
      refine lv_iload_n hx hb dX11_bears_17 rfl (lv_at hl 0 rfl) ?_
      refine lv_if_lt (tgt := 56) hx hb dX11_bears_18 (by decide) (fun c_14 => absurd c_14 (by decide)) (fun _ => ?_)
      refine lv_aload_n hx hb dX11_bears_21 rfl (lv_at hl 1 rfl) ?_
      refine va_get (D := (dC, dI)) (ci := 13) (v := .ref go) (C := RX11) (T := TX11) (N := 7) hx hb hts kc_xBears_0 hown hK hP 0 rfl rfl 4 (by decide) (hts (.fieldLink RX11 35 "MistHeaps" "goings" "LMistHeaps$Goings;") kc_xBears_2) (fun _ h9 => h9) rfl dX11_bears_22 ?_
      refine lv_aload_n hx hb dX11_bears_25 rfl (lv_at hl 1 rfl) ?_
      refine va_get (D := (dC, dI)) (ci := 13) (v := .ref sc) (C := RX11) (T := TX11) (N := 7) hx hb hts kc_xBears_0 hown hK hP 0 rfl rfl 0 (by decide) (hts (.fieldLink RX11 14 "MistHeaps" "scene" "LMistHeaps$Scene;") kc_xBears_1) (fun _ h9 => h9) rfl dX11_bears_26 ?_
      refine lv_iload_n hx hb dX11_bears_29 rfl (lv_at hl 0 rfl) ?_
      have hPc := hP.sub (ws' := [(zo4rrir go gR gO (nI n) gS), (zaI gR cR 8 fR9_8), (zaI gO cO 8 fO9_9), (zo10ririliiriririr sc aTp (nI ts) aHl (nI nh) ed mi sn aHs (nI n) aWk (nI wz) aBk (nI bz) aFc), (zaR aHs cHs 8 fHs), (zaI aFc cFc 6 fFc9_10)]) [1, 2, 3, 4, 5, 6] rfl
      have hDc := hD.sub (ws' := [(zo4rrir go gR gO (nI n) gS), (zaI gR cR 8 fR9_8), (zaI gO cO 8 fO9_9), (zo10ririliiriririr sc aTp (nI ts) aHl (nI nh) ed mi sn aHs (nI n) aWk (nI wz) aBk (nI bz) aFc), (zaR aHs cHs 8 fHs), (zaI aFc cFc 6 fFc9_10)]) [1, 2, 3, 4, 5, 6] (by decide) rfl
      have hKc := hK.sub (tys' := [(cR, .int), (cO, .int), (cHs, .object "MistHeaps$Heap"), (cFc, .int)]) [0, 1, 2, 3] rfl
      have hFc := va_free (wc := [(zo4rrir go gR gO (nI n) gS), (zaI gR cR 8 fR9_8), (zaI gO cO 8 fO9_9), (zo10ririliiriririr sc aTp (nI ts) aHl (nI nh) ed mi sn aHs (nI n) aWk (nI wz) aBk (nI bz) aFc), (zaR aHs cHs 8 fHs), (zaI aFc cFc 6 fFc9_10)]) hD hS hA [1, 2, 3, 4, 5, 6] rfl
      refine va_callv (va_runV (As := [.ref sc, .int 8]) (rest := []) ⟨hx, hb, hml, hown, hts⟩ (c_link l dC dI gd  kA   sc go aTp aHl aHs aWk aBk aFc bW bA bE bC gR gO gS ts nh n wz bz n cl mi sn sg cdd szz att nmb 8 ed cHs cFc cbW cbA cbE cbC cR cO fFc9_10 fbW fbA fbE fbC fR9_8 fO9_9 yk yv yc fHs yi ya tpv cz H.size (zhs) (hn8) (zcl) (zE) (zC) (zyv) (zyc) (zHC) (zyt)) (cwV 2 hts gX11_bears_X2_link rfl rfl rfl hd_yX2_link ⟨Nat.le_of_ble_eq_true rfl, Nat.le_of_ble_eq_true rfl⟩) ⟨fun a U g mk q => by obtain ⟨q0, q1, qP, qK, qD, qhG, qhW_, qhN_, qhZ, qhH_⟩ := q; exact ⟨q0, q1, qP, va_K.moved (u := U) (U := U.calling g mk a) (Vm.Alike.refl U.vm) qK, qD, qhG.same rfl rfl, qhW_.same rfl rfl, qhN_.same rfl rfl, qhZ.same rfl rfl, qhH_.same rfl rfl⟩, va_recv hK hP (ci := 4) (q := (RX2, TX2, 4)) (q0 := 1) rfl rfl, fun U hU hW => ⟨rfl, by rw [hU], by rw [hU]; exact hPc, va_K.moved hW.alike hKc, hDc.weaken (fun _ _ _ _ => trivial), hG.call hS hU hW (fun q h => hFc q h), hW_.call hS hU hW (fun q h => hFc q h), hN_.call hS hU hW (fun q h => hFc q h), (hZ.sub [0, 1, 2, 3, 4] [0, 1, 2, 3] rfl rfl).call hS hU hW (fun q h => hFc q h), hH_.call hS hU hW (fun q h => hFc q h)⟩⟩ rfl rfl hl.1 rfl (lv_room (Nat.le_of_ble_eq_true rfl)) dX11_bears_30 ⟨Nat.le_of_ble_eq_true rfl, Nat.le_of_ble_eq_true rfl⟩) hS (fun q _ h => hFc q h) hFc (fun u tC H1 locs htC hvm hw_16 hB hz1 hk1 hS => ?_)
      obtain ⟨lk9_17, fR9_18, fO9_19, fFc9_20⟩ := u
      try dsimp only at hw_16 hB
      obtain ⟨hP1, hK1, hD1⟩ := hB
      rw [htC] at hP1
      have hK1 := va_K.moved hvm.symm hK1
      obtain ⟨hP, hD⟩ := va_join (wr := [(zo13rrirrrr h0 sc kp ik bl go ch bo)]) (w1 := [(zo4rrir go gR gO (nI lk9_17) gS), (zaI gR cR 8 fR9_18), (zaI gO cO 8 fO9_19), (zo10ririliiriririr sc aTp (nI ts) aHl (nI nh) ed mi sn aHs (nI n) aWk (nI wz) aBk (nI bz) aFc), (zaR aHs cHs 8 fHs), (zaI aFc cFc 6 fFc9_20)]) hP hD [1, 2, 3, 4, 5, 6] [0] rfl rfl (by decide) (by decide) hk1 hFc hP1 hD1
      have hK := (hK.sub (tys' := []) [] rfl).app hK1
      generalize H1 = H at hP hS ⊢
      have hP : va_P (dC, dI) vwCl [(zo13rrirrrr h0 sc kp ik bl go ch bo), (zo4rrir go gR gO (nI lk9_17) gS), (zaI gR cR 8 fR9_18), (zaI gO cO 8 fO9_19), (zo10ririliiriririr sc aTp (nI ts) aHl (nI nh) ed mi sn aHs (nI n) aWk (nI wz) aBk (nI bz) aFc), (zaR aHs cHs 8 fHs), (zaI aFc cFc 6 fFc9_20)] H := hP
      have hD : va_D A [(zo13rrirrrr h0 sc kp ik bl go ch bo), (zo4rrir go gR gO (nI lk9_17) gS), (zaI gR cR 8 fR9_18), (zaI gO cO 8 fO9_19), (zo10ririliiriririr sc aTp (nI ts) aHl (nI nh) ed mi sn aHs (nI n) aWk (nI wz) aBk (nI bz) aFc), (zaR aHs cHs 8 fHs), (zaI aFc cFc 6 fFc9_20)] := hD
      have hK : va_K (dC, dI) vwCl [(cR, .int), (cO, .int), (cHs, .object "MistHeaps$Heap"), (cFc, .int)] s := hK
      obtain ⟨elk, hlR, hlO⟩ := hw_16
      obtain rfl := elk.symm
      refine lv_aload_n hx hb dX11_bears_33 rfl (lv_at hl 1 rfl) ?_
      refine va_get (D := (dC, dI)) (ci := 13) (v := .ref go) (C := RX11) (T := TX11) (N := 7) hx hb hts kc_xBears_0 hown hK hP 0 rfl rfl 4 (by decide) (hts (.fieldLink RX11 35 "MistHeaps" "goings" "LMistHeaps$Goings;") kc_xBears_2) (fun _ h9 => h9) rfl dX11_bears_34 ?_
      refine lv_iload_n hx hb dX11_bears_37 rfl (lv_at hl 2 rfl) ?_
      refine lv_iload_n hx hb dX11_bears_38 rfl (lv_at hl 3 rfl) ?_
      refine lv_iconst (v := 0) hx hb dX11_bears_39 (by decide) ?_
      have hPc := hP.sub (ws' := [(zo4rrir go gR gO (nI n) gS), (zaI gO cO 8 fO9_19)]) [1, 3] rfl
      have hKc := hK.sub (tys' := [(cO, .int)]) [1] rfl
      refine vp_callSi (va_runV (As := [.int (nI j1), .int (nI j2), .int 0]) (rest := []) ⟨hx, hb, hml, hown, hts⟩ (c_fewest l dC dI go gR gO gS n (nI j1) (nI j2) 0 cO fO9_19 (by omega)) (cwV 3 hts gX11_bears_X2_fewest rfl rfl rfl hd_yX2_fewest ⟨Nat.le_of_ble_eq_true rfl, Nat.le_of_ble_eq_true rfl⟩) ⟨fun a U g mk q => by obtain ⟨q0, qP, qK⟩ := q; exact ⟨q0, qP, va_K.moved (u := U) (U := U.calling g mk a) (Vm.Alike.refl U.vm) qK⟩, va_recv hK hP (ci := 4) (q := (RX2, TX2, 4)) (q0 := 1) rfl rfl, fun U hU hW => ⟨rfl, by rw [hU]; exact hPc, va_K.moved hW.alike hKc⟩⟩ rfl rfl hl.1 rfl (lv_room (Nat.le_of_ble_eq_true rfl)) dX11_bears_40 ⟨Nat.le_of_ble_eq_true rfl, Nat.le_of_ble_eq_true rfl⟩).run (fun r_21 hw_22 => ?_)
      obtain rfl := hw_22
      refine lv_bipush (v := (-5)) hx hb dX11_bears_43 (by decide) ?_
      refine lv_icmp_eq (tgt := 50) hx hb dX11_bears_45 (by decide) (fun c_23 => ?_) (fun c_23 => ?_)
      · skip
        have hA9 := be_dn (i := 8) hA9 (fun z9 => z9 ((show fwR _ n (nI j1) (nI j2) 0 = fsR (gRow n yk yv yc cz mi (nI 8)) n (nI j1) (nI j2) 0 from fw_row hn8 hj1 hj2 (b_0 _) hlO.B).symm.trans c_23))
        refine lv_iinc (v := 7) (lv' := [(3, .int 7), (0, .ref h0), (1, .int (nI j1)), (2, .int (nI j2))]) hx hb dX11_bears_50 hl (k := 0) rfl (by decide) (by decide) rfl (fun ls hl => ?_)
        refine lv_goto (tgt := 17) hx hb dX11_bears_53 (by decide) ?_
        refine lv_iload_n hx hb dX11_bears_17 rfl (lv_at hl 0 rfl) ?_
        refine lv_if_lt (tgt := 56) hx hb dX11_bears_18 (by decide) (fun c_24 => absurd c_24 (by decide)) (fun _ => ?_)
        refine lv_aload_n hx hb dX11_bears_21 rfl (lv_at hl 1 rfl) ?_
        refine va_get (D := (dC, dI)) (ci := 13) (v := .ref go) (C := RX11) (T := TX11) (N := 7) hx hb hts kc_xBears_0 hown hK hP 0 rfl rfl 4 (by decide) (hts (.fieldLink RX11 35 "MistHeaps" "goings" "LMistHeaps$Goings;") kc_xBears_2) (fun _ h9 => h9) rfl dX11_bears_22 ?_
        refine lv_aload_n hx hb dX11_bears_25 rfl (lv_at hl 1 rfl) ?_
        refine va_get (D := (dC, dI)) (ci := 13) (v := .ref sc) (C := RX11) (T := TX11) (N := 7) hx hb hts kc_xBears_0 hown hK hP 0 rfl rfl 0 (by decide) (hts (.fieldLink RX11 14 "MistHeaps" "scene" "LMistHeaps$Scene;") kc_xBears_1) (fun _ h9 => h9) rfl dX11_bears_26 ?_
        refine lv_iload_n hx hb dX11_bears_29 rfl (lv_at hl 0 rfl) ?_
        have hPc := hP.sub (ws' := [(zo4rrir go gR gO (nI n) gS), (zaI gR cR 8 fR9_18), (zaI gO cO 8 fO9_19), (zo10ririliiriririr sc aTp (nI ts) aHl (nI nh) ed mi sn aHs (nI n) aWk (nI wz) aBk (nI bz) aFc), (zaR aHs cHs 8 fHs), (zaI aFc cFc 6 fFc9_20)]) [1, 2, 3, 4, 5, 6] rfl
        have hDc := hD.sub (ws' := [(zo4rrir go gR gO (nI n) gS), (zaI gR cR 8 fR9_18), (zaI gO cO 8 fO9_19), (zo10ririliiriririr sc aTp (nI ts) aHl (nI nh) ed mi sn aHs (nI n) aWk (nI wz) aBk (nI bz) aFc), (zaR aHs cHs 8 fHs), (zaI aFc cFc 6 fFc9_20)]) [1, 2, 3, 4, 5, 6] (by decide) rfl
        have hKc := hK.sub (tys' := [(cR, .int), (cO, .int), (cHs, .object "MistHeaps$Heap"), (cFc, .int)]) [0, 1, 2, 3] rfl
        have hFc := va_free (wc := [(zo4rrir go gR gO (nI n) gS), (zaI gR cR 8 fR9_18), (zaI gO cO 8 fO9_19), (zo10ririliiriririr sc aTp (nI ts) aHl (nI nh) ed mi sn aHs (nI n) aWk (nI wz) aBk (nI bz) aFc), (zaR aHs cHs 8 fHs), (zaI aFc cFc 6 fFc9_20)]) hD hS hA [1, 2, 3, 4, 5, 6] rfl
        refine va_callv (va_runV (As := [.ref sc, .int 7]) (rest := []) ⟨hx, hb, hml, hown, hts⟩ (c_link l dC dI gd  kA   sc go aTp aHl aHs aWk aBk aFc bW bA bE bC gR gO gS ts nh n wz bz n cl mi sn sg cdd szz att nmb 7 ed cHs cFc cbW cbA cbE cbC cR cO fFc9_20 fbW fbA fbE fbC fR9_18 fO9_19 yk yv yc fHs yi ya tpv cz H.size (zhs) (hn8) (zcl) (zE) (zC) (zyv) (zyc) (zHC) (zyt)) (cwV 2 hts gX11_bears_X2_link rfl rfl rfl hd_yX2_link ⟨Nat.le_of_ble_eq_true rfl, Nat.le_of_ble_eq_true rfl⟩) ⟨fun a U g mk q => by obtain ⟨q0, q1, qP, qK, qD, qhG, qhW_, qhN_, qhZ, qhH_⟩ := q; exact ⟨q0, q1, qP, va_K.moved (u := U) (U := U.calling g mk a) (Vm.Alike.refl U.vm) qK, qD, qhG.same rfl rfl, qhW_.same rfl rfl, qhN_.same rfl rfl, qhZ.same rfl rfl, qhH_.same rfl rfl⟩, va_recv hK hP (ci := 4) (q := (RX2, TX2, 4)) (q0 := 1) rfl rfl, fun U hU hW => ⟨rfl, by rw [hU], by rw [hU]; exact hPc, va_K.moved hW.alike hKc, hDc.weaken (fun _ _ _ _ => trivial), hG.call hS hU hW (fun q h => hFc q h), hW_.call hS hU hW (fun q h => hFc q h), hN_.call hS hU hW (fun q h => hFc q h), (hZ.sub [0, 1, 2, 3, 4] [0, 1, 2, 3] rfl rfl).call hS hU hW (fun q h => hFc q h), hH_.call hS hU hW (fun q h => hFc q h)⟩⟩ rfl rfl hl.1 rfl (lv_room (Nat.le_of_ble_eq_true rfl)) dX11_bears_30 ⟨Nat.le_of_ble_eq_true rfl, Nat.le_of_ble_eq_true rfl⟩) hS (fun q _ h => hFc q h) hFc (fun u tC H1 locs htC hvm hw_26 hB hz1 hk1 hS => ?_)
        obtain ⟨lk9_27, fR9_28, fO9_29, fFc9_30⟩ := u
        try dsimp only at hw_26 hB
        obtain ⟨hP1, hK1, hD1⟩ := hB
        rw [htC] at hP1
        have hK1 := va_K.moved hvm.symm hK1
        obtain ⟨hP, hD⟩ := va_join (wr := [(zo13rrirrrr h0 sc kp ik bl go ch bo)]) (w1 := [(zo4rrir go gR gO (nI lk9_27) gS), (zaI gR cR 8 fR9_28), (zaI gO cO 8 fO9_29), (zo10ririliiriririr sc aTp (nI ts) aHl (nI nh) ed mi sn aHs (nI n) aWk (nI wz) aBk (nI bz) aFc), (zaR aHs cHs 8 fHs), (zaI aFc cFc 6 fFc9_30)]) hP hD [1, 2, 3, 4, 5, 6] [0] rfl rfl (by decide) (by decide) hk1 hFc hP1 hD1
        have hK := (hK.sub (tys' := []) [] rfl).app hK1
        generalize H1 = H at hP hS ⊢
        have hP : va_P (dC, dI) vwCl [(zo13rrirrrr h0 sc kp ik bl go ch bo), (zo4rrir go gR gO (nI lk9_27) gS), (zaI gR cR 8 fR9_28), (zaI gO cO 8 fO9_29), (zo10ririliiriririr sc aTp (nI ts) aHl (nI nh) ed mi sn aHs (nI n) aWk (nI wz) aBk (nI bz) aFc), (zaR aHs cHs 8 fHs), (zaI aFc cFc 6 fFc9_30)] H := hP
        have hD : va_D A [(zo13rrirrrr h0 sc kp ik bl go ch bo), (zo4rrir go gR gO (nI lk9_27) gS), (zaI gR cR 8 fR9_28), (zaI gO cO 8 fO9_29), (zo10ririliiriririr sc aTp (nI ts) aHl (nI nh) ed mi sn aHs (nI n) aWk (nI wz) aBk (nI bz) aFc), (zaR aHs cHs 8 fHs), (zaI aFc cFc 6 fFc9_30)] := hD
        have hK : va_K (dC, dI) vwCl [(cR, .int), (cO, .int), (cHs, .object "MistHeaps$Heap"), (cFc, .int)] s := hK
        obtain ⟨elk, hlR, hlO⟩ := hw_26
        obtain rfl := elk.symm
        refine lv_aload_n hx hb dX11_bears_33 rfl (lv_at hl 1 rfl) ?_
        refine va_get (D := (dC, dI)) (ci := 13) (v := .ref go) (C := RX11) (T := TX11) (N := 7) hx hb hts kc_xBears_0 hown hK hP 0 rfl rfl 4 (by decide) (hts (.fieldLink RX11 35 "MistHeaps" "goings" "LMistHeaps$Goings;") kc_xBears_2) (fun _ h9 => h9) rfl dX11_bears_34 ?_
        refine lv_iload_n hx hb dX11_bears_37 rfl (lv_at hl 2 rfl) ?_
        refine lv_iload_n hx hb dX11_bears_38 rfl (lv_at hl 3 rfl) ?_
        refine lv_iconst (v := 0) hx hb dX11_bears_39 (by decide) ?_
        have hPc := hP.sub (ws' := [(zo4rrir go gR gO (nI n) gS), (zaI gO cO 8 fO9_29)]) [1, 3] rfl
        have hKc := hK.sub (tys' := [(cO, .int)]) [1] rfl
        refine vp_callSi (va_runV (As := [.int (nI j1), .int (nI j2), .int 0]) (rest := []) ⟨hx, hb, hml, hown, hts⟩ (c_fewest l dC dI go gR gO gS n (nI j1) (nI j2) 0 cO fO9_29 (by omega)) (cwV 3 hts gX11_bears_X2_fewest rfl rfl rfl hd_yX2_fewest ⟨Nat.le_of_ble_eq_true rfl, Nat.le_of_ble_eq_true rfl⟩) ⟨fun a U g mk q => by obtain ⟨q0, qP, qK⟩ := q; exact ⟨q0, qP, va_K.moved (u := U) (U := U.calling g mk a) (Vm.Alike.refl U.vm) qK⟩, va_recv hK hP (ci := 4) (q := (RX2, TX2, 4)) (q0 := 1) rfl rfl, fun U hU hW => ⟨rfl, by rw [hU]; exact hPc, va_K.moved hW.alike hKc⟩⟩ rfl rfl hl.1 rfl (lv_room (Nat.le_of_ble_eq_true rfl)) dX11_bears_40 ⟨Nat.le_of_ble_eq_true rfl, Nat.le_of_ble_eq_true rfl⟩).run (fun r_31 hw_32 => ?_)
        obtain rfl := hw_32
        refine lv_bipush (v := (-5)) hx hb dX11_bears_43 (by decide) ?_
        refine lv_icmp_eq (tgt := 50) hx hb dX11_bears_45 (by decide) (fun c_33 => ?_) (fun c_33 => ?_)
        · skip
          have hA9 := be_dn (i := 7) hA9 (fun z9 => z9 ((show fwR _ n (nI j1) (nI j2) 0 = fsR (gRow n yk yv yc cz mi (nI 7)) n (nI j1) (nI j2) 0 from fw_row hn8 hj1 hj2 (b_0 _) hlO.B).symm.trans c_33))
          refine lv_iinc (v := 6) (lv' := [(3, .int 6), (0, .ref h0), (1, .int (nI j1)), (2, .int (nI j2))]) hx hb dX11_bears_50 hl (k := 0) rfl (by decide) (by decide) rfl (fun ls hl => ?_)
          refine lv_goto (tgt := 17) hx hb dX11_bears_53 (by decide) ?_
          refine lv_iload_n hx hb dX11_bears_17 rfl (lv_at hl 0 rfl) ?_
          refine lv_if_lt (tgt := 56) hx hb dX11_bears_18 (by decide) (fun c_34 => absurd c_34 (by decide)) (fun _ => ?_)
          refine lv_aload_n hx hb dX11_bears_21 rfl (lv_at hl 1 rfl) ?_
          refine va_get (D := (dC, dI)) (ci := 13) (v := .ref go) (C := RX11) (T := TX11) (N := 7) hx hb hts kc_xBears_0 hown hK hP 0 rfl rfl 4 (by decide) (hts (.fieldLink RX11 35 "MistHeaps" "goings" "LMistHeaps$Goings;") kc_xBears_2) (fun _ h9 => h9) rfl dX11_bears_22 ?_
          refine lv_aload_n hx hb dX11_bears_25 rfl (lv_at hl 1 rfl) ?_
          refine va_get (D := (dC, dI)) (ci := 13) (v := .ref sc) (C := RX11) (T := TX11) (N := 7) hx hb hts kc_xBears_0 hown hK hP 0 rfl rfl 0 (by decide) (hts (.fieldLink RX11 14 "MistHeaps" "scene" "LMistHeaps$Scene;") kc_xBears_1) (fun _ h9 => h9) rfl dX11_bears_26 ?_
          refine lv_iload_n hx hb dX11_bears_29 rfl (lv_at hl 0 rfl) ?_
          have hPc := hP.sub (ws' := [(zo4rrir go gR gO (nI n) gS), (zaI gR cR 8 fR9_28), (zaI gO cO 8 fO9_29), (zo10ririliiriririr sc aTp (nI ts) aHl (nI nh) ed mi sn aHs (nI n) aWk (nI wz) aBk (nI bz) aFc), (zaR aHs cHs 8 fHs), (zaI aFc cFc 6 fFc9_30)]) [1, 2, 3, 4, 5, 6] rfl
          have hDc := hD.sub (ws' := [(zo4rrir go gR gO (nI n) gS), (zaI gR cR 8 fR9_28), (zaI gO cO 8 fO9_29), (zo10ririliiriririr sc aTp (nI ts) aHl (nI nh) ed mi sn aHs (nI n) aWk (nI wz) aBk (nI bz) aFc), (zaR aHs cHs 8 fHs), (zaI aFc cFc 6 fFc9_30)]) [1, 2, 3, 4, 5, 6] (by decide) rfl
          have hKc := hK.sub (tys' := [(cR, .int), (cO, .int), (cHs, .object "MistHeaps$Heap"), (cFc, .int)]) [0, 1, 2, 3] rfl
          have hFc := va_free (wc := [(zo4rrir go gR gO (nI n) gS), (zaI gR cR 8 fR9_28), (zaI gO cO 8 fO9_29), (zo10ririliiriririr sc aTp (nI ts) aHl (nI nh) ed mi sn aHs (nI n) aWk (nI wz) aBk (nI bz) aFc), (zaR aHs cHs 8 fHs), (zaI aFc cFc 6 fFc9_30)]) hD hS hA [1, 2, 3, 4, 5, 6] rfl
          refine va_callv (va_runV (As := [.ref sc, .int 6]) (rest := []) ⟨hx, hb, hml, hown, hts⟩ (c_link l dC dI gd  kA   sc go aTp aHl aHs aWk aBk aFc bW bA bE bC gR gO gS ts nh n wz bz n cl mi sn sg cdd szz att nmb 6 ed cHs cFc cbW cbA cbE cbC cR cO fFc9_30 fbW fbA fbE fbC fR9_28 fO9_29 yk yv yc fHs yi ya tpv cz H.size (zhs) (hn8) (zcl) (zE) (zC) (zyv) (zyc) (zHC) (zyt)) (cwV 2 hts gX11_bears_X2_link rfl rfl rfl hd_yX2_link ⟨Nat.le_of_ble_eq_true rfl, Nat.le_of_ble_eq_true rfl⟩) ⟨fun a U g mk q => by obtain ⟨q0, q1, qP, qK, qD, qhG, qhW_, qhN_, qhZ, qhH_⟩ := q; exact ⟨q0, q1, qP, va_K.moved (u := U) (U := U.calling g mk a) (Vm.Alike.refl U.vm) qK, qD, qhG.same rfl rfl, qhW_.same rfl rfl, qhN_.same rfl rfl, qhZ.same rfl rfl, qhH_.same rfl rfl⟩, va_recv hK hP (ci := 4) (q := (RX2, TX2, 4)) (q0 := 1) rfl rfl, fun U hU hW => ⟨rfl, by rw [hU], by rw [hU]; exact hPc, va_K.moved hW.alike hKc, hDc.weaken (fun _ _ _ _ => trivial), hG.call hS hU hW (fun q h => hFc q h), hW_.call hS hU hW (fun q h => hFc q h), hN_.call hS hU hW (fun q h => hFc q h), (hZ.sub [0, 1, 2, 3, 4] [0, 1, 2, 3] rfl rfl).call hS hU hW (fun q h => hFc q h), hH_.call hS hU hW (fun q h => hFc q h)⟩⟩ rfl rfl hl.1 rfl (lv_room (Nat.le_of_ble_eq_true rfl)) dX11_bears_30 ⟨Nat.le_of_ble_eq_true rfl, Nat.le_of_ble_eq_true rfl⟩) hS (fun q _ h => hFc q h) hFc (fun u tC H1 locs htC hvm hw_36 hB hz1 hk1 hS => ?_)
          obtain ⟨lk9_37, fR9_38, fO9_39, fFc9_40⟩ := u
          try dsimp only at hw_36 hB
          obtain ⟨hP1, hK1, hD1⟩ := hB
          rw [htC] at hP1
          have hK1 := va_K.moved hvm.symm hK1
          obtain ⟨hP, hD⟩ := va_join (wr := [(zo13rrirrrr h0 sc kp ik bl go ch bo)]) (w1 := [(zo4rrir go gR gO (nI lk9_37) gS), (zaI gR cR 8 fR9_38), (zaI gO cO 8 fO9_39), (zo10ririliiriririr sc aTp (nI ts) aHl (nI nh) ed mi sn aHs (nI n) aWk (nI wz) aBk (nI bz) aFc), (zaR aHs cHs 8 fHs), (zaI aFc cFc 6 fFc9_40)]) hP hD [1, 2, 3, 4, 5, 6] [0] rfl rfl (by decide) (by decide) hk1 hFc hP1 hD1
          have hK := (hK.sub (tys' := []) [] rfl).app hK1
          generalize H1 = H at hP hS ⊢
          have hP : va_P (dC, dI) vwCl [(zo13rrirrrr h0 sc kp ik bl go ch bo), (zo4rrir go gR gO (nI lk9_37) gS), (zaI gR cR 8 fR9_38), (zaI gO cO 8 fO9_39), (zo10ririliiriririr sc aTp (nI ts) aHl (nI nh) ed mi sn aHs (nI n) aWk (nI wz) aBk (nI bz) aFc), (zaR aHs cHs 8 fHs), (zaI aFc cFc 6 fFc9_40)] H := hP
          have hD : va_D A [(zo13rrirrrr h0 sc kp ik bl go ch bo), (zo4rrir go gR gO (nI lk9_37) gS), (zaI gR cR 8 fR9_38), (zaI gO cO 8 fO9_39), (zo10ririliiriririr sc aTp (nI ts) aHl (nI nh) ed mi sn aHs (nI n) aWk (nI wz) aBk (nI bz) aFc), (zaR aHs cHs 8 fHs), (zaI aFc cFc 6 fFc9_40)] := hD
          have hK : va_K (dC, dI) vwCl [(cR, .int), (cO, .int), (cHs, .object "MistHeaps$Heap"), (cFc, .int)] s := hK
          obtain ⟨elk, hlR, hlO⟩ := hw_36
          obtain rfl := elk.symm
          refine lv_aload_n hx hb dX11_bears_33 rfl (lv_at hl 1 rfl) ?_
          refine va_get (D := (dC, dI)) (ci := 13) (v := .ref go) (C := RX11) (T := TX11) (N := 7) hx hb hts kc_xBears_0 hown hK hP 0 rfl rfl 4 (by decide) (hts (.fieldLink RX11 35 "MistHeaps" "goings" "LMistHeaps$Goings;") kc_xBears_2) (fun _ h9 => h9) rfl dX11_bears_34 ?_
          refine lv_iload_n hx hb dX11_bears_37 rfl (lv_at hl 2 rfl) ?_
          refine lv_iload_n hx hb dX11_bears_38 rfl (lv_at hl 3 rfl) ?_
          refine lv_iconst (v := 0) hx hb dX11_bears_39 (by decide) ?_
          have hPc := hP.sub (ws' := [(zo4rrir go gR gO (nI n) gS), (zaI gO cO 8 fO9_39)]) [1, 3] rfl
          have hKc := hK.sub (tys' := [(cO, .int)]) [1] rfl
          refine vp_callSi (va_runV (As := [.int (nI j1), .int (nI j2), .int 0]) (rest := []) ⟨hx, hb, hml, hown, hts⟩ (c_fewest l dC dI go gR gO gS n (nI j1) (nI j2) 0 cO fO9_39 (by omega)) (cwV 3 hts gX11_bears_X2_fewest rfl rfl rfl hd_yX2_fewest ⟨Nat.le_of_ble_eq_true rfl, Nat.le_of_ble_eq_true rfl⟩) ⟨fun a U g mk q => by obtain ⟨q0, qP, qK⟩ := q; exact ⟨q0, qP, va_K.moved (u := U) (U := U.calling g mk a) (Vm.Alike.refl U.vm) qK⟩, va_recv hK hP (ci := 4) (q := (RX2, TX2, 4)) (q0 := 1) rfl rfl, fun U hU hW => ⟨rfl, by rw [hU]; exact hPc, va_K.moved hW.alike hKc⟩⟩ rfl rfl hl.1 rfl (lv_room (Nat.le_of_ble_eq_true rfl)) dX11_bears_40 ⟨Nat.le_of_ble_eq_true rfl, Nat.le_of_ble_eq_true rfl⟩).run (fun r_41 hw_42 => ?_)
          obtain rfl := hw_42
          refine lv_bipush (v := (-5)) hx hb dX11_bears_43 (by decide) ?_
          refine lv_icmp_eq (tgt := 50) hx hb dX11_bears_45 (by decide) (fun c_43 => ?_) (fun c_43 => ?_)
          · skip
            have hA9 := be_dn (i := 6) hA9 (fun z9 => z9 ((show fwR _ n (nI j1) (nI j2) 0 = fsR (gRow n yk yv yc cz mi (nI 6)) n (nI j1) (nI j2) 0 from fw_row hn8 hj1 hj2 (b_0 _) hlO.B).symm.trans c_43))
            refine lv_iinc (v := 5) (lv' := [(3, .int 5), (0, .ref h0), (1, .int (nI j1)), (2, .int (nI j2))]) hx hb dX11_bears_50 hl (k := 0) rfl (by decide) (by decide) rfl (fun ls hl => ?_)
            refine lv_goto (tgt := 17) hx hb dX11_bears_53 (by decide) ?_
            refine lv_iload_n hx hb dX11_bears_17 rfl (lv_at hl 0 rfl) ?_
            refine lv_if_lt (tgt := 56) hx hb dX11_bears_18 (by decide) (fun c_44 => absurd c_44 (by decide)) (fun _ => ?_)
            refine lv_aload_n hx hb dX11_bears_21 rfl (lv_at hl 1 rfl) ?_
            refine va_get (D := (dC, dI)) (ci := 13) (v := .ref go) (C := RX11) (T := TX11) (N := 7) hx hb hts kc_xBears_0 hown hK hP 0 rfl rfl 4 (by decide) (hts (.fieldLink RX11 35 "MistHeaps" "goings" "LMistHeaps$Goings;") kc_xBears_2) (fun _ h9 => h9) rfl dX11_bears_22 ?_
            refine lv_aload_n hx hb dX11_bears_25 rfl (lv_at hl 1 rfl) ?_
            refine va_get (D := (dC, dI)) (ci := 13) (v := .ref sc) (C := RX11) (T := TX11) (N := 7) hx hb hts kc_xBears_0 hown hK hP 0 rfl rfl 0 (by decide) (hts (.fieldLink RX11 14 "MistHeaps" "scene" "LMistHeaps$Scene;") kc_xBears_1) (fun _ h9 => h9) rfl dX11_bears_26 ?_
            refine lv_iload_n hx hb dX11_bears_29 rfl (lv_at hl 0 rfl) ?_
            have hPc := hP.sub (ws' := [(zo4rrir go gR gO (nI n) gS), (zaI gR cR 8 fR9_38), (zaI gO cO 8 fO9_39), (zo10ririliiriririr sc aTp (nI ts) aHl (nI nh) ed mi sn aHs (nI n) aWk (nI wz) aBk (nI bz) aFc), (zaR aHs cHs 8 fHs), (zaI aFc cFc 6 fFc9_40)]) [1, 2, 3, 4, 5, 6] rfl
            have hDc := hD.sub (ws' := [(zo4rrir go gR gO (nI n) gS), (zaI gR cR 8 fR9_38), (zaI gO cO 8 fO9_39), (zo10ririliiriririr sc aTp (nI ts) aHl (nI nh) ed mi sn aHs (nI n) aWk (nI wz) aBk (nI bz) aFc), (zaR aHs cHs 8 fHs), (zaI aFc cFc 6 fFc9_40)]) [1, 2, 3, 4, 5, 6] (by decide) rfl
            have hKc := hK.sub (tys' := [(cR, .int), (cO, .int), (cHs, .object "MistHeaps$Heap"), (cFc, .int)]) [0, 1, 2, 3] rfl
            have hFc := va_free (wc := [(zo4rrir go gR gO (nI n) gS), (zaI gR cR 8 fR9_38), (zaI gO cO 8 fO9_39), (zo10ririliiriririr sc aTp (nI ts) aHl (nI nh) ed mi sn aHs (nI n) aWk (nI wz) aBk (nI bz) aFc), (zaR aHs cHs 8 fHs), (zaI aFc cFc 6 fFc9_40)]) hD hS hA [1, 2, 3, 4, 5, 6] rfl
            refine va_callv (va_runV (As := [.ref sc, .int 5]) (rest := []) ⟨hx, hb, hml, hown, hts⟩ (c_link l dC dI gd  kA   sc go aTp aHl aHs aWk aBk aFc bW bA bE bC gR gO gS ts nh n wz bz n cl mi sn sg cdd szz att nmb 5 ed cHs cFc cbW cbA cbE cbC cR cO fFc9_40 fbW fbA fbE fbC fR9_38 fO9_39 yk yv yc fHs yi ya tpv cz H.size (zhs) (hn8) (zcl) (zE) (zC) (zyv) (zyc) (zHC) (zyt)) (cwV 2 hts gX11_bears_X2_link rfl rfl rfl hd_yX2_link ⟨Nat.le_of_ble_eq_true rfl, Nat.le_of_ble_eq_true rfl⟩) ⟨fun a U g mk q => by obtain ⟨q0, q1, qP, qK, qD, qhG, qhW_, qhN_, qhZ, qhH_⟩ := q; exact ⟨q0, q1, qP, va_K.moved (u := U) (U := U.calling g mk a) (Vm.Alike.refl U.vm) qK, qD, qhG.same rfl rfl, qhW_.same rfl rfl, qhN_.same rfl rfl, qhZ.same rfl rfl, qhH_.same rfl rfl⟩, va_recv hK hP (ci := 4) (q := (RX2, TX2, 4)) (q0 := 1) rfl rfl, fun U hU hW => ⟨rfl, by rw [hU], by rw [hU]; exact hPc, va_K.moved hW.alike hKc, hDc.weaken (fun _ _ _ _ => trivial), hG.call hS hU hW (fun q h => hFc q h), hW_.call hS hU hW (fun q h => hFc q h), hN_.call hS hU hW (fun q h => hFc q h), (hZ.sub [0, 1, 2, 3, 4] [0, 1, 2, 3] rfl rfl).call hS hU hW (fun q h => hFc q h), hH_.call hS hU hW (fun q h => hFc q h)⟩⟩ rfl rfl hl.1 rfl (lv_room (Nat.le_of_ble_eq_true rfl)) dX11_bears_30 ⟨Nat.le_of_ble_eq_true rfl, Nat.le_of_ble_eq_true rfl⟩) hS (fun q _ h => hFc q h) hFc (fun u tC H1 locs htC hvm hw_46 hB hz1 hk1 hS => ?_)
            obtain ⟨lk9_47, fR9_48, fO9_49, fFc9_50⟩ := u
            try dsimp only at hw_46 hB
            obtain ⟨hP1, hK1, hD1⟩ := hB
            rw [htC] at hP1
            have hK1 := va_K.moved hvm.symm hK1
            obtain ⟨hP, hD⟩ := va_join (wr := [(zo13rrirrrr h0 sc kp ik bl go ch bo)]) (w1 := [(zo4rrir go gR gO (nI lk9_47) gS), (zaI gR cR 8 fR9_48), (zaI gO cO 8 fO9_49), (zo10ririliiriririr sc aTp (nI ts) aHl (nI nh) ed mi sn aHs (nI n) aWk (nI wz) aBk (nI bz) aFc), (zaR aHs cHs 8 fHs), (zaI aFc cFc 6 fFc9_50)]) hP hD [1, 2, 3, 4, 5, 6] [0] rfl rfl (by decide) (by decide) hk1 hFc hP1 hD1
            have hK := (hK.sub (tys' := []) [] rfl).app hK1
            generalize H1 = H at hP hS ⊢
            have hP : va_P (dC, dI) vwCl [(zo13rrirrrr h0 sc kp ik bl go ch bo), (zo4rrir go gR gO (nI lk9_47) gS), (zaI gR cR 8 fR9_48), (zaI gO cO 8 fO9_49), (zo10ririliiriririr sc aTp (nI ts) aHl (nI nh) ed mi sn aHs (nI n) aWk (nI wz) aBk (nI bz) aFc), (zaR aHs cHs 8 fHs), (zaI aFc cFc 6 fFc9_50)] H := hP
            have hD : va_D A [(zo13rrirrrr h0 sc kp ik bl go ch bo), (zo4rrir go gR gO (nI lk9_47) gS), (zaI gR cR 8 fR9_48), (zaI gO cO 8 fO9_49), (zo10ririliiriririr sc aTp (nI ts) aHl (nI nh) ed mi sn aHs (nI n) aWk (nI wz) aBk (nI bz) aFc), (zaR aHs cHs 8 fHs), (zaI aFc cFc 6 fFc9_50)] := hD
            have hK : va_K (dC, dI) vwCl [(cR, .int), (cO, .int), (cHs, .object "MistHeaps$Heap"), (cFc, .int)] s := hK
            obtain ⟨elk, hlR, hlO⟩ := hw_46
            obtain rfl := elk.symm
            refine lv_aload_n hx hb dX11_bears_33 rfl (lv_at hl 1 rfl) ?_
            refine va_get (D := (dC, dI)) (ci := 13) (v := .ref go) (C := RX11) (T := TX11) (N := 7) hx hb hts kc_xBears_0 hown hK hP 0 rfl rfl 4 (by decide) (hts (.fieldLink RX11 35 "MistHeaps" "goings" "LMistHeaps$Goings;") kc_xBears_2) (fun _ h9 => h9) rfl dX11_bears_34 ?_
            refine lv_iload_n hx hb dX11_bears_37 rfl (lv_at hl 2 rfl) ?_
            refine lv_iload_n hx hb dX11_bears_38 rfl (lv_at hl 3 rfl) ?_
            refine lv_iconst (v := 0) hx hb dX11_bears_39 (by decide) ?_
            have hPc := hP.sub (ws' := [(zo4rrir go gR gO (nI n) gS), (zaI gO cO 8 fO9_49)]) [1, 3] rfl
            have hKc := hK.sub (tys' := [(cO, .int)]) [1] rfl
            refine vp_callSi (va_runV (As := [.int (nI j1), .int (nI j2), .int 0]) (rest := []) ⟨hx, hb, hml, hown, hts⟩ (c_fewest l dC dI go gR gO gS n (nI j1) (nI j2) 0 cO fO9_49 (by omega)) (cwV 3 hts gX11_bears_X2_fewest rfl rfl rfl hd_yX2_fewest ⟨Nat.le_of_ble_eq_true rfl, Nat.le_of_ble_eq_true rfl⟩) ⟨fun a U g mk q => by obtain ⟨q0, qP, qK⟩ := q; exact ⟨q0, qP, va_K.moved (u := U) (U := U.calling g mk a) (Vm.Alike.refl U.vm) qK⟩, va_recv hK hP (ci := 4) (q := (RX2, TX2, 4)) (q0 := 1) rfl rfl, fun U hU hW => ⟨rfl, by rw [hU]; exact hPc, va_K.moved hW.alike hKc⟩⟩ rfl rfl hl.1 rfl (lv_room (Nat.le_of_ble_eq_true rfl)) dX11_bears_40 ⟨Nat.le_of_ble_eq_true rfl, Nat.le_of_ble_eq_true rfl⟩).run (fun r_51 hw_52 => ?_)
            obtain rfl := hw_52
            refine lv_bipush (v := (-5)) hx hb dX11_bears_43 (by decide) ?_
            refine lv_icmp_eq (tgt := 50) hx hb dX11_bears_45 (by decide) (fun c_53 => ?_) (fun c_53 => ?_)
            · skip
              have hA9 := be_dn (i := 5) hA9 (fun z9 => z9 ((show fwR _ n (nI j1) (nI j2) 0 = fsR (gRow n yk yv yc cz mi (nI 5)) n (nI j1) (nI j2) 0 from fw_row hn8 hj1 hj2 (b_0 _) hlO.B).symm.trans c_53))
              refine lv_iinc (v := 4) (lv' := [(3, .int 4), (0, .ref h0), (1, .int (nI j1)), (2, .int (nI j2))]) hx hb dX11_bears_50 hl (k := 0) rfl (by decide) (by decide) rfl (fun ls hl => ?_)
              refine lv_goto (tgt := 17) hx hb dX11_bears_53 (by decide) ?_
              refine lv_iload_n hx hb dX11_bears_17 rfl (lv_at hl 0 rfl) ?_
              refine lv_if_lt (tgt := 56) hx hb dX11_bears_18 (by decide) (fun c_54 => absurd c_54 (by decide)) (fun _ => ?_)
              refine lv_aload_n hx hb dX11_bears_21 rfl (lv_at hl 1 rfl) ?_
              refine va_get (D := (dC, dI)) (ci := 13) (v := .ref go) (C := RX11) (T := TX11) (N := 7) hx hb hts kc_xBears_0 hown hK hP 0 rfl rfl 4 (by decide) (hts (.fieldLink RX11 35 "MistHeaps" "goings" "LMistHeaps$Goings;") kc_xBears_2) (fun _ h9 => h9) rfl dX11_bears_22 ?_
              refine lv_aload_n hx hb dX11_bears_25 rfl (lv_at hl 1 rfl) ?_
              refine va_get (D := (dC, dI)) (ci := 13) (v := .ref sc) (C := RX11) (T := TX11) (N := 7) hx hb hts kc_xBears_0 hown hK hP 0 rfl rfl 0 (by decide) (hts (.fieldLink RX11 14 "MistHeaps" "scene" "LMistHeaps$Scene;") kc_xBears_1) (fun _ h9 => h9) rfl dX11_bears_26 ?_
              refine lv_iload_n hx hb dX11_bears_29 rfl (lv_at hl 0 rfl) ?_
              have hPc := hP.sub (ws' := [(zo4rrir go gR gO (nI n) gS), (zaI gR cR 8 fR9_48), (zaI gO cO 8 fO9_49), (zo10ririliiriririr sc aTp (nI ts) aHl (nI nh) ed mi sn aHs (nI n) aWk (nI wz) aBk (nI bz) aFc), (zaR aHs cHs 8 fHs), (zaI aFc cFc 6 fFc9_50)]) [1, 2, 3, 4, 5, 6] rfl
              have hDc := hD.sub (ws' := [(zo4rrir go gR gO (nI n) gS), (zaI gR cR 8 fR9_48), (zaI gO cO 8 fO9_49), (zo10ririliiriririr sc aTp (nI ts) aHl (nI nh) ed mi sn aHs (nI n) aWk (nI wz) aBk (nI bz) aFc), (zaR aHs cHs 8 fHs), (zaI aFc cFc 6 fFc9_50)]) [1, 2, 3, 4, 5, 6] (by decide) rfl
              have hKc := hK.sub (tys' := [(cR, .int), (cO, .int), (cHs, .object "MistHeaps$Heap"), (cFc, .int)]) [0, 1, 2, 3] rfl
              have hFc := va_free (wc := [(zo4rrir go gR gO (nI n) gS), (zaI gR cR 8 fR9_48), (zaI gO cO 8 fO9_49), (zo10ririliiriririr sc aTp (nI ts) aHl (nI nh) ed mi sn aHs (nI n) aWk (nI wz) aBk (nI bz) aFc), (zaR aHs cHs 8 fHs), (zaI aFc cFc 6 fFc9_50)]) hD hS hA [1, 2, 3, 4, 5, 6] rfl
              refine va_callv (va_runV (As := [.ref sc, .int 4]) (rest := []) ⟨hx, hb, hml, hown, hts⟩ (c_link l dC dI gd  kA   sc go aTp aHl aHs aWk aBk aFc bW bA bE bC gR gO gS ts nh n wz bz n cl mi sn sg cdd szz att nmb 4 ed cHs cFc cbW cbA cbE cbC cR cO fFc9_50 fbW fbA fbE fbC fR9_48 fO9_49 yk yv yc fHs yi ya tpv cz H.size (zhs) (hn8) (zcl) (zE) (zC) (zyv) (zyc) (zHC) (zyt)) (cwV 2 hts gX11_bears_X2_link rfl rfl rfl hd_yX2_link ⟨Nat.le_of_ble_eq_true rfl, Nat.le_of_ble_eq_true rfl⟩) ⟨fun a U g mk q => by obtain ⟨q0, q1, qP, qK, qD, qhG, qhW_, qhN_, qhZ, qhH_⟩ := q; exact ⟨q0, q1, qP, va_K.moved (u := U) (U := U.calling g mk a) (Vm.Alike.refl U.vm) qK, qD, qhG.same rfl rfl, qhW_.same rfl rfl, qhN_.same rfl rfl, qhZ.same rfl rfl, qhH_.same rfl rfl⟩, va_recv hK hP (ci := 4) (q := (RX2, TX2, 4)) (q0 := 1) rfl rfl, fun U hU hW => ⟨rfl, by rw [hU], by rw [hU]; exact hPc, va_K.moved hW.alike hKc, hDc.weaken (fun _ _ _ _ => trivial), hG.call hS hU hW (fun q h => hFc q h), hW_.call hS hU hW (fun q h => hFc q h), hN_.call hS hU hW (fun q h => hFc q h), (hZ.sub [0, 1, 2, 3, 4] [0, 1, 2, 3] rfl rfl).call hS hU hW (fun q h => hFc q h), hH_.call hS hU hW (fun q h => hFc q h)⟩⟩ rfl rfl hl.1 rfl (lv_room (Nat.le_of_ble_eq_true rfl)) dX11_bears_30 ⟨Nat.le_of_ble_eq_true rfl, Nat.le_of_ble_eq_true rfl⟩) hS (fun q _ h => hFc q h) hFc (fun u tC H1 locs htC hvm hw_56 hB hz1 hk1 hS => ?_)
              obtain ⟨lk9_57, fR9_58, fO9_59, fFc9_60⟩ := u
              try dsimp only at hw_56 hB
              obtain ⟨hP1, hK1, hD1⟩ := hB
              rw [htC] at hP1
              have hK1 := va_K.moved hvm.symm hK1
              obtain ⟨hP, hD⟩ := va_join (wr := [(zo13rrirrrr h0 sc kp ik bl go ch bo)]) (w1 := [(zo4rrir go gR gO (nI lk9_57) gS), (zaI gR cR 8 fR9_58), (zaI gO cO 8 fO9_59), (zo10ririliiriririr sc aTp (nI ts) aHl (nI nh) ed mi sn aHs (nI n) aWk (nI wz) aBk (nI bz) aFc), (zaR aHs cHs 8 fHs), (zaI aFc cFc 6 fFc9_60)]) hP hD [1, 2, 3, 4, 5, 6] [0] rfl rfl (by decide) (by decide) hk1 hFc hP1 hD1
              have hK := (hK.sub (tys' := []) [] rfl).app hK1
              generalize H1 = H at hP hS ⊢
              have hP : va_P (dC, dI) vwCl [(zo13rrirrrr h0 sc kp ik bl go ch bo), (zo4rrir go gR gO (nI lk9_57) gS), (zaI gR cR 8 fR9_58), (zaI gO cO 8 fO9_59), (zo10ririliiriririr sc aTp (nI ts) aHl (nI nh) ed mi sn aHs (nI n) aWk (nI wz) aBk (nI bz) aFc), (zaR aHs cHs 8 fHs), (zaI aFc cFc 6 fFc9_60)] H := hP
              have hD : va_D A [(zo13rrirrrr h0 sc kp ik bl go ch bo), (zo4rrir go gR gO (nI lk9_57) gS), (zaI gR cR 8 fR9_58), (zaI gO cO 8 fO9_59), (zo10ririliiriririr sc aTp (nI ts) aHl (nI nh) ed mi sn aHs (nI n) aWk (nI wz) aBk (nI bz) aFc), (zaR aHs cHs 8 fHs), (zaI aFc cFc 6 fFc9_60)] := hD
              have hK : va_K (dC, dI) vwCl [(cR, .int), (cO, .int), (cHs, .object "MistHeaps$Heap"), (cFc, .int)] s := hK
              obtain ⟨elk, hlR, hlO⟩ := hw_56
              obtain rfl := elk.symm
              refine lv_aload_n hx hb dX11_bears_33 rfl (lv_at hl 1 rfl) ?_
              refine va_get (D := (dC, dI)) (ci := 13) (v := .ref go) (C := RX11) (T := TX11) (N := 7) hx hb hts kc_xBears_0 hown hK hP 0 rfl rfl 4 (by decide) (hts (.fieldLink RX11 35 "MistHeaps" "goings" "LMistHeaps$Goings;") kc_xBears_2) (fun _ h9 => h9) rfl dX11_bears_34 ?_
              refine lv_iload_n hx hb dX11_bears_37 rfl (lv_at hl 2 rfl) ?_
              refine lv_iload_n hx hb dX11_bears_38 rfl (lv_at hl 3 rfl) ?_
              refine lv_iconst (v := 0) hx hb dX11_bears_39 (by decide) ?_
              have hPc := hP.sub (ws' := [(zo4rrir go gR gO (nI n) gS), (zaI gO cO 8 fO9_59)]) [1, 3] rfl
              have hKc := hK.sub (tys' := [(cO, .int)]) [1] rfl
              refine vp_callSi (va_runV (As := [.int (nI j1), .int (nI j2), .int 0]) (rest := []) ⟨hx, hb, hml, hown, hts⟩ (c_fewest l dC dI go gR gO gS n (nI j1) (nI j2) 0 cO fO9_59 (by omega)) (cwV 3 hts gX11_bears_X2_fewest rfl rfl rfl hd_yX2_fewest ⟨Nat.le_of_ble_eq_true rfl, Nat.le_of_ble_eq_true rfl⟩) ⟨fun a U g mk q => by obtain ⟨q0, qP, qK⟩ := q; exact ⟨q0, qP, va_K.moved (u := U) (U := U.calling g mk a) (Vm.Alike.refl U.vm) qK⟩, va_recv hK hP (ci := 4) (q := (RX2, TX2, 4)) (q0 := 1) rfl rfl, fun U hU hW => ⟨rfl, by rw [hU]; exact hPc, va_K.moved hW.alike hKc⟩⟩ rfl rfl hl.1 rfl (lv_room (Nat.le_of_ble_eq_true rfl)) dX11_bears_40 ⟨Nat.le_of_ble_eq_true rfl, Nat.le_of_ble_eq_true rfl⟩).run (fun r_61 hw_62 => ?_)
              obtain rfl := hw_62
              refine lv_bipush (v := (-5)) hx hb dX11_bears_43 (by decide) ?_
              refine lv_icmp_eq (tgt := 50) hx hb dX11_bears_45 (by decide) (fun c_63 => ?_) (fun c_63 => ?_)
              · skip
                have hA9 := be_dn (i := 4) hA9 (fun z9 => z9 ((show fwR _ n (nI j1) (nI j2) 0 = fsR (gRow n yk yv yc cz mi (nI 4)) n (nI j1) (nI j2) 0 from fw_row hn8 hj1 hj2 (b_0 _) hlO.B).symm.trans c_63))
                refine lv_iinc (v := 3) (lv' := [(3, .int 3), (0, .ref h0), (1, .int (nI j1)), (2, .int (nI j2))]) hx hb dX11_bears_50 hl (k := 0) rfl (by decide) (by decide) rfl (fun ls hl => ?_)
                refine lv_goto (tgt := 17) hx hb dX11_bears_53 (by decide) ?_
                refine lv_iload_n hx hb dX11_bears_17 rfl (lv_at hl 0 rfl) ?_
                refine lv_if_lt (tgt := 56) hx hb dX11_bears_18 (by decide) (fun c_64 => absurd c_64 (by decide)) (fun _ => ?_)
                refine lv_aload_n hx hb dX11_bears_21 rfl (lv_at hl 1 rfl) ?_
                refine va_get (D := (dC, dI)) (ci := 13) (v := .ref go) (C := RX11) (T := TX11) (N := 7) hx hb hts kc_xBears_0 hown hK hP 0 rfl rfl 4 (by decide) (hts (.fieldLink RX11 35 "MistHeaps" "goings" "LMistHeaps$Goings;") kc_xBears_2) (fun _ h9 => h9) rfl dX11_bears_22 ?_
                refine lv_aload_n hx hb dX11_bears_25 rfl (lv_at hl 1 rfl) ?_
                refine va_get (D := (dC, dI)) (ci := 13) (v := .ref sc) (C := RX11) (T := TX11) (N := 7) hx hb hts kc_xBears_0 hown hK hP 0 rfl rfl 0 (by decide) (hts (.fieldLink RX11 14 "MistHeaps" "scene" "LMistHeaps$Scene;") kc_xBears_1) (fun _ h9 => h9) rfl dX11_bears_26 ?_
                refine lv_iload_n hx hb dX11_bears_29 rfl (lv_at hl 0 rfl) ?_
                have hPc := hP.sub (ws' := [(zo4rrir go gR gO (nI n) gS), (zaI gR cR 8 fR9_58), (zaI gO cO 8 fO9_59), (zo10ririliiriririr sc aTp (nI ts) aHl (nI nh) ed mi sn aHs (nI n) aWk (nI wz) aBk (nI bz) aFc), (zaR aHs cHs 8 fHs), (zaI aFc cFc 6 fFc9_60)]) [1, 2, 3, 4, 5, 6] rfl
                have hDc := hD.sub (ws' := [(zo4rrir go gR gO (nI n) gS), (zaI gR cR 8 fR9_58), (zaI gO cO 8 fO9_59), (zo10ririliiriririr sc aTp (nI ts) aHl (nI nh) ed mi sn aHs (nI n) aWk (nI wz) aBk (nI bz) aFc), (zaR aHs cHs 8 fHs), (zaI aFc cFc 6 fFc9_60)]) [1, 2, 3, 4, 5, 6] (by decide) rfl
                have hKc := hK.sub (tys' := [(cR, .int), (cO, .int), (cHs, .object "MistHeaps$Heap"), (cFc, .int)]) [0, 1, 2, 3] rfl
                have hFc := va_free (wc := [(zo4rrir go gR gO (nI n) gS), (zaI gR cR 8 fR9_58), (zaI gO cO 8 fO9_59), (zo10ririliiriririr sc aTp (nI ts) aHl (nI nh) ed mi sn aHs (nI n) aWk (nI wz) aBk (nI bz) aFc), (zaR aHs cHs 8 fHs), (zaI aFc cFc 6 fFc9_60)]) hD hS hA [1, 2, 3, 4, 5, 6] rfl
                refine va_callv (va_runV (As := [.ref sc, .int 3]) (rest := []) ⟨hx, hb, hml, hown, hts⟩ (c_link l dC dI gd  kA   sc go aTp aHl aHs aWk aBk aFc bW bA bE bC gR gO gS ts nh n wz bz n cl mi sn sg cdd szz att nmb 3 ed cHs cFc cbW cbA cbE cbC cR cO fFc9_60 fbW fbA fbE fbC fR9_58 fO9_59 yk yv yc fHs yi ya tpv cz H.size (zhs) (hn8) (zcl) (zE) (zC) (zyv) (zyc) (zHC) (zyt)) (cwV 2 hts gX11_bears_X2_link rfl rfl rfl hd_yX2_link ⟨Nat.le_of_ble_eq_true rfl, Nat.le_of_ble_eq_true rfl⟩) ⟨fun a U g mk q => by obtain ⟨q0, q1, qP, qK, qD, qhG, qhW_, qhN_, qhZ, qhH_⟩ := q; exact ⟨q0, q1, qP, va_K.moved (u := U) (U := U.calling g mk a) (Vm.Alike.refl U.vm) qK, qD, qhG.same rfl rfl, qhW_.same rfl rfl, qhN_.same rfl rfl, qhZ.same rfl rfl, qhH_.same rfl rfl⟩, va_recv hK hP (ci := 4) (q := (RX2, TX2, 4)) (q0 := 1) rfl rfl, fun U hU hW => ⟨rfl, by rw [hU], by rw [hU]; exact hPc, va_K.moved hW.alike hKc, hDc.weaken (fun _ _ _ _ => trivial), hG.call hS hU hW (fun q h => hFc q h), hW_.call hS hU hW (fun q h => hFc q h), hN_.call hS hU hW (fun q h => hFc q h), (hZ.sub [0, 1, 2, 3, 4] [0, 1, 2, 3] rfl rfl).call hS hU hW (fun q h => hFc q h), hH_.call hS hU hW (fun q h => hFc q h)⟩⟩ rfl rfl hl.1 rfl (lv_room (Nat.le_of_ble_eq_true rfl)) dX11_bears_30 ⟨Nat.le_of_ble_eq_true rfl, Nat.le_of_ble_eq_true rfl⟩) hS (fun q _ h => hFc q h) hFc (fun u tC H1 locs htC hvm hw_66 hB hz1 hk1 hS => ?_)
                obtain ⟨lk9_67, fR9_68, fO9_69, fFc9_70⟩ := u
                try dsimp only at hw_66 hB
                obtain ⟨hP1, hK1, hD1⟩ := hB
                rw [htC] at hP1
                have hK1 := va_K.moved hvm.symm hK1
                obtain ⟨hP, hD⟩ := va_join (wr := [(zo13rrirrrr h0 sc kp ik bl go ch bo)]) (w1 := [(zo4rrir go gR gO (nI lk9_67) gS), (zaI gR cR 8 fR9_68), (zaI gO cO 8 fO9_69), (zo10ririliiriririr sc aTp (nI ts) aHl (nI nh) ed mi sn aHs (nI n) aWk (nI wz) aBk (nI bz) aFc), (zaR aHs cHs 8 fHs), (zaI aFc cFc 6 fFc9_70)]) hP hD [1, 2, 3, 4, 5, 6] [0] rfl rfl (by decide) (by decide) hk1 hFc hP1 hD1
                have hK := (hK.sub (tys' := []) [] rfl).app hK1
                generalize H1 = H at hP hS ⊢
                have hP : va_P (dC, dI) vwCl [(zo13rrirrrr h0 sc kp ik bl go ch bo), (zo4rrir go gR gO (nI lk9_67) gS), (zaI gR cR 8 fR9_68), (zaI gO cO 8 fO9_69), (zo10ririliiriririr sc aTp (nI ts) aHl (nI nh) ed mi sn aHs (nI n) aWk (nI wz) aBk (nI bz) aFc), (zaR aHs cHs 8 fHs), (zaI aFc cFc 6 fFc9_70)] H := hP
                have hD : va_D A [(zo13rrirrrr h0 sc kp ik bl go ch bo), (zo4rrir go gR gO (nI lk9_67) gS), (zaI gR cR 8 fR9_68), (zaI gO cO 8 fO9_69), (zo10ririliiriririr sc aTp (nI ts) aHl (nI nh) ed mi sn aHs (nI n) aWk (nI wz) aBk (nI bz) aFc), (zaR aHs cHs 8 fHs), (zaI aFc cFc 6 fFc9_70)] := hD
                have hK : va_K (dC, dI) vwCl [(cR, .int), (cO, .int), (cHs, .object "MistHeaps$Heap"), (cFc, .int)] s := hK
                obtain ⟨elk, hlR, hlO⟩ := hw_66
                obtain rfl := elk.symm
                refine lv_aload_n hx hb dX11_bears_33 rfl (lv_at hl 1 rfl) ?_
                refine va_get (D := (dC, dI)) (ci := 13) (v := .ref go) (C := RX11) (T := TX11) (N := 7) hx hb hts kc_xBears_0 hown hK hP 0 rfl rfl 4 (by decide) (hts (.fieldLink RX11 35 "MistHeaps" "goings" "LMistHeaps$Goings;") kc_xBears_2) (fun _ h9 => h9) rfl dX11_bears_34 ?_
                refine lv_iload_n hx hb dX11_bears_37 rfl (lv_at hl 2 rfl) ?_
                refine lv_iload_n hx hb dX11_bears_38 rfl (lv_at hl 3 rfl) ?_
                refine lv_iconst (v := 0) hx hb dX11_bears_39 (by decide) ?_
                have hPc := hP.sub (ws' := [(zo4rrir go gR gO (nI n) gS), (zaI gO cO 8 fO9_69)]) [1, 3] rfl
                have hKc := hK.sub (tys' := [(cO, .int)]) [1] rfl
                refine vp_callSi (va_runV (As := [.int (nI j1), .int (nI j2), .int 0]) (rest := []) ⟨hx, hb, hml, hown, hts⟩ (c_fewest l dC dI go gR gO gS n (nI j1) (nI j2) 0 cO fO9_69 (by omega)) (cwV 3 hts gX11_bears_X2_fewest rfl rfl rfl hd_yX2_fewest ⟨Nat.le_of_ble_eq_true rfl, Nat.le_of_ble_eq_true rfl⟩) ⟨fun a U g mk q => by obtain ⟨q0, qP, qK⟩ := q; exact ⟨q0, qP, va_K.moved (u := U) (U := U.calling g mk a) (Vm.Alike.refl U.vm) qK⟩, va_recv hK hP (ci := 4) (q := (RX2, TX2, 4)) (q0 := 1) rfl rfl, fun U hU hW => ⟨rfl, by rw [hU]; exact hPc, va_K.moved hW.alike hKc⟩⟩ rfl rfl hl.1 rfl (lv_room (Nat.le_of_ble_eq_true rfl)) dX11_bears_40 ⟨Nat.le_of_ble_eq_true rfl, Nat.le_of_ble_eq_true rfl⟩).run (fun r_71 hw_72 => ?_)
                obtain rfl := hw_72
                refine lv_bipush (v := (-5)) hx hb dX11_bears_43 (by decide) ?_
                refine lv_icmp_eq (tgt := 50) hx hb dX11_bears_45 (by decide) (fun c_73 => ?_) (fun c_73 => ?_)
                · skip
                  have hA9 := be_dn (i := 3) hA9 (fun z9 => z9 ((show fwR _ n (nI j1) (nI j2) 0 = fsR (gRow n yk yv yc cz mi (nI 3)) n (nI j1) (nI j2) 0 from fw_row hn8 hj1 hj2 (b_0 _) hlO.B).symm.trans c_73))
                  refine lv_iinc (v := 2) (lv' := [(3, .int 2), (0, .ref h0), (1, .int (nI j1)), (2, .int (nI j2))]) hx hb dX11_bears_50 hl (k := 0) rfl (by decide) (by decide) rfl (fun ls hl => ?_)
                  refine lv_goto (tgt := 17) hx hb dX11_bears_53 (by decide) ?_
                  refine lv_iload_n hx hb dX11_bears_17 rfl (lv_at hl 0 rfl) ?_
                  refine lv_if_lt (tgt := 56) hx hb dX11_bears_18 (by decide) (fun c_74 => absurd c_74 (by decide)) (fun _ => ?_)
                  refine lv_aload_n hx hb dX11_bears_21 rfl (lv_at hl 1 rfl) ?_
                  refine va_get (D := (dC, dI)) (ci := 13) (v := .ref go) (C := RX11) (T := TX11) (N := 7) hx hb hts kc_xBears_0 hown hK hP 0 rfl rfl 4 (by decide) (hts (.fieldLink RX11 35 "MistHeaps" "goings" "LMistHeaps$Goings;") kc_xBears_2) (fun _ h9 => h9) rfl dX11_bears_22 ?_
                  refine lv_aload_n hx hb dX11_bears_25 rfl (lv_at hl 1 rfl) ?_
                  refine va_get (D := (dC, dI)) (ci := 13) (v := .ref sc) (C := RX11) (T := TX11) (N := 7) hx hb hts kc_xBears_0 hown hK hP 0 rfl rfl 0 (by decide) (hts (.fieldLink RX11 14 "MistHeaps" "scene" "LMistHeaps$Scene;") kc_xBears_1) (fun _ h9 => h9) rfl dX11_bears_26 ?_
                  refine lv_iload_n hx hb dX11_bears_29 rfl (lv_at hl 0 rfl) ?_
                  have hPc := hP.sub (ws' := [(zo4rrir go gR gO (nI n) gS), (zaI gR cR 8 fR9_68), (zaI gO cO 8 fO9_69), (zo10ririliiriririr sc aTp (nI ts) aHl (nI nh) ed mi sn aHs (nI n) aWk (nI wz) aBk (nI bz) aFc), (zaR aHs cHs 8 fHs), (zaI aFc cFc 6 fFc9_70)]) [1, 2, 3, 4, 5, 6] rfl
                  have hDc := hD.sub (ws' := [(zo4rrir go gR gO (nI n) gS), (zaI gR cR 8 fR9_68), (zaI gO cO 8 fO9_69), (zo10ririliiriririr sc aTp (nI ts) aHl (nI nh) ed mi sn aHs (nI n) aWk (nI wz) aBk (nI bz) aFc), (zaR aHs cHs 8 fHs), (zaI aFc cFc 6 fFc9_70)]) [1, 2, 3, 4, 5, 6] (by decide) rfl
                  have hKc := hK.sub (tys' := [(cR, .int), (cO, .int), (cHs, .object "MistHeaps$Heap"), (cFc, .int)]) [0, 1, 2, 3] rfl
                  have hFc := va_free (wc := [(zo4rrir go gR gO (nI n) gS), (zaI gR cR 8 fR9_68), (zaI gO cO 8 fO9_69), (zo10ririliiriririr sc aTp (nI ts) aHl (nI nh) ed mi sn aHs (nI n) aWk (nI wz) aBk (nI bz) aFc), (zaR aHs cHs 8 fHs), (zaI aFc cFc 6 fFc9_70)]) hD hS hA [1, 2, 3, 4, 5, 6] rfl
                  refine va_callv (va_runV (As := [.ref sc, .int 2]) (rest := []) ⟨hx, hb, hml, hown, hts⟩ (c_link l dC dI gd  kA   sc go aTp aHl aHs aWk aBk aFc bW bA bE bC gR gO gS ts nh n wz bz n cl mi sn sg cdd szz att nmb 2 ed cHs cFc cbW cbA cbE cbC cR cO fFc9_70 fbW fbA fbE fbC fR9_68 fO9_69 yk yv yc fHs yi ya tpv cz H.size (zhs) (hn8) (zcl) (zE) (zC) (zyv) (zyc) (zHC) (zyt)) (cwV 2 hts gX11_bears_X2_link rfl rfl rfl hd_yX2_link ⟨Nat.le_of_ble_eq_true rfl, Nat.le_of_ble_eq_true rfl⟩) ⟨fun a U g mk q => by obtain ⟨q0, q1, qP, qK, qD, qhG, qhW_, qhN_, qhZ, qhH_⟩ := q; exact ⟨q0, q1, qP, va_K.moved (u := U) (U := U.calling g mk a) (Vm.Alike.refl U.vm) qK, qD, qhG.same rfl rfl, qhW_.same rfl rfl, qhN_.same rfl rfl, qhZ.same rfl rfl, qhH_.same rfl rfl⟩, va_recv hK hP (ci := 4) (q := (RX2, TX2, 4)) (q0 := 1) rfl rfl, fun U hU hW => ⟨rfl, by rw [hU], by rw [hU]; exact hPc, va_K.moved hW.alike hKc, hDc.weaken (fun _ _ _ _ => trivial), hG.call hS hU hW (fun q h => hFc q h), hW_.call hS hU hW (fun q h => hFc q h), hN_.call hS hU hW (fun q h => hFc q h), (hZ.sub [0, 1, 2, 3, 4] [0, 1, 2, 3] rfl rfl).call hS hU hW (fun q h => hFc q h), hH_.call hS hU hW (fun q h => hFc q h)⟩⟩ rfl rfl hl.1 rfl (lv_room (Nat.le_of_ble_eq_true rfl)) dX11_bears_30 ⟨Nat.le_of_ble_eq_true rfl, Nat.le_of_ble_eq_true rfl⟩) hS (fun q _ h => hFc q h) hFc (fun u tC H1 locs htC hvm hw_76 hB hz1 hk1 hS => ?_)
                  obtain ⟨lk9_77, fR9_78, fO9_79, fFc9_80⟩ := u
                  try dsimp only at hw_76 hB
                  obtain ⟨hP1, hK1, hD1⟩ := hB
                  rw [htC] at hP1
                  have hK1 := va_K.moved hvm.symm hK1
                  obtain ⟨hP, hD⟩ := va_join (wr := [(zo13rrirrrr h0 sc kp ik bl go ch bo)]) (w1 := [(zo4rrir go gR gO (nI lk9_77) gS), (zaI gR cR 8 fR9_78), (zaI gO cO 8 fO9_79), (zo10ririliiriririr sc aTp (nI ts) aHl (nI nh) ed mi sn aHs (nI n) aWk (nI wz) aBk (nI bz) aFc), (zaR aHs cHs 8 fHs), (zaI aFc cFc 6 fFc9_80)]) hP hD [1, 2, 3, 4, 5, 6] [0] rfl rfl (by decide) (by decide) hk1 hFc hP1 hD1
                  have hK := (hK.sub (tys' := []) [] rfl).app hK1
                  generalize H1 = H at hP hS ⊢
                  have hP : va_P (dC, dI) vwCl [(zo13rrirrrr h0 sc kp ik bl go ch bo), (zo4rrir go gR gO (nI lk9_77) gS), (zaI gR cR 8 fR9_78), (zaI gO cO 8 fO9_79), (zo10ririliiriririr sc aTp (nI ts) aHl (nI nh) ed mi sn aHs (nI n) aWk (nI wz) aBk (nI bz) aFc), (zaR aHs cHs 8 fHs), (zaI aFc cFc 6 fFc9_80)] H := hP
                  have hD : va_D A [(zo13rrirrrr h0 sc kp ik bl go ch bo), (zo4rrir go gR gO (nI lk9_77) gS), (zaI gR cR 8 fR9_78), (zaI gO cO 8 fO9_79), (zo10ririliiriririr sc aTp (nI ts) aHl (nI nh) ed mi sn aHs (nI n) aWk (nI wz) aBk (nI bz) aFc), (zaR aHs cHs 8 fHs), (zaI aFc cFc 6 fFc9_80)] := hD
                  have hK : va_K (dC, dI) vwCl [(cR, .int), (cO, .int), (cHs, .object "MistHeaps$Heap"), (cFc, .int)] s := hK
                  obtain ⟨elk, hlR, hlO⟩ := hw_76
                  obtain rfl := elk.symm
                  refine lv_aload_n hx hb dX11_bears_33 rfl (lv_at hl 1 rfl) ?_
                  refine va_get (D := (dC, dI)) (ci := 13) (v := .ref go) (C := RX11) (T := TX11) (N := 7) hx hb hts kc_xBears_0 hown hK hP 0 rfl rfl 4 (by decide) (hts (.fieldLink RX11 35 "MistHeaps" "goings" "LMistHeaps$Goings;") kc_xBears_2) (fun _ h9 => h9) rfl dX11_bears_34 ?_
                  refine lv_iload_n hx hb dX11_bears_37 rfl (lv_at hl 2 rfl) ?_
                  refine lv_iload_n hx hb dX11_bears_38 rfl (lv_at hl 3 rfl) ?_
                  refine lv_iconst (v := 0) hx hb dX11_bears_39 (by decide) ?_
                  have hPc := hP.sub (ws' := [(zo4rrir go gR gO (nI n) gS), (zaI gO cO 8 fO9_79)]) [1, 3] rfl
                  have hKc := hK.sub (tys' := [(cO, .int)]) [1] rfl
                  refine vp_callSi (va_runV (As := [.int (nI j1), .int (nI j2), .int 0]) (rest := []) ⟨hx, hb, hml, hown, hts⟩ (c_fewest l dC dI go gR gO gS n (nI j1) (nI j2) 0 cO fO9_79 (by omega)) (cwV 3 hts gX11_bears_X2_fewest rfl rfl rfl hd_yX2_fewest ⟨Nat.le_of_ble_eq_true rfl, Nat.le_of_ble_eq_true rfl⟩) ⟨fun a U g mk q => by obtain ⟨q0, qP, qK⟩ := q; exact ⟨q0, qP, va_K.moved (u := U) (U := U.calling g mk a) (Vm.Alike.refl U.vm) qK⟩, va_recv hK hP (ci := 4) (q := (RX2, TX2, 4)) (q0 := 1) rfl rfl, fun U hU hW => ⟨rfl, by rw [hU]; exact hPc, va_K.moved hW.alike hKc⟩⟩ rfl rfl hl.1 rfl (lv_room (Nat.le_of_ble_eq_true rfl)) dX11_bears_40 ⟨Nat.le_of_ble_eq_true rfl, Nat.le_of_ble_eq_true rfl⟩).run (fun r_81 hw_82 => ?_)
                  obtain rfl := hw_82
                  refine lv_bipush (v := (-5)) hx hb dX11_bears_43 (by decide) ?_
                  refine lv_icmp_eq (tgt := 50) hx hb dX11_bears_45 (by decide) (fun c_83 => ?_) (fun c_83 => ?_)
                  · skip
                    have hA9 := be_dn (i := 2) hA9 (fun z9 => z9 ((show fwR _ n (nI j1) (nI j2) 0 = fsR (gRow n yk yv yc cz mi (nI 2)) n (nI j1) (nI j2) 0 from fw_row hn8 hj1 hj2 (b_0 _) hlO.B).symm.trans c_83))
                    refine lv_iinc (v := 1) (lv' := [(3, .int 1), (0, .ref h0), (1, .int (nI j1)), (2, .int (nI j2))]) hx hb dX11_bears_50 hl (k := 0) rfl (by decide) (by decide) rfl (fun ls hl => ?_)
                    refine lv_goto (tgt := 17) hx hb dX11_bears_53 (by decide) ?_
                    refine lv_iload_n hx hb dX11_bears_17 rfl (lv_at hl 0 rfl) ?_
                    refine lv_if_lt (tgt := 56) hx hb dX11_bears_18 (by decide) (fun c_84 => absurd c_84 (by decide)) (fun _ => ?_)
                    refine lv_aload_n hx hb dX11_bears_21 rfl (lv_at hl 1 rfl) ?_
                    refine va_get (D := (dC, dI)) (ci := 13) (v := .ref go) (C := RX11) (T := TX11) (N := 7) hx hb hts kc_xBears_0 hown hK hP 0 rfl rfl 4 (by decide) (hts (.fieldLink RX11 35 "MistHeaps" "goings" "LMistHeaps$Goings;") kc_xBears_2) (fun _ h9 => h9) rfl dX11_bears_22 ?_
                    refine lv_aload_n hx hb dX11_bears_25 rfl (lv_at hl 1 rfl) ?_
                    refine va_get (D := (dC, dI)) (ci := 13) (v := .ref sc) (C := RX11) (T := TX11) (N := 7) hx hb hts kc_xBears_0 hown hK hP 0 rfl rfl 0 (by decide) (hts (.fieldLink RX11 14 "MistHeaps" "scene" "LMistHeaps$Scene;") kc_xBears_1) (fun _ h9 => h9) rfl dX11_bears_26 ?_
                    refine lv_iload_n hx hb dX11_bears_29 rfl (lv_at hl 0 rfl) ?_
                    have hPc := hP.sub (ws' := [(zo4rrir go gR gO (nI n) gS), (zaI gR cR 8 fR9_78), (zaI gO cO 8 fO9_79), (zo10ririliiriririr sc aTp (nI ts) aHl (nI nh) ed mi sn aHs (nI n) aWk (nI wz) aBk (nI bz) aFc), (zaR aHs cHs 8 fHs), (zaI aFc cFc 6 fFc9_80)]) [1, 2, 3, 4, 5, 6] rfl
                    have hDc := hD.sub (ws' := [(zo4rrir go gR gO (nI n) gS), (zaI gR cR 8 fR9_78), (zaI gO cO 8 fO9_79), (zo10ririliiriririr sc aTp (nI ts) aHl (nI nh) ed mi sn aHs (nI n) aWk (nI wz) aBk (nI bz) aFc), (zaR aHs cHs 8 fHs), (zaI aFc cFc 6 fFc9_80)]) [1, 2, 3, 4, 5, 6] (by decide) rfl
                    have hKc := hK.sub (tys' := [(cR, .int), (cO, .int), (cHs, .object "MistHeaps$Heap"), (cFc, .int)]) [0, 1, 2, 3] rfl
                    have hFc := va_free (wc := [(zo4rrir go gR gO (nI n) gS), (zaI gR cR 8 fR9_78), (zaI gO cO 8 fO9_79), (zo10ririliiriririr sc aTp (nI ts) aHl (nI nh) ed mi sn aHs (nI n) aWk (nI wz) aBk (nI bz) aFc), (zaR aHs cHs 8 fHs), (zaI aFc cFc 6 fFc9_80)]) hD hS hA [1, 2, 3, 4, 5, 6] rfl
                    refine va_callv (va_runV (As := [.ref sc, .int 1]) (rest := []) ⟨hx, hb, hml, hown, hts⟩ (c_link l dC dI gd  kA   sc go aTp aHl aHs aWk aBk aFc bW bA bE bC gR gO gS ts nh n wz bz n cl mi sn sg cdd szz att nmb 1 ed cHs cFc cbW cbA cbE cbC cR cO fFc9_80 fbW fbA fbE fbC fR9_78 fO9_79 yk yv yc fHs yi ya tpv cz H.size (zhs) (hn8) (zcl) (zE) (zC) (zyv) (zyc) (zHC) (zyt)) (cwV 2 hts gX11_bears_X2_link rfl rfl rfl hd_yX2_link ⟨Nat.le_of_ble_eq_true rfl, Nat.le_of_ble_eq_true rfl⟩) ⟨fun a U g mk q => by obtain ⟨q0, q1, qP, qK, qD, qhG, qhW_, qhN_, qhZ, qhH_⟩ := q; exact ⟨q0, q1, qP, va_K.moved (u := U) (U := U.calling g mk a) (Vm.Alike.refl U.vm) qK, qD, qhG.same rfl rfl, qhW_.same rfl rfl, qhN_.same rfl rfl, qhZ.same rfl rfl, qhH_.same rfl rfl⟩, va_recv hK hP (ci := 4) (q := (RX2, TX2, 4)) (q0 := 1) rfl rfl, fun U hU hW => ⟨rfl, by rw [hU], by rw [hU]; exact hPc, va_K.moved hW.alike hKc, hDc.weaken (fun _ _ _ _ => trivial), hG.call hS hU hW (fun q h => hFc q h), hW_.call hS hU hW (fun q h => hFc q h), hN_.call hS hU hW (fun q h => hFc q h), (hZ.sub [0, 1, 2, 3, 4] [0, 1, 2, 3] rfl rfl).call hS hU hW (fun q h => hFc q h), hH_.call hS hU hW (fun q h => hFc q h)⟩⟩ rfl rfl hl.1 rfl (lv_room (Nat.le_of_ble_eq_true rfl)) dX11_bears_30 ⟨Nat.le_of_ble_eq_true rfl, Nat.le_of_ble_eq_true rfl⟩) hS (fun q _ h => hFc q h) hFc (fun u tC H1 locs htC hvm hw_86 hB hz1 hk1 hS => ?_)
                    obtain ⟨lk9_87, fR9_88, fO9_89, fFc9_90⟩ := u
                    try dsimp only at hw_86 hB
                    obtain ⟨hP1, hK1, hD1⟩ := hB
                    rw [htC] at hP1
                    have hK1 := va_K.moved hvm.symm hK1
                    obtain ⟨hP, hD⟩ := va_join (wr := [(zo13rrirrrr h0 sc kp ik bl go ch bo)]) (w1 := [(zo4rrir go gR gO (nI lk9_87) gS), (zaI gR cR 8 fR9_88), (zaI gO cO 8 fO9_89), (zo10ririliiriririr sc aTp (nI ts) aHl (nI nh) ed mi sn aHs (nI n) aWk (nI wz) aBk (nI bz) aFc), (zaR aHs cHs 8 fHs), (zaI aFc cFc 6 fFc9_90)]) hP hD [1, 2, 3, 4, 5, 6] [0] rfl rfl (by decide) (by decide) hk1 hFc hP1 hD1
                    have hK := (hK.sub (tys' := []) [] rfl).app hK1
                    generalize H1 = H at hP hS ⊢
                    have hP : va_P (dC, dI) vwCl [(zo13rrirrrr h0 sc kp ik bl go ch bo), (zo4rrir go gR gO (nI lk9_87) gS), (zaI gR cR 8 fR9_88), (zaI gO cO 8 fO9_89), (zo10ririliiriririr sc aTp (nI ts) aHl (nI nh) ed mi sn aHs (nI n) aWk (nI wz) aBk (nI bz) aFc), (zaR aHs cHs 8 fHs), (zaI aFc cFc 6 fFc9_90)] H := hP
                    have hD : va_D A [(zo13rrirrrr h0 sc kp ik bl go ch bo), (zo4rrir go gR gO (nI lk9_87) gS), (zaI gR cR 8 fR9_88), (zaI gO cO 8 fO9_89), (zo10ririliiriririr sc aTp (nI ts) aHl (nI nh) ed mi sn aHs (nI n) aWk (nI wz) aBk (nI bz) aFc), (zaR aHs cHs 8 fHs), (zaI aFc cFc 6 fFc9_90)] := hD
                    have hK : va_K (dC, dI) vwCl [(cR, .int), (cO, .int), (cHs, .object "MistHeaps$Heap"), (cFc, .int)] s := hK
                    obtain ⟨elk, hlR, hlO⟩ := hw_86
                    obtain rfl := elk.symm
                    refine lv_aload_n hx hb dX11_bears_33 rfl (lv_at hl 1 rfl) ?_
                    refine va_get (D := (dC, dI)) (ci := 13) (v := .ref go) (C := RX11) (T := TX11) (N := 7) hx hb hts kc_xBears_0 hown hK hP 0 rfl rfl 4 (by decide) (hts (.fieldLink RX11 35 "MistHeaps" "goings" "LMistHeaps$Goings;") kc_xBears_2) (fun _ h9 => h9) rfl dX11_bears_34 ?_
                    refine lv_iload_n hx hb dX11_bears_37 rfl (lv_at hl 2 rfl) ?_
                    refine lv_iload_n hx hb dX11_bears_38 rfl (lv_at hl 3 rfl) ?_
                    refine lv_iconst (v := 0) hx hb dX11_bears_39 (by decide) ?_
                    have hPc := hP.sub (ws' := [(zo4rrir go gR gO (nI n) gS), (zaI gO cO 8 fO9_89)]) [1, 3] rfl
                    have hKc := hK.sub (tys' := [(cO, .int)]) [1] rfl
                    refine vp_callSi (va_runV (As := [.int (nI j1), .int (nI j2), .int 0]) (rest := []) ⟨hx, hb, hml, hown, hts⟩ (c_fewest l dC dI go gR gO gS n (nI j1) (nI j2) 0 cO fO9_89 (by omega)) (cwV 3 hts gX11_bears_X2_fewest rfl rfl rfl hd_yX2_fewest ⟨Nat.le_of_ble_eq_true rfl, Nat.le_of_ble_eq_true rfl⟩) ⟨fun a U g mk q => by obtain ⟨q0, qP, qK⟩ := q; exact ⟨q0, qP, va_K.moved (u := U) (U := U.calling g mk a) (Vm.Alike.refl U.vm) qK⟩, va_recv hK hP (ci := 4) (q := (RX2, TX2, 4)) (q0 := 1) rfl rfl, fun U hU hW => ⟨rfl, by rw [hU]; exact hPc, va_K.moved hW.alike hKc⟩⟩ rfl rfl hl.1 rfl (lv_room (Nat.le_of_ble_eq_true rfl)) dX11_bears_40 ⟨Nat.le_of_ble_eq_true rfl, Nat.le_of_ble_eq_true rfl⟩).run (fun r_91 hw_92 => ?_)
                    obtain rfl := hw_92
                    refine lv_bipush (v := (-5)) hx hb dX11_bears_43 (by decide) ?_
                    refine lv_icmp_eq (tgt := 50) hx hb dX11_bears_45 (by decide) (fun c_93 => ?_) (fun c_93 => ?_)
                    · skip
                      have hA9 := be_dn (i := 1) hA9 (fun z9 => z9 ((show fwR _ n (nI j1) (nI j2) 0 = fsR (gRow n yk yv yc cz mi (nI 1)) n (nI j1) (nI j2) 0 from fw_row hn8 hj1 hj2 (b_0 _) hlO.B).symm.trans c_93))
                      refine lv_iinc (v := 0) (lv' := [(3, .int 0), (0, .ref h0), (1, .int (nI j1)), (2, .int (nI j2))]) hx hb dX11_bears_50 hl (k := 0) rfl (by decide) (by decide) rfl (fun ls hl => ?_)
                      refine lv_goto (tgt := 17) hx hb dX11_bears_53 (by decide) ?_
                      refine lv_iload_n hx hb dX11_bears_17 rfl (lv_at hl 0 rfl) ?_
                      refine lv_if_lt (tgt := 56) hx hb dX11_bears_18 (by decide) (fun c_94 => absurd c_94 (by decide)) (fun _ => ?_)
                      refine lv_aload_n hx hb dX11_bears_21 rfl (lv_at hl 1 rfl) ?_
                      refine va_get (D := (dC, dI)) (ci := 13) (v := .ref go) (C := RX11) (T := TX11) (N := 7) hx hb hts kc_xBears_0 hown hK hP 0 rfl rfl 4 (by decide) (hts (.fieldLink RX11 35 "MistHeaps" "goings" "LMistHeaps$Goings;") kc_xBears_2) (fun _ h9 => h9) rfl dX11_bears_22 ?_
                      refine lv_aload_n hx hb dX11_bears_25 rfl (lv_at hl 1 rfl) ?_
                      refine va_get (D := (dC, dI)) (ci := 13) (v := .ref sc) (C := RX11) (T := TX11) (N := 7) hx hb hts kc_xBears_0 hown hK hP 0 rfl rfl 0 (by decide) (hts (.fieldLink RX11 14 "MistHeaps" "scene" "LMistHeaps$Scene;") kc_xBears_1) (fun _ h9 => h9) rfl dX11_bears_26 ?_
                      refine lv_iload_n hx hb dX11_bears_29 rfl (lv_at hl 0 rfl) ?_
                      have hPc := hP.sub (ws' := [(zo4rrir go gR gO (nI n) gS), (zaI gR cR 8 fR9_88), (zaI gO cO 8 fO9_89), (zo10ririliiriririr sc aTp (nI ts) aHl (nI nh) ed mi sn aHs (nI n) aWk (nI wz) aBk (nI bz) aFc), (zaR aHs cHs 8 fHs), (zaI aFc cFc 6 fFc9_90)]) [1, 2, 3, 4, 5, 6] rfl
                      have hDc := hD.sub (ws' := [(zo4rrir go gR gO (nI n) gS), (zaI gR cR 8 fR9_88), (zaI gO cO 8 fO9_89), (zo10ririliiriririr sc aTp (nI ts) aHl (nI nh) ed mi sn aHs (nI n) aWk (nI wz) aBk (nI bz) aFc), (zaR aHs cHs 8 fHs), (zaI aFc cFc 6 fFc9_90)]) [1, 2, 3, 4, 5, 6] (by decide) rfl
                      have hKc := hK.sub (tys' := [(cR, .int), (cO, .int), (cHs, .object "MistHeaps$Heap"), (cFc, .int)]) [0, 1, 2, 3] rfl
                      have hFc := va_free (wc := [(zo4rrir go gR gO (nI n) gS), (zaI gR cR 8 fR9_88), (zaI gO cO 8 fO9_89), (zo10ririliiriririr sc aTp (nI ts) aHl (nI nh) ed mi sn aHs (nI n) aWk (nI wz) aBk (nI bz) aFc), (zaR aHs cHs 8 fHs), (zaI aFc cFc 6 fFc9_90)]) hD hS hA [1, 2, 3, 4, 5, 6] rfl
                      refine va_callv (va_runV (As := [.ref sc, .int 0]) (rest := []) ⟨hx, hb, hml, hown, hts⟩ (c_link l dC dI gd  kA   sc go aTp aHl aHs aWk aBk aFc bW bA bE bC gR gO gS ts nh n wz bz n cl mi sn sg cdd szz att nmb 0 ed cHs cFc cbW cbA cbE cbC cR cO fFc9_90 fbW fbA fbE fbC fR9_88 fO9_89 yk yv yc fHs yi ya tpv cz H.size (zhs) (hn8) (zcl) (zE) (zC) (zyv) (zyc) (zHC) (zyt)) (cwV 2 hts gX11_bears_X2_link rfl rfl rfl hd_yX2_link ⟨Nat.le_of_ble_eq_true rfl, Nat.le_of_ble_eq_true rfl⟩) ⟨fun a U g mk q => by obtain ⟨q0, q1, qP, qK, qD, qhG, qhW_, qhN_, qhZ, qhH_⟩ := q; exact ⟨q0, q1, qP, va_K.moved (u := U) (U := U.calling g mk a) (Vm.Alike.refl U.vm) qK, qD, qhG.same rfl rfl, qhW_.same rfl rfl, qhN_.same rfl rfl, qhZ.same rfl rfl, qhH_.same rfl rfl⟩, va_recv hK hP (ci := 4) (q := (RX2, TX2, 4)) (q0 := 1) rfl rfl, fun U hU hW => ⟨rfl, by rw [hU], by rw [hU]; exact hPc, va_K.moved hW.alike hKc, hDc.weaken (fun _ _ _ _ => trivial), hG.call hS hU hW (fun q h => hFc q h), hW_.call hS hU hW (fun q h => hFc q h), hN_.call hS hU hW (fun q h => hFc q h), (hZ.sub [0, 1, 2, 3, 4] [0, 1, 2, 3] rfl rfl).call hS hU hW (fun q h => hFc q h), hH_.call hS hU hW (fun q h => hFc q h)⟩⟩ rfl rfl hl.1 rfl (lv_room (Nat.le_of_ble_eq_true rfl)) dX11_bears_30 ⟨Nat.le_of_ble_eq_true rfl, Nat.le_of_ble_eq_true rfl⟩) hS (fun q _ h => hFc q h) hFc (fun u tC H1 locs htC hvm hw_96 hB hz1 hk1 hS => ?_)
                      obtain ⟨lk9_97, fR9_98, fO9_99, fFc9_100⟩ := u
                      try dsimp only at hw_96 hB
                      obtain ⟨hP1, hK1, hD1⟩ := hB
                      rw [htC] at hP1
                      have hK1 := va_K.moved hvm.symm hK1
                      obtain ⟨hP, hD⟩ := va_join (wr := [(zo13rrirrrr h0 sc kp ik bl go ch bo)]) (w1 := [(zo4rrir go gR gO (nI lk9_97) gS), (zaI gR cR 8 fR9_98), (zaI gO cO 8 fO9_99), (zo10ririliiriririr sc aTp (nI ts) aHl (nI nh) ed mi sn aHs (nI n) aWk (nI wz) aBk (nI bz) aFc), (zaR aHs cHs 8 fHs), (zaI aFc cFc 6 fFc9_100)]) hP hD [1, 2, 3, 4, 5, 6] [0] rfl rfl (by decide) (by decide) hk1 hFc hP1 hD1
                      have hK := (hK.sub (tys' := []) [] rfl).app hK1
                      generalize H1 = H at hP hS ⊢
                      have hP : va_P (dC, dI) vwCl [(zo13rrirrrr h0 sc kp ik bl go ch bo), (zo4rrir go gR gO (nI lk9_97) gS), (zaI gR cR 8 fR9_98), (zaI gO cO 8 fO9_99), (zo10ririliiriririr sc aTp (nI ts) aHl (nI nh) ed mi sn aHs (nI n) aWk (nI wz) aBk (nI bz) aFc), (zaR aHs cHs 8 fHs), (zaI aFc cFc 6 fFc9_100)] H := hP
                      have hD : va_D A [(zo13rrirrrr h0 sc kp ik bl go ch bo), (zo4rrir go gR gO (nI lk9_97) gS), (zaI gR cR 8 fR9_98), (zaI gO cO 8 fO9_99), (zo10ririliiriririr sc aTp (nI ts) aHl (nI nh) ed mi sn aHs (nI n) aWk (nI wz) aBk (nI bz) aFc), (zaR aHs cHs 8 fHs), (zaI aFc cFc 6 fFc9_100)] := hD
                      have hK : va_K (dC, dI) vwCl [(cR, .int), (cO, .int), (cHs, .object "MistHeaps$Heap"), (cFc, .int)] s := hK
                      obtain ⟨elk, hlR, hlO⟩ := hw_96
                      obtain rfl := elk.symm
                      refine lv_aload_n hx hb dX11_bears_33 rfl (lv_at hl 1 rfl) ?_
                      refine va_get (D := (dC, dI)) (ci := 13) (v := .ref go) (C := RX11) (T := TX11) (N := 7) hx hb hts kc_xBears_0 hown hK hP 0 rfl rfl 4 (by decide) (hts (.fieldLink RX11 35 "MistHeaps" "goings" "LMistHeaps$Goings;") kc_xBears_2) (fun _ h9 => h9) rfl dX11_bears_34 ?_
                      refine lv_iload_n hx hb dX11_bears_37 rfl (lv_at hl 2 rfl) ?_
                      refine lv_iload_n hx hb dX11_bears_38 rfl (lv_at hl 3 rfl) ?_
                      refine lv_iconst (v := 0) hx hb dX11_bears_39 (by decide) ?_
                      have hPc := hP.sub (ws' := [(zo4rrir go gR gO (nI n) gS), (zaI gO cO 8 fO9_99)]) [1, 3] rfl
                      have hKc := hK.sub (tys' := [(cO, .int)]) [1] rfl
                      refine vp_callSi (va_runV (As := [.int (nI j1), .int (nI j2), .int 0]) (rest := []) ⟨hx, hb, hml, hown, hts⟩ (c_fewest l dC dI go gR gO gS n (nI j1) (nI j2) 0 cO fO9_99 (by omega)) (cwV 3 hts gX11_bears_X2_fewest rfl rfl rfl hd_yX2_fewest ⟨Nat.le_of_ble_eq_true rfl, Nat.le_of_ble_eq_true rfl⟩) ⟨fun a U g mk q => by obtain ⟨q0, qP, qK⟩ := q; exact ⟨q0, qP, va_K.moved (u := U) (U := U.calling g mk a) (Vm.Alike.refl U.vm) qK⟩, va_recv hK hP (ci := 4) (q := (RX2, TX2, 4)) (q0 := 1) rfl rfl, fun U hU hW => ⟨rfl, by rw [hU]; exact hPc, va_K.moved hW.alike hKc⟩⟩ rfl rfl hl.1 rfl (lv_room (Nat.le_of_ble_eq_true rfl)) dX11_bears_40 ⟨Nat.le_of_ble_eq_true rfl, Nat.le_of_ble_eq_true rfl⟩).run (fun r_101 hw_102 => ?_)
                      obtain rfl := hw_102
                      refine lv_bipush (v := (-5)) hx hb dX11_bears_43 (by decide) ?_
                      refine lv_icmp_eq (tgt := 50) hx hb dX11_bears_45 (by decide) (fun c_103 => ?_) (fun c_103 => ?_)
                      · skip
                        have hA9 := be_dn (i := 0) hA9 (fun z9 => z9 ((show fwR _ n (nI j1) (nI j2) 0 = fsR (gRow n yk yv yc cz mi (nI 0)) n (nI j1) (nI j2) 0 from fw_row hn8 hj1 hj2 (b_0 _) hlO.B).symm.trans c_103))
                        refine lv_iinc (v := (-1)) (lv' := [(3, .int (-1)), (0, .ref h0), (1, .int (nI j1)), (2, .int (nI j2))]) hx hb dX11_bears_50 hl (k := 0) rfl (by decide) (by decide) rfl (fun ls hl => ?_)
                        refine lv_goto (tgt := 17) hx hb dX11_bears_53 (by decide) ?_
                        refine lv_iload_n hx hb dX11_bears_17 rfl (lv_at hl 0 rfl) ?_
                        refine lv_if_lt (tgt := 56) hx hb dX11_bears_18 (by decide) (fun _ => ?_) (fun c_104 => absurd c_104 (by decide))
                        refine lv_bipush (v := (-5)) hx hb dX11_bears_56 (by decide) ?_
                        rw [hQ]
                        have hP9 := hP.sub (ws' := [(zo13rrirrrr h0 sc kp ik bl go ch bo), (zo4rrir go gR gO (nI n) gS), (zaI gR cR 8 fR9_98), (zaI gO cO 8 fO9_99), (zo10ririliiriririr sc aTp (nI ts) aHl (nI nh) ed mi sn aHs (nI n) aWk (nI wz) aBk (nI bz) aFc), (zaR aHs cHs 8 fHs), (zaI aFc cFc 6 fFc9_100)]) [0, 1, 2, 3, 4, 5, 6] rfl
                        have hD9 := hD.sub (ws' := [(zo13rrirrrr h0 sc kp ik bl go ch bo), (zo4rrir go gR gO (nI n) gS), (zaI gR cR 8 fR9_98), (zaI gO cO 8 fO9_99), (zo10ririliiriririr sc aTp (nI ts) aHl (nI nh) ed mi sn aHs (nI n) aWk (nI wz) aBk (nI bz) aFc), (zaR aHs cHs 8 fHs), (zaI aFc cFc 6 fFc9_100)]) [0, 1, 2, 3, 4, 5, 6] (by decide) rfl
                        have hK9 := hK.sub (tys' := [(cR, .int), (cO, .int), (cHs, .object "MistHeaps$Heap"), (cFc, .int)]) [0, 1, 2, 3] rfl
                        exact W.iret (v := (-5)) hx hb hr (fun tQ htQ hWQ => ⟨⟨(-5), (n, fR9_98, fO9_99, fFc9_100), rfl, ⟨by omega, be_m hn8 hj1 hj2 ((be_z hA9).trans hA0)⟩, by rw [htQ]; exact hP9, va_K.moved hWQ.alike hK9, hD9⟩, hS.F htQ⟩) hS.2.2 dX11_bears_58
                      · skip
                        refine lv_iload_n hx hb dX11_bears_48 rfl (lv_at hl 0 rfl) ?_
                        rw [hQ]
                        have hP9 := hP.sub (ws' := [(zo13rrirrrr h0 sc kp ik bl go ch bo), (zo4rrir go gR gO (nI n) gS), (zaI gR cR 8 fR9_98), (zaI gO cO 8 fO9_99), (zo10ririliiriririr sc aTp (nI ts) aHl (nI nh) ed mi sn aHs (nI n) aWk (nI wz) aBk (nI bz) aFc), (zaR aHs cHs 8 fHs), (zaI aFc cFc 6 fFc9_100)]) [0, 1, 2, 3, 4, 5, 6] rfl
                        have hD9 := hD.sub (ws' := [(zo13rrirrrr h0 sc kp ik bl go ch bo), (zo4rrir go gR gO (nI n) gS), (zaI gR cR 8 fR9_98), (zaI gO cO 8 fO9_99), (zo10ririliiriririr sc aTp (nI ts) aHl (nI nh) ed mi sn aHs (nI n) aWk (nI wz) aBk (nI bz) aFc), (zaR aHs cHs 8 fHs), (zaI aFc cFc 6 fFc9_100)]) [0, 1, 2, 3, 4, 5, 6] (by decide) rfl
                        have hK9 := hK.sub (tys' := [(cR, .int), (cO, .int), (cHs, .object "MistHeaps$Heap"), (cFc, .int)]) [0, 1, 2, 3] rfl
                        exact W.iret (v := 0) hx hb hr (fun tQ htQ hWQ => ⟨⟨0, (n, fR9_98, fO9_99, fFc9_100), rfl, ⟨by omega, be_m hn8 hj1 hj2 ((be_up (i := 0) hA9 (fun z9 => c_103 ((show fwR _ n (nI j1) (nI j2) 0 = fsR (gRow n yk yv yc cz mi (nI 0)) n (nI j1) (nI j2) 0 from fw_row hn8 hj1 hj2 (b_0 _) hlO.B).trans z9))).trans hA0)⟩, by rw [htQ]; exact hP9, va_K.moved hWQ.alike hK9, hD9⟩, hS.F htQ⟩) hS.2.2 dX11_bears_49
                    · skip
                      refine lv_iload_n hx hb dX11_bears_48 rfl (lv_at hl 0 rfl) ?_
                      rw [hQ]
                      have hP9 := hP.sub (ws' := [(zo13rrirrrr h0 sc kp ik bl go ch bo), (zo4rrir go gR gO (nI n) gS), (zaI gR cR 8 fR9_88), (zaI gO cO 8 fO9_89), (zo10ririliiriririr sc aTp (nI ts) aHl (nI nh) ed mi sn aHs (nI n) aWk (nI wz) aBk (nI bz) aFc), (zaR aHs cHs 8 fHs), (zaI aFc cFc 6 fFc9_90)]) [0, 1, 2, 3, 4, 5, 6] rfl
                      have hD9 := hD.sub (ws' := [(zo13rrirrrr h0 sc kp ik bl go ch bo), (zo4rrir go gR gO (nI n) gS), (zaI gR cR 8 fR9_88), (zaI gO cO 8 fO9_89), (zo10ririliiriririr sc aTp (nI ts) aHl (nI nh) ed mi sn aHs (nI n) aWk (nI wz) aBk (nI bz) aFc), (zaR aHs cHs 8 fHs), (zaI aFc cFc 6 fFc9_90)]) [0, 1, 2, 3, 4, 5, 6] (by decide) rfl
                      have hK9 := hK.sub (tys' := [(cR, .int), (cO, .int), (cHs, .object "MistHeaps$Heap"), (cFc, .int)]) [0, 1, 2, 3] rfl
                      exact W.iret (v := 1) hx hb hr (fun tQ htQ hWQ => ⟨⟨1, (n, fR9_88, fO9_89, fFc9_90), rfl, ⟨by omega, be_m hn8 hj1 hj2 ((be_up (i := 1) hA9 (fun z9 => c_93 ((show fwR _ n (nI j1) (nI j2) 0 = fsR (gRow n yk yv yc cz mi (nI 1)) n (nI j1) (nI j2) 0 from fw_row hn8 hj1 hj2 (b_0 _) hlO.B).trans z9))).trans hA0)⟩, by rw [htQ]; exact hP9, va_K.moved hWQ.alike hK9, hD9⟩, hS.F htQ⟩) hS.2.2 dX11_bears_49
                  · skip
                    refine lv_iload_n hx hb dX11_bears_48 rfl (lv_at hl 0 rfl) ?_
                    rw [hQ]
                    have hP9 := hP.sub (ws' := [(zo13rrirrrr h0 sc kp ik bl go ch bo), (zo4rrir go gR gO (nI n) gS), (zaI gR cR 8 fR9_78), (zaI gO cO 8 fO9_79), (zo10ririliiriririr sc aTp (nI ts) aHl (nI nh) ed mi sn aHs (nI n) aWk (nI wz) aBk (nI bz) aFc), (zaR aHs cHs 8 fHs), (zaI aFc cFc 6 fFc9_80)]) [0, 1, 2, 3, 4, 5, 6] rfl
                    have hD9 := hD.sub (ws' := [(zo13rrirrrr h0 sc kp ik bl go ch bo), (zo4rrir go gR gO (nI n) gS), (zaI gR cR 8 fR9_78), (zaI gO cO 8 fO9_79), (zo10ririliiriririr sc aTp (nI ts) aHl (nI nh) ed mi sn aHs (nI n) aWk (nI wz) aBk (nI bz) aFc), (zaR aHs cHs 8 fHs), (zaI aFc cFc 6 fFc9_80)]) [0, 1, 2, 3, 4, 5, 6] (by decide) rfl
                    have hK9 := hK.sub (tys' := [(cR, .int), (cO, .int), (cHs, .object "MistHeaps$Heap"), (cFc, .int)]) [0, 1, 2, 3] rfl
                    exact W.iret (v := 2) hx hb hr (fun tQ htQ hWQ => ⟨⟨2, (n, fR9_78, fO9_79, fFc9_80), rfl, ⟨by omega, be_m hn8 hj1 hj2 ((be_up (i := 2) hA9 (fun z9 => c_83 ((show fwR _ n (nI j1) (nI j2) 0 = fsR (gRow n yk yv yc cz mi (nI 2)) n (nI j1) (nI j2) 0 from fw_row hn8 hj1 hj2 (b_0 _) hlO.B).trans z9))).trans hA0)⟩, by rw [htQ]; exact hP9, va_K.moved hWQ.alike hK9, hD9⟩, hS.F htQ⟩) hS.2.2 dX11_bears_49
                · skip
                  refine lv_iload_n hx hb dX11_bears_48 rfl (lv_at hl 0 rfl) ?_
                  rw [hQ]
                  have hP9 := hP.sub (ws' := [(zo13rrirrrr h0 sc kp ik bl go ch bo), (zo4rrir go gR gO (nI n) gS), (zaI gR cR 8 fR9_68), (zaI gO cO 8 fO9_69), (zo10ririliiriririr sc aTp (nI ts) aHl (nI nh) ed mi sn aHs (nI n) aWk (nI wz) aBk (nI bz) aFc), (zaR aHs cHs 8 fHs), (zaI aFc cFc 6 fFc9_70)]) [0, 1, 2, 3, 4, 5, 6] rfl
                  have hD9 := hD.sub (ws' := [(zo13rrirrrr h0 sc kp ik bl go ch bo), (zo4rrir go gR gO (nI n) gS), (zaI gR cR 8 fR9_68), (zaI gO cO 8 fO9_69), (zo10ririliiriririr sc aTp (nI ts) aHl (nI nh) ed mi sn aHs (nI n) aWk (nI wz) aBk (nI bz) aFc), (zaR aHs cHs 8 fHs), (zaI aFc cFc 6 fFc9_70)]) [0, 1, 2, 3, 4, 5, 6] (by decide) rfl
                  have hK9 := hK.sub (tys' := [(cR, .int), (cO, .int), (cHs, .object "MistHeaps$Heap"), (cFc, .int)]) [0, 1, 2, 3] rfl
                  exact W.iret (v := 3) hx hb hr (fun tQ htQ hWQ => ⟨⟨3, (n, fR9_68, fO9_69, fFc9_70), rfl, ⟨by omega, be_m hn8 hj1 hj2 ((be_up (i := 3) hA9 (fun z9 => c_73 ((show fwR _ n (nI j1) (nI j2) 0 = fsR (gRow n yk yv yc cz mi (nI 3)) n (nI j1) (nI j2) 0 from fw_row hn8 hj1 hj2 (b_0 _) hlO.B).trans z9))).trans hA0)⟩, by rw [htQ]; exact hP9, va_K.moved hWQ.alike hK9, hD9⟩, hS.F htQ⟩) hS.2.2 dX11_bears_49
              · skip
                refine lv_iload_n hx hb dX11_bears_48 rfl (lv_at hl 0 rfl) ?_
                rw [hQ]
                have hP9 := hP.sub (ws' := [(zo13rrirrrr h0 sc kp ik bl go ch bo), (zo4rrir go gR gO (nI n) gS), (zaI gR cR 8 fR9_58), (zaI gO cO 8 fO9_59), (zo10ririliiriririr sc aTp (nI ts) aHl (nI nh) ed mi sn aHs (nI n) aWk (nI wz) aBk (nI bz) aFc), (zaR aHs cHs 8 fHs), (zaI aFc cFc 6 fFc9_60)]) [0, 1, 2, 3, 4, 5, 6] rfl
                have hD9 := hD.sub (ws' := [(zo13rrirrrr h0 sc kp ik bl go ch bo), (zo4rrir go gR gO (nI n) gS), (zaI gR cR 8 fR9_58), (zaI gO cO 8 fO9_59), (zo10ririliiriririr sc aTp (nI ts) aHl (nI nh) ed mi sn aHs (nI n) aWk (nI wz) aBk (nI bz) aFc), (zaR aHs cHs 8 fHs), (zaI aFc cFc 6 fFc9_60)]) [0, 1, 2, 3, 4, 5, 6] (by decide) rfl
                have hK9 := hK.sub (tys' := [(cR, .int), (cO, .int), (cHs, .object "MistHeaps$Heap"), (cFc, .int)]) [0, 1, 2, 3] rfl
                exact W.iret (v := 4) hx hb hr (fun tQ htQ hWQ => ⟨⟨4, (n, fR9_58, fO9_59, fFc9_60), rfl, ⟨by omega, be_m hn8 hj1 hj2 ((be_up (i := 4) hA9 (fun z9 => c_63 ((show fwR _ n (nI j1) (nI j2) 0 = fsR (gRow n yk yv yc cz mi (nI 4)) n (nI j1) (nI j2) 0 from fw_row hn8 hj1 hj2 (b_0 _) hlO.B).trans z9))).trans hA0)⟩, by rw [htQ]; exact hP9, va_K.moved hWQ.alike hK9, hD9⟩, hS.F htQ⟩) hS.2.2 dX11_bears_49
            · skip
              refine lv_iload_n hx hb dX11_bears_48 rfl (lv_at hl 0 rfl) ?_
              rw [hQ]
              have hP9 := hP.sub (ws' := [(zo13rrirrrr h0 sc kp ik bl go ch bo), (zo4rrir go gR gO (nI n) gS), (zaI gR cR 8 fR9_48), (zaI gO cO 8 fO9_49), (zo10ririliiriririr sc aTp (nI ts) aHl (nI nh) ed mi sn aHs (nI n) aWk (nI wz) aBk (nI bz) aFc), (zaR aHs cHs 8 fHs), (zaI aFc cFc 6 fFc9_50)]) [0, 1, 2, 3, 4, 5, 6] rfl
              have hD9 := hD.sub (ws' := [(zo13rrirrrr h0 sc kp ik bl go ch bo), (zo4rrir go gR gO (nI n) gS), (zaI gR cR 8 fR9_48), (zaI gO cO 8 fO9_49), (zo10ririliiriririr sc aTp (nI ts) aHl (nI nh) ed mi sn aHs (nI n) aWk (nI wz) aBk (nI bz) aFc), (zaR aHs cHs 8 fHs), (zaI aFc cFc 6 fFc9_50)]) [0, 1, 2, 3, 4, 5, 6] (by decide) rfl
              have hK9 := hK.sub (tys' := [(cR, .int), (cO, .int), (cHs, .object "MistHeaps$Heap"), (cFc, .int)]) [0, 1, 2, 3] rfl
              exact W.iret (v := 5) hx hb hr (fun tQ htQ hWQ => ⟨⟨5, (n, fR9_48, fO9_49, fFc9_50), rfl, ⟨by omega, be_m hn8 hj1 hj2 ((be_up (i := 5) hA9 (fun z9 => c_53 ((show fwR _ n (nI j1) (nI j2) 0 = fsR (gRow n yk yv yc cz mi (nI 5)) n (nI j1) (nI j2) 0 from fw_row hn8 hj1 hj2 (b_0 _) hlO.B).trans z9))).trans hA0)⟩, by rw [htQ]; exact hP9, va_K.moved hWQ.alike hK9, hD9⟩, hS.F htQ⟩) hS.2.2 dX11_bears_49
          · skip
            refine lv_iload_n hx hb dX11_bears_48 rfl (lv_at hl 0 rfl) ?_
            rw [hQ]
            have hP9 := hP.sub (ws' := [(zo13rrirrrr h0 sc kp ik bl go ch bo), (zo4rrir go gR gO (nI n) gS), (zaI gR cR 8 fR9_38), (zaI gO cO 8 fO9_39), (zo10ririliiriririr sc aTp (nI ts) aHl (nI nh) ed mi sn aHs (nI n) aWk (nI wz) aBk (nI bz) aFc), (zaR aHs cHs 8 fHs), (zaI aFc cFc 6 fFc9_40)]) [0, 1, 2, 3, 4, 5, 6] rfl
            have hD9 := hD.sub (ws' := [(zo13rrirrrr h0 sc kp ik bl go ch bo), (zo4rrir go gR gO (nI n) gS), (zaI gR cR 8 fR9_38), (zaI gO cO 8 fO9_39), (zo10ririliiriririr sc aTp (nI ts) aHl (nI nh) ed mi sn aHs (nI n) aWk (nI wz) aBk (nI bz) aFc), (zaR aHs cHs 8 fHs), (zaI aFc cFc 6 fFc9_40)]) [0, 1, 2, 3, 4, 5, 6] (by decide) rfl
            have hK9 := hK.sub (tys' := [(cR, .int), (cO, .int), (cHs, .object "MistHeaps$Heap"), (cFc, .int)]) [0, 1, 2, 3] rfl
            exact W.iret (v := 6) hx hb hr (fun tQ htQ hWQ => ⟨⟨6, (n, fR9_38, fO9_39, fFc9_40), rfl, ⟨by omega, be_m hn8 hj1 hj2 ((be_up (i := 6) hA9 (fun z9 => c_43 ((show fwR _ n (nI j1) (nI j2) 0 = fsR (gRow n yk yv yc cz mi (nI 6)) n (nI j1) (nI j2) 0 from fw_row hn8 hj1 hj2 (b_0 _) hlO.B).trans z9))).trans hA0)⟩, by rw [htQ]; exact hP9, va_K.moved hWQ.alike hK9, hD9⟩, hS.F htQ⟩) hS.2.2 dX11_bears_49
        · skip
          refine lv_iload_n hx hb dX11_bears_48 rfl (lv_at hl 0 rfl) ?_
          rw [hQ]
          have hP9 := hP.sub (ws' := [(zo13rrirrrr h0 sc kp ik bl go ch bo), (zo4rrir go gR gO (nI n) gS), (zaI gR cR 8 fR9_28), (zaI gO cO 8 fO9_29), (zo10ririliiriririr sc aTp (nI ts) aHl (nI nh) ed mi sn aHs (nI n) aWk (nI wz) aBk (nI bz) aFc), (zaR aHs cHs 8 fHs), (zaI aFc cFc 6 fFc9_30)]) [0, 1, 2, 3, 4, 5, 6] rfl
          have hD9 := hD.sub (ws' := [(zo13rrirrrr h0 sc kp ik bl go ch bo), (zo4rrir go gR gO (nI n) gS), (zaI gR cR 8 fR9_28), (zaI gO cO 8 fO9_29), (zo10ririliiriririr sc aTp (nI ts) aHl (nI nh) ed mi sn aHs (nI n) aWk (nI wz) aBk (nI bz) aFc), (zaR aHs cHs 8 fHs), (zaI aFc cFc 6 fFc9_30)]) [0, 1, 2, 3, 4, 5, 6] (by decide) rfl
          have hK9 := hK.sub (tys' := [(cR, .int), (cO, .int), (cHs, .object "MistHeaps$Heap"), (cFc, .int)]) [0, 1, 2, 3] rfl
          exact W.iret (v := 7) hx hb hr (fun tQ htQ hWQ => ⟨⟨7, (n, fR9_28, fO9_29, fFc9_30), rfl, ⟨by omega, be_m hn8 hj1 hj2 ((be_up (i := 7) hA9 (fun z9 => c_33 ((show fwR _ n (nI j1) (nI j2) 0 = fsR (gRow n yk yv yc cz mi (nI 7)) n (nI j1) (nI j2) 0 from fw_row hn8 hj1 hj2 (b_0 _) hlO.B).trans z9))).trans hA0)⟩, by rw [htQ]; exact hP9, va_K.moved hWQ.alike hK9, hD9⟩, hS.F htQ⟩) hS.2.2 dX11_bears_49
      · skip
        refine lv_iload_n hx hb dX11_bears_48 rfl (lv_at hl 0 rfl) ?_
        rw [hQ]
        have hP9 := hP.sub (ws' := [(zo13rrirrrr h0 sc kp ik bl go ch bo), (zo4rrir go gR gO (nI n) gS), (zaI gR cR 8 fR9_18), (zaI gO cO 8 fO9_19), (zo10ririliiriririr sc aTp (nI ts) aHl (nI nh) ed mi sn aHs (nI n) aWk (nI wz) aBk (nI bz) aFc), (zaR aHs cHs 8 fHs), (zaI aFc cFc 6 fFc9_20)]) [0, 1, 2, 3, 4, 5, 6] rfl
        have hD9 := hD.sub (ws' := [(zo13rrirrrr h0 sc kp ik bl go ch bo), (zo4rrir go gR gO (nI n) gS), (zaI gR cR 8 fR9_18), (zaI gO cO 8 fO9_19), (zo10ririliiriririr sc aTp (nI ts) aHl (nI nh) ed mi sn aHs (nI n) aWk (nI wz) aBk (nI bz) aFc), (zaR aHs cHs 8 fHs), (zaI aFc cFc 6 fFc9_20)]) [0, 1, 2, 3, 4, 5, 6] (by decide) rfl
        have hK9 := hK.sub (tys' := [(cR, .int), (cO, .int), (cHs, .object "MistHeaps$Heap"), (cFc, .int)]) [0, 1, 2, 3] rfl
        exact W.iret (v := 8) hx hb hr (fun tQ htQ hWQ => ⟨⟨8, (n, fR9_18, fO9_19, fFc9_20), rfl, ⟨by omega, be_m hn8 hj1 hj2 ((be_up (i := 8) hA9 (fun z9 => c_23 ((show fwR _ n (nI j1) (nI j2) 0 = fsR (gRow n yk yv yc cz mi (nI 8)) n (nI j1) (nI j2) 0 from fw_row hn8 hj1 hj2 (b_0 _) hlO.B).trans z9))).trans hA0)⟩, by rw [htQ]; exact hP9, va_K.moved hWQ.alike hK9, hD9⟩, hS.F htQ⟩) hS.2.2 dX11_bears_49
    · skip
      refine lv_iload_n hx hb dX11_bears_48 rfl (lv_at hl 0 rfl) ?_
      rw [hQ]
      have hP9 := hP.sub (ws' := [(zo13rrirrrr h0 sc kp ik bl go ch bo), (zo4rrir go gR gO (nI n) gS), (zaI gR cR 8 fR9_8), (zaI gO cO 8 fO9_9), (zo10ririliiriririr sc aTp (nI ts) aHl (nI nh) ed mi sn aHs (nI n) aWk (nI wz) aBk (nI bz) aFc), (zaR aHs cHs 8 fHs), (zaI aFc cFc 6 fFc9_10)]) [0, 1, 2, 3, 4, 5, 6] rfl
      have hD9 := hD.sub (ws' := [(zo13rrirrrr h0 sc kp ik bl go ch bo), (zo4rrir go gR gO (nI n) gS), (zaI gR cR 8 fR9_8), (zaI gO cO 8 fO9_9), (zo10ririliiriririr sc aTp (nI ts) aHl (nI nh) ed mi sn aHs (nI n) aWk (nI wz) aBk (nI bz) aFc), (zaR aHs cHs 8 fHs), (zaI aFc cFc 6 fFc9_10)]) [0, 1, 2, 3, 4, 5, 6] (by decide) rfl
      have hK9 := hK.sub (tys' := [(cR, .int), (cO, .int), (cHs, .object "MistHeaps$Heap"), (cFc, .int)]) [0, 1, 2, 3] rfl
      exact W.iret (v := 9) hx hb hr (fun tQ htQ hWQ => ⟨⟨9, (n, fR9_8, fO9_9, fFc9_10), rfl, ⟨by omega, be_m hn8 hj1 hj2 ((be_up (i := 9) hA9 (fun z9 => c_13 ((show fwR _ n (nI j1) (nI j2) 0 = fsR (gRow n yk yv yc cz mi (nI 9)) n (nI j1) (nI j2) 0 from fw_row hn8 hj1 hj2 (b_0 _) hlO.B).trans z9))).trans hA0)⟩, by rw [htQ]; exact hP9, va_K.moved hWQ.alike hK9, hD9⟩, hS.F htQ⟩) hS.2.2 dX11_bears_49
  · skip
    refine lv_if_ne (tgt := 14) hx hb dX11_bears_9 (by decide) (fun c_105 => absurd c_105 (by decide)) (fun _ => ?_)
    refine lv_iconst (v := (-1)) hx hb dX11_bears_12 (by decide) ?_
    rw [hQ]
    have hP9 := hP.sub (ws' := [(zo13rrirrrr h0 sc kp ik bl go ch bo), (zo4rrir go gR gO (nI lk) gS), (zaI gR cR 8 fR), (zaI gO cO 8 fO), (zo10ririliiriririr sc aTp (nI ts) aHl (nI nh) ed mi sn aHs (nI n) aWk (nI wz) aBk (nI bz) aFc), (zaR aHs cHs 8 fHs), (zaI aFc cFc 6 fFc)]) [0, 1, 2, 3, 4, 5, 6] rfl
    have hD9 := hD.sub (ws' := [(zo13rrirrrr h0 sc kp ik bl go ch bo), (zo4rrir go gR gO (nI lk) gS), (zaI gR cR 8 fR), (zaI gO cO 8 fO), (zo10ririliiriririr sc aTp (nI ts) aHl (nI nh) ed mi sn aHs (nI n) aWk (nI wz) aBk (nI bz) aFc), (zaR aHs cHs 8 fHs), (zaI aFc cFc 6 fFc)]) [0, 1, 2, 3, 4, 5, 6] (by decide) rfl
    have hK9 := hK.sub (tys' := [(cR, .int), (cO, .int), (cHs, .object "MistHeaps$Heap"), (cFc, .int)]) [0, 1, 2, 3] rfl
    exact W.iret (v := (-1)) hx hb hr (fun tQ htQ hWQ => ⟨⟨(-1), (lk, fR, fO, fFc), rfl, ⟨hlk, two_no hno⟩, by rw [htQ]; exact hP9, va_K.moved hWQ.alike hK9, hD9⟩, hS.F htQ⟩) hS.2.2 dX11_bears_13

theorem kc_xLooked_0 : ∀ w ∈ wsX110, w ∈ wsX11_looked := fun w h => List.mem_cons_of_mem _ (gin_wsX110 w h)
theorem kc_xLooked_1 : (.fieldLink RX11 35 "MistHeaps" "goings" "LMistHeaps$Goings;" : Cond) ∈ wsX11_looked := kc_of 332 rfl rfl rfl
theorem kc_xLooked_2 : (.fieldLink RX11 14 "MistHeaps" "scene" "LMistHeaps$Scene;" : Cond) ∈ wsX11_looked := kc_of 328 rfl rfl rfl
theorem kc_xLooked_3 : ∀ w ∈ wsX80, w ∈ wsX11_looked := fun w h => List.mem_cons_of_mem _ (gin_wsX80 w h)
theorem kc_xLooked_4 : (.fieldLink RX11 88 "MistHeaps$Scene" "snow" "I" : Cond) ∈ wsX11_looked := kc_of 166 rfl rfl rfl
theorem kc_xLooked_5 : (.fieldLink RX11 221 "MistHeaps$Scene" "bookSize" "I" : Cond) ∈ wsX11_looked := kc_of 183 rfl rfl rfl
theorem kc_xLooked_6 : (.fieldLink RX11 224 "MistHeaps$Scene" "book" "[I" : Cond) ∈ wsX11_looked := kc_of 181 rfl rfl rfl
set_option maxHeartbeats 4000000 in
set_option maxRecDepth 100000 in
theorem c_xLooked (l : Launch) (dC : Nat → ClassId) (dI : Nat → Nat → Nat) (gd : Nat → Nat)  (kA : Nat)   (h0 : Nat) (sc : Nat) (kp : Nat) (bl : Nat) (go : Nat) (ch : Nat) (bo : Nat) (aTp : Nat) (aHl : Nat) (aHs : Nat) (aWk : Nat) (aBk : Nat) (aFc : Nat) (bW : Nat) (bA : Nat) (bE : Nat) (bC : Nat) (gR : Nat) (gO : Nat) (gS : Nat) (ts : Nat) (nh : Nat) (n : Nat) (wz : Nat) (bz : Nat) (lk : Nat) (cl : Nat) (mi : Int32) (sn : Int32) (sg : Int32) (cdd : Int32) (szz : Int32) (att : Int32) (nmb : Int32) (ik : Int32) (ed : Int64) (cHs : ClassId) (cBk : ClassId) (cFc : ClassId) (cbW : ClassId) (cbA : ClassId) (cbE : ClassId) (cbC : ClassId) (cR : ClassId) (cO : ClassId) (fBk : Nat → Int32) (fFc : Nat → Int32) (fbW : Nat → Int32) (fbA : Nat → Int32) (fbE : Nat → Int32) (fbC : Nat → Int32) (fR : Nat → Int32) (fO : Nat → Int32) (yk : Nat → Int32) (yv : Nat → Int32) (yc : Nat → Int32) (fHs : Nat → Option Nat) (yi : Nat → Nat) (ya : Nat → Nat) (tpv : Value) (cz : List pCla) (w0 : Nat) (sz : Nat) (zhs : ∀ k0, k0 < n → fHs k0 = some (ya k0)) (hn8 : n ≤ 8) (zcl : cl ≤ 10) (zE : ∀ k0, k0 < 10 → ∃ e0 : Nat, e0 ≤ 100 ∧ fbE k0 = nI e0) (zC : ∀ k0, k0 < 100 → okC (fbC k0)) (zyv : ∀ k0, k0 < n → ∃ v0 : Nat, v0 ≤ 9 ∧ yv k0 = nI v0) (zyc : ∀ k0, k0 < n → ∃ v0 : Nat, v0 < 36 ∧ yc k0 = nI v0) (hlk : lk ≤ 8) (hbz : bz ≤ 12) (zbk : ∀ k0, k0 < 12 → ∃ w0 : Nat, w0 < 8 ∧ fBk k0 = nI w0) (zHC : HC cl sg fbW fbA fbE fbC cz ∧ WfC cz) (zyt : ∀ k0, k0 < n → hpT (yi k0) (yk k0)) : Met l yX11_looked wsX11_looked ({ frames := 7, cells := 0, slots := 0, locals := 149 } : Room) (va_Pc [.ref h0] (fun U => U.heap.size = sz ∧ va_P (dC, dI) vwCl [(zo13rrirrrr h0 sc kp ik bl go ch bo), (zo4rrir go gR gO (nI lk) gS), (zaI gR cR 8 fR), (zaI gO cO 8 fO), (zo10ririliiriririr sc aTp (nI ts) aHl (nI nh) ed mi sn aHs (nI n) aWk (nI wz) aBk (nI bz) aFc), (zaR aHs cHs 8 fHs), (zaI aFc cFc 6 fFc), (zaI aBk cBk 12 fBk)] U.heap ∧ va_K (dC, dI) vwCl [(cR, .int), (cO, .int), (cHs, .object "MistHeaps$Heap"), (cFc, .int), (cBk, .int)] U ∧ va_D (fun _ => True) [(zo13rrirrrr h0 sc kp ik bl go ch bo), (zo4rrir go gR gO (nI lk) gS), (zaI gR cR 8 fR), (zaI gO cO 8 fO), (zo10ririliiriririr sc aTp (nI ts) aHl (nI nh) ed mi sn aHs (nI n) aWk (nI wz) aBk (nI bz) aFc), (zaR aHs cHs 8 fHs), (zaI aFc cFc 6 fFc), (zaI aBk cBk 12 fBk)] ∧ Gl gd (va_A [(zo13rrirrrr h0 sc kp ik bl go ch bo), (zo4rrir go gR gO (nI lk) gS), (zaI gR cR 8 fR), (zaI gO cO 8 fO), (zo10ririliiriririr sc aTp (nI ts) aHl (nI nh) ed mi sn aHs (nI n) aWk (nI wz) aBk (nI bz) aFc), (zaR aHs cHs 8 fHs), (zaI aFc cFc 6 fFc), (zaI aBk cBk 12 fBk)] sz) U ∧ Gw (va_A [(zo13rrirrrr h0 sc kp ik bl go ch bo), (zo4rrir go gR gO (nI lk) gS), (zaI gR cR 8 fR), (zaI gO cO 8 fO), (zo10ririliiriririr sc aTp (nI ts) aHl (nI nh) ed mi sn aHs (nI n) aWk (nI wz) aBk (nI bz) aFc), (zaR aHs cHs 8 fHs), (zaI aFc cFc 6 fFc), (zaI aBk cBk 12 fBk)] sz) U ∧ Gn kA (va_A [(zo13rrirrrr h0 sc kp ik bl go ch bo), (zo4rrir go gR gO (nI lk) gS), (zaI gR cR 8 fR), (zaI gO cO 8 fO), (zo10ririliiriririr sc aTp (nI ts) aHl (nI nh) ed mi sn aHs (nI n) aWk (nI wz) aBk (nI bz) aFc), (zaR aHs cHs 8 fHs), (zaI aFc cFc 6 fFc), (zaI aBk cBk 12 fBk)] sz) U ∧ Fz dC dI [(zo7iirrrriviii aHl sg (nI cl) bW bA bE bC cdd tpv szz att nmb), (zaI bW cbW 10 fbW), (zaI bA cbA 10 fbA), (zaI bE cbE 10 fbE), (zaI bC cbC 100 fbC)] [(cbW, .int), (cbA, .int), (cbE, .int), (cbC, .int)] (va_A [(zo13rrirrrr h0 sc kp ik bl go ch bo), (zo4rrir go gR gO (nI lk) gS), (zaI gR cR 8 fR), (zaI gO cO 8 fO), (zo10ririliiriririr sc aTp (nI ts) aHl (nI nh) ed mi sn aHs (nI n) aWk (nI wz) aBk (nI bz) aFc), (zaR aHs cHs 8 fHs), (zaI aFc cFc 6 fFc), (zaI aBk cBk 12 fBk)] sz) U ∧ Hs dC dI n yi ya yk yv yc (va_A [(zo13rrirrrr h0 sc kp ik bl go ch bo), (zo4rrir go gR gO (nI lk) gS), (zaI gR cR 8 fR), (zaI gO cO 8 fO), (zo10ririliiriririr sc aTp (nI ts) aHl (nI nh) ed mi sn aHs (nI n) aWk (nI wz) aBk (nI bz) aFc), (zaR aHs cHs 8 fHs), (zaI aFc cFc 6 fFc), (zaI aBk cBk 12 fBk)] sz) U)) (va_Qi (fun (r : Int32) (u : (Nat) × (Nat → Int32) × (Nat → Int32) × (Nat → Int32)) => match u with | (lk9, fR9, fO9, fFc9) => lk9 ≤ 8) (fun (u : (Nat) × (Nat → Int32) × (Nat → Int32) × (Nat → Int32)) (t : State) => match u with | (lk9, fR9, fO9, fFc9) => va_P (dC, dI) vwCl [(zo13rrirrrr h0 sc kp ik bl go ch bo), (zo4rrir go gR gO (nI lk9) gS), (zaI gR cR 8 fR9), (zaI gO cO 8 fO9), (zo10ririliiriririr sc aTp (nI ts) aHl (nI nh) ed mi sn aHs (nI n) aWk (nI wz) aBk (nI bz) aFc), (zaR aHs cHs 8 fHs), (zaI aFc cFc 6 fFc9), (zaI aBk cBk 12 fBk)] t.heap ∧ va_K (dC, dI) vwCl [(cR, .int), (cO, .int), (cHs, .object "MistHeaps$Heap"), (cFc, .int), (cBk, .int)] t ∧ va_D (va_A [(zo13rrirrrr h0 sc kp ik bl go ch bo), (zo4rrir go gR gO (nI lk) gS), (zaI gR cR 8 fR), (zaI gO cO 8 fO), (zo10ririliiriririr sc aTp (nI ts) aHl (nI nh) ed mi sn aHs (nI n) aWk (nI wz) aBk (nI bz) aFc), (zaR aHs cHs 8 fHs), (zaI aFc cFc 6 fFc), (zaI aBk cBk 12 fBk)] sz) [(zo13rrirrrr h0 sc kp ik bl go ch bo), (zo4rrir go gR gO (nI lk9) gS), (zaI gR cR 8 fR9), (zaI gO cO 8 fO9), (zo10ririliiriririr sc aTp (nI ts) aHl (nI nh) ed mi sn aHs (nI n) aWk (nI wz) aBk (nI bz) aFc), (zaR aHs cHs 8 fHs), (zaI aFc cFc 6 fFc9), (zaI aBk cBk 12 fBk)]) (va_A [(zo13rrirrrr h0 sc kp ik bl go ch bo), (zo4rrir go gR gO (nI lk) gS), (zaI gR cR 8 fR), (zaI gO cO 8 fO), (zo10ririliiriririr sc aTp (nI ts) aHl (nI nh) ed mi sn aHs (nI n) aWk (nI wz) aBk (nI bz) aFc), (zaR aHs cHs 8 fHs), (zaI aFc cFc 6 fFc), (zaI aBk cBk 12 fBk)] sz)) 0 0 (va_A [(zo13rrirrrr h0 sc kp ik bl go ch bo), (zo4rrir go gR gO (nI lk) gS), (zaI gR cR 8 fR), (zaI gO cO 8 fO), (zo10ririliiriririr sc aTp (nI ts) aHl (nI nh) ed mi sn aHs (nI n) aWk (nI wz) aBk (nI bz) aFc), (zaR aHs cHs 8 fHs), (zaI aFc cFc 6 fFc), (zaI aBk cBk 12 fBk)] sz) := by
  refine met_ofQ (cc := cX11_looked) (maxL := 2) (ret := (some .int)) (by decide) rfl ?_
  intro p e s m args below meth c s₁ Q B hml hv hQ
  obtain ⟨rfl, hsz, hP, hK, hD0, hG, hW_, hN_, hZ, hH_⟩ := hv
  have hx := B.exec
  have hb := B.bytes
  have hr := B.returns
  have hts := atoms_spec (ws := wsX11_looked) B.pre
  have hown : s.vm.findClass RX11 = some m.cls := findClass_of_methodNamed B.named
  have hlocks := B.notSynchronized
  subst hsz
  have hD := hD0.self (sz := s.heap.size)
  generalize hAe : va_A [(zo13rrirrrr h0 sc kp ik bl go ch bo), (zo4rrir go gR gO (nI lk) gS), (zaI gR cR 8 fR), (zaI gO cO 8 fO), (zo10ririliiriririr sc aTp (nI ts) aHl (nI nh) ed mi sn aHs (nI n) aWk (nI wz) aBk (nI bz) aFc), (zaR aHs cHs 8 fHs), (zaI aFc cFc 6 fFc), (zaI aBk cBk 12 fBk)] s.heap.size = A at hD hQ hG hW_ hN_ hZ hH_ ⊢
  have hA : ∀ q : Nat, s.heap.size ≤ q → A q := fun q h => by rw [← hAe]; exact Or.inr h
  have hS : va_S A s.heap s.heap [] := va_S.rf
  have hl := lv_entry [.ref h0] (n := 2) (Nat.le_of_ble_eq_true rfl)
  rw [lg_entry_eq]
  generalize (lg_sl [.ref h0] ++ List.replicate (2 - (lg_sl [.ref h0]).length) Slot.unset).toArray = ls at hl ⊢
  generalize hag : ([.ref h0] : List Value).toArray = args at hts hQ ⊢
  have hl : lv_has ls 2 [(0, .ref h0)] := hl
  obtain ⟨H, hH⟩ : ∃ H : Heap, H = s.heap := ⟨_, rfl⟩
  rw [← hH] at hP
  rw [← hH]
  have hS : va_S A s.heap H [] := by rw [hH]; exact hS
  obtain ⟨locs, hlo⟩ : ∃ L : List Loc, L = [] := ⟨_, rfl⟩
  rw [← hlo] at hS
  rw [← hlo]
  clear hH hlo
  refine lv_aload_n hx hb dX11_looked_0 rfl (lv_at hl 0 rfl) ?_
  refine va_get (D := (dC, dI)) (ci := 13) (v := .ref go) (C := RX11) (T := TX11) (N := 7) hx hb hts kc_xLooked_0 hown hK hP 0 rfl rfl 4 (by decide) (hts (.fieldLink RX11 35 "MistHeaps" "goings" "LMistHeaps$Goings;") kc_xLooked_1) (fun _ h9 => h9) rfl dX11_looked_1 ?_
  refine lv_aload_n hx hb dX11_looked_4 rfl (lv_at hl 0 rfl) ?_
  refine va_get (D := (dC, dI)) (ci := 13) (v := .ref sc) (C := RX11) (T := TX11) (N := 7) hx hb hts kc_xLooked_0 hown hK hP 0 rfl rfl 0 (by decide) (hts (.fieldLink RX11 14 "MistHeaps" "scene" "LMistHeaps$Scene;") kc_xLooked_2) (fun _ h9 => h9) rfl dX11_looked_5 ?_
  refine lv_aload_n hx hb dX11_looked_8 rfl (lv_at hl 0 rfl) ?_
  refine va_get (D := (dC, dI)) (ci := 13) (v := .ref sc) (C := RX11) (T := TX11) (N := 7) hx hb hts kc_xLooked_0 hown hK hP 0 rfl rfl 0 (by decide) (hts (.fieldLink RX11 14 "MistHeaps" "scene" "LMistHeaps$Scene;") kc_xLooked_2) (fun _ h9 => h9) rfl dX11_looked_9 ?_
  refine va_get (D := (dC, dI)) (ci := 10) (v := .int sn) (C := RX8) (T := TX8) (N := 14) hx hb hts kc_xLooked_3 hown hK hP 4 rfl rfl 6 (by decide) (hts (.fieldLink RX11 88 "MistHeaps$Scene" "snow" "I") kc_xLooked_4) (fun _ h9 => h9) rfl dX11_looked_12 ?_
  have hPc := hP.sub (ws' := [(zo4rrir go gR gO (nI lk) gS), (zaI gR cR 8 fR), (zaI gO cO 8 fO), (zo10ririliiriririr sc aTp (nI ts) aHl (nI nh) ed mi sn aHs (nI n) aWk (nI wz) aBk (nI bz) aFc), (zaR aHs cHs 8 fHs), (zaI aFc cFc 6 fFc)]) [1, 2, 3, 4, 5, 6] rfl
  have hDc := hD.sub (ws' := [(zo4rrir go gR gO (nI lk) gS), (zaI gR cR 8 fR), (zaI gO cO 8 fO), (zo10ririliiriririr sc aTp (nI ts) aHl (nI nh) ed mi sn aHs (nI n) aWk (nI wz) aBk (nI bz) aFc), (zaR aHs cHs 8 fHs), (zaI aFc cFc 6 fFc)]) [1, 2, 3, 4, 5, 6] (by decide) rfl
  have hKc := hK.sub (tys' := [(cR, .int), (cO, .int), (cHs, .object "MistHeaps$Heap"), (cFc, .int)]) [0, 1, 2, 3] rfl
  have hFc := va_free (wc := [(zo4rrir go gR gO (nI lk) gS), (zaI gR cR 8 fR), (zaI gO cO 8 fO), (zo10ririliiriririr sc aTp (nI ts) aHl (nI nh) ed mi sn aHs (nI n) aWk (nI wz) aBk (nI bz) aFc), (zaR aHs cHs 8 fHs), (zaI aFc cFc 6 fFc)]) hD hS hA [1, 2, 3, 4, 5, 6] rfl
  refine va_callv (va_runV (As := [.ref sc, .int sn]) (rest := []) ⟨hx, hb, hml, hown, hts⟩ (c_link l dC dI gd  kA   sc go aTp aHl aHs aWk aBk aFc bW bA bE bC gR gO gS ts nh n wz bz lk cl mi sn sg cdd szz att nmb sn ed cHs cFc cbW cbA cbE cbC cR cO fFc fbW fbA fbE fbC fR fO yk yv yc fHs yi ya tpv cz H.size (zhs) (hn8) (zcl) (zE) (zC) (zyv) (zyc) (zHC) (zyt)) (cwV 2 hts gX11_looked_X2_link rfl rfl rfl hd_yX2_link ⟨Nat.le_of_ble_eq_true rfl, Nat.le_of_ble_eq_true rfl⟩) ⟨fun a U g mk q => by obtain ⟨q0, q1, qP, qK, qD, qhG, qhW_, qhN_, qhZ, qhH_⟩ := q; exact ⟨q0, q1, qP, va_K.moved (u := U) (U := U.calling g mk a) (Vm.Alike.refl U.vm) qK, qD, qhG.same rfl rfl, qhW_.same rfl rfl, qhN_.same rfl rfl, qhZ.same rfl rfl, qhH_.same rfl rfl⟩, va_recv hK hP (ci := 4) (q := (RX2, TX2, 4)) (q0 := 1) rfl rfl, fun U hU hW => ⟨rfl, by rw [hU], by rw [hU]; exact hPc, va_K.moved hW.alike hKc, hDc.weaken (fun _ _ _ _ => trivial), hG.call hS hU hW (fun q h => hFc q h), hW_.call hS hU hW (fun q h => hFc q h), hN_.call hS hU hW (fun q h => hFc q h), (hZ.sub [0, 1, 2, 3, 4] [0, 1, 2, 3] rfl rfl).call hS hU hW (fun q h => hFc q h), hH_.call hS hU hW (fun q h => hFc q h)⟩⟩ rfl rfl hl.1 rfl (lv_room (Nat.le_of_ble_eq_true rfl)) dX11_looked_15 ⟨Nat.le_of_ble_eq_true rfl, Nat.le_of_ble_eq_true rfl⟩) hS (fun q _ h => hFc q h) hFc (fun u tC H1 locs htC hvm hw_2 hB hz1 hk1 hS => ?_)
  obtain ⟨lk9_3, fR9_4, fO9_5, fFc9_6⟩ := u
  try dsimp only at hw_2 hB
  obtain ⟨hP1, hK1, hD1⟩ := hB
  rw [htC] at hP1
  have hK1 := va_K.moved hvm.symm hK1
  obtain ⟨hP, hD⟩ := va_join (wr := [(zo13rrirrrr h0 sc kp ik bl go ch bo), (zaI aBk cBk 12 fBk)]) (w1 := [(zo4rrir go gR gO (nI lk9_3) gS), (zaI gR cR 8 fR9_4), (zaI gO cO 8 fO9_5), (zo10ririliiriririr sc aTp (nI ts) aHl (nI nh) ed mi sn aHs (nI n) aWk (nI wz) aBk (nI bz) aFc), (zaR aHs cHs 8 fHs), (zaI aFc cFc 6 fFc9_6)]) hP hD [1, 2, 3, 4, 5, 6] [0, 7] rfl rfl (by decide) (by decide) hk1 hFc hP1 hD1
  have hK := (hK.sub (tys' := [(cBk, .int)]) [4] rfl).app hK1
  generalize H1 = H at hP hS ⊢
  have hP : va_P (dC, dI) vwCl [(zo13rrirrrr h0 sc kp ik bl go ch bo), (zaI aBk cBk 12 fBk), (zo4rrir go gR gO (nI lk9_3) gS), (zaI gR cR 8 fR9_4), (zaI gO cO 8 fO9_5), (zo10ririliiriririr sc aTp (nI ts) aHl (nI nh) ed mi sn aHs (nI n) aWk (nI wz) aBk (nI bz) aFc), (zaR aHs cHs 8 fHs), (zaI aFc cFc 6 fFc9_6)] H := hP
  have hD : va_D A [(zo13rrirrrr h0 sc kp ik bl go ch bo), (zaI aBk cBk 12 fBk), (zo4rrir go gR gO (nI lk9_3) gS), (zaI gR cR 8 fR9_4), (zaI gO cO 8 fO9_5), (zo10ririliiriririr sc aTp (nI ts) aHl (nI nh) ed mi sn aHs (nI n) aWk (nI wz) aBk (nI bz) aFc), (zaR aHs cHs 8 fHs), (zaI aFc cFc 6 fFc9_6)] := hD
  have hK : va_K (dC, dI) vwCl [(cBk, .int), (cR, .int), (cO, .int), (cHs, .object "MistHeaps$Heap"), (cFc, .int)] s := hK
  obtain ⟨elk, hlR, hlO⟩ := hw_2
  obtain rfl := elk.symm
  refine lv_iconst (v := 1) hx hb dX11_looked_18 (by decide) ?_
  refine lv_istore_n (lv' := [(1, .int 1), (0, .ref h0)]) hx hb dX11_looked_19 rfl hl (by decide) rfl (fun ls hl => ?_)
  have L20 : ∀ (nF : Nat) (i : Nat) (fR2 : Nat → Int32) (fO2 : Nat → Int32) (fFc2 : Nat → Int32), bz + 1 - i < nF → (1 ≤ i ∧ i ≤ 13) → ∀ (H : Heap) (locs : List Loc), va_K (dC, dI) vwCl [(cR, .int), (cO, .int), (cHs, .object "MistHeaps$Heap"), (cFc, .int), (cBk, .int)] s → va_P (dC, dI) vwCl [(zo13rrirrrr h0 sc kp ik bl go ch bo), (zo4rrir go gR gO (nI n) gS), (zaI gR cR 8 fR2), (zaI gO cO 8 fO2), (zo10ririliiriririr sc aTp (nI ts) aHl (nI nh) ed mi sn aHs (nI n) aWk (nI wz) aBk (nI bz) aFc), (zaR aHs cHs 8 fHs), (zaI aFc cFc 6 fFc2), (zaI aBk cBk 12 fBk)] H → va_D A [(zo13rrirrrr h0 sc kp ik bl go ch bo), (zo4rrir go gR gO (nI n) gS), (zaI gR cR 8 fR2), (zaI gO cO 8 fO2), (zo10ririliiriririr sc aTp (nI ts) aHl (nI nh) ed mi sn aHs (nI n) aWk (nI wz) aBk (nI bz) aFc), (zaR aHs cHs 8 fHs), (zaI aFc cFc 6 fFc2), (zaI aBk cBk 12 fBk)] → va_S A s.heap H locs → ∀ (ls : Array Slot), lv_has ls 2 [(0, .ref h0), (1, .int (nI i))] → W p l e ({ frames := 7, cells := 0, slots := 0, locals := 149 } : Room) s m args below meth c H locs 0 0 Q (F0 m 20 ls []) := by
    intro nF
    induction nF with
    | zero => intro i fR2 fO2 fFc2 hm; exact absurd hm (Nat.not_lt_zero _)
    | succ nF ih20 =>
      intro i fR2 fO2 fFc2 hm hii H locs hK hP hD hS ls hl
      refine lv_iload_n hx hb dX11_looked_20 rfl (lv_at hl 1 rfl) ?_
      refine lv_aload_n hx hb dX11_looked_21 rfl (lv_at hl 0 rfl) ?_
      refine va_get (D := (dC, dI)) (ci := 13) (v := .ref sc) (C := RX11) (T := TX11) (N := 7) hx hb hts kc_xLooked_0 hown hK hP 0 rfl rfl 0 (by decide) (hts (.fieldLink RX11 14 "MistHeaps" "scene" "LMistHeaps$Scene;") kc_xLooked_2) (fun _ h9 => h9) rfl dX11_looked_22 ?_
      refine va_get (D := (dC, dI)) (ci := 10) (v := .int (nI bz)) (C := RX8) (T := TX8) (N := 14) hx hb hts kc_xLooked_3 hown hK hP 4 rfl rfl 12 (by decide) (hts (.fieldLink RX11 221 "MistHeaps$Scene" "bookSize" "I") kc_xLooked_5) (fun _ h9 => h9) rfl dX11_looked_25 ?_
      refine lv_icmp_ge (tgt := 77) hx hb dX11_looked_28 (by decide) (fun c_7 => ?_) (fun c_7 => ?_)
      · skip
        have c_7 : bz ≤ i := (nI_leI (a := bz) (b := i) (by omega) (by omega)).mp c_7
        refine lv_bipush (v := (-5)) hx hb dX11_looked_77 (by decide) ?_
        rw [hQ]
        have hP9 := hP.sub (ws' := [(zo13rrirrrr h0 sc kp ik bl go ch bo), (zo4rrir go gR gO (nI n) gS), (zaI gR cR 8 fR2), (zaI gO cO 8 fO2), (zo10ririliiriririr sc aTp (nI ts) aHl (nI nh) ed mi sn aHs (nI n) aWk (nI wz) aBk (nI bz) aFc), (zaR aHs cHs 8 fHs), (zaI aFc cFc 6 fFc2), (zaI aBk cBk 12 fBk)]) [0, 1, 2, 3, 4, 5, 6, 7] rfl
        have hD9 := hD.sub (ws' := [(zo13rrirrrr h0 sc kp ik bl go ch bo), (zo4rrir go gR gO (nI n) gS), (zaI gR cR 8 fR2), (zaI gO cO 8 fO2), (zo10ririliiriririr sc aTp (nI ts) aHl (nI nh) ed mi sn aHs (nI n) aWk (nI wz) aBk (nI bz) aFc), (zaR aHs cHs 8 fHs), (zaI aFc cFc 6 fFc2), (zaI aBk cBk 12 fBk)]) [0, 1, 2, 3, 4, 5, 6, 7] (by decide) rfl
        have hK9 := hK.sub (tys' := [(cR, .int), (cO, .int), (cHs, .object "MistHeaps$Heap"), (cFc, .int), (cBk, .int)]) [0, 1, 2, 3, 4] rfl
        exact W.iret (v := (-5)) hx hb hr (fun tQ htQ hWQ => ⟨⟨(-5), (n, fR2, fO2, fFc2), rfl, by omega, by rw [htQ]; exact hP9, va_K.moved hWQ.alike hK9, hD9⟩, hS.F htQ⟩) hS.2.2 dX11_looked_79
      · skip
        have c_7 : ¬ bz ≤ i := fun q => c_7 ((nI_leI (a := bz) (b := i) (by omega) (by omega)).mpr q)
        refine lv_aload_n hx hb dX11_looked_31 rfl (lv_at hl 0 rfl) ?_
        refine va_get (D := (dC, dI)) (ci := 13) (v := .ref go) (C := RX11) (T := TX11) (N := 7) hx hb hts kc_xLooked_0 hown hK hP 0 rfl rfl 4 (by decide) (hts (.fieldLink RX11 35 "MistHeaps" "goings" "LMistHeaps$Goings;") kc_xLooked_1) (fun _ h9 => h9) rfl dX11_looked_32 ?_
        refine lv_aload_n hx hb dX11_looked_35 rfl (lv_at hl 0 rfl) ?_
        refine va_get (D := (dC, dI)) (ci := 13) (v := .ref sc) (C := RX11) (T := TX11) (N := 7) hx hb hts kc_xLooked_0 hown hK hP 0 rfl rfl 0 (by decide) (hts (.fieldLink RX11 14 "MistHeaps" "scene" "LMistHeaps$Scene;") kc_xLooked_2) (fun _ h9 => h9) rfl dX11_looked_36 ?_
        refine va_get (D := (dC, dI)) (ci := 10) (v := .ref aBk) (C := RX8) (T := TX8) (N := 14) hx hb hts kc_xLooked_3 hown hK hP 4 rfl rfl 11 (by decide) (hts (.fieldLink RX11 224 "MistHeaps$Scene" "book" "[I") kc_xLooked_6) (fun _ h9 => h9) rfl dX11_looked_39 ?_
        refine lv_iload_n hx hb dX11_looked_42 rfl (lv_at hl 1 rfl) ?_
        refine lv_iconst (v := 1) hx hb dX11_looked_43 (by decide) ?_
        refine lv_isub hx hb dX11_looked_44 ?_
        refine qi_as (y := nI (i - 1)) (pk_sub (a := i) (b := 1) (by omega)) ?_
        refine va_iald hx hb hK hP 7 4 rfl rfl (vp_in_nI (n := i - 1) (N := 12) (by omega) (by omega)) dX11_looked_45 ?_
        obtain ⟨j1, hj1, e1⟩ := zbk (i - 1) (by omega)
        refine qi_as (y := nI j1) ((show fBk (nI (i - 1) : Int32).toNatClampNeg = fBk (i - 1) from by rw [nI_clamp (by omega)]).trans (e1)) ?_
        refine lv_aload_n hx hb dX11_looked_46 rfl (lv_at hl 0 rfl) ?_
        refine va_get (D := (dC, dI)) (ci := 13) (v := .ref sc) (C := RX11) (T := TX11) (N := 7) hx hb hts kc_xLooked_0 hown hK hP 0 rfl rfl 0 (by decide) (hts (.fieldLink RX11 14 "MistHeaps" "scene" "LMistHeaps$Scene;") kc_xLooked_2) (fun _ h9 => h9) rfl dX11_looked_47 ?_
        refine va_get (D := (dC, dI)) (ci := 10) (v := .ref aBk) (C := RX8) (T := TX8) (N := 14) hx hb hts kc_xLooked_3 hown hK hP 4 rfl rfl 11 (by decide) (hts (.fieldLink RX11 224 "MistHeaps$Scene" "book" "[I") kc_xLooked_6) (fun _ h9 => h9) rfl dX11_looked_50 ?_
        refine lv_iload_n hx hb dX11_looked_53 rfl (lv_at hl 1 rfl) ?_
        refine va_iald hx hb hK hP 7 4 rfl rfl (vp_in_nI (n := i) (N := 12) (by omega) (by omega)) dX11_looked_54 ?_
        obtain ⟨j2, hj2, e2⟩ := zbk i (by omega)
        refine qi_as (y := nI j2) ((show fBk (nI i : Int32).toNatClampNeg = fBk i from by rw [nI_clamp (by omega)]).trans (e2)) ?_
        have hPc := hP.sub (ws' := [(zo4rrir go gR gO (nI n) gS), (zaI gO cO 8 fO2)]) [1, 3] rfl
        have hKc := hK.sub (tys' := [(cO, .int)]) [1] rfl
        refine vp_callSi (va_runV (As := [.int (nI j1), .int (nI j2)]) (rest := []) ⟨hx, hb, hml, hown, hts⟩ (c_isGoing l dC dI go gR gO gS n j1 (nI j2) cO fO2 (by omega)) (cwV 2 hts gX11_looked_X2_isGoing rfl rfl rfl hd_yX2_isGoing ⟨Nat.le_of_ble_eq_true rfl, Nat.le_of_ble_eq_true rfl⟩) ⟨fun a U g mk q => by obtain ⟨q0, qP, qK⟩ := q; exact ⟨q0, qP, va_K.moved (u := U) (U := U.calling g mk a) (Vm.Alike.refl U.vm) qK⟩, va_recv hK hP (ci := 4) (q := (RX2, TX2, 4)) (q0 := 1) rfl rfl, fun U hU hW => ⟨rfl, by rw [hU]; exact hPc, va_K.moved hW.alike hKc⟩⟩ rfl rfl hl.1 rfl (lv_room (Nat.le_of_ble_eq_true rfl)) dX11_looked_55 ⟨Nat.le_of_ble_eq_true rfl, Nat.le_of_ble_eq_true rfl⟩).run (fun r_8 hw_9 => ?_)
        rcases hw_9 with ⟨rfl, hd_10⟩ | ⟨rfl, hd_10⟩
        · skip
          refine lv_if_ne (tgt := 71) hx hb dX11_looked_58 (by decide) (fun _ => ?_) (fun c_11 => absurd c_11 (by decide))
          refine lv_iinc (v := nI (i + 1)) (lv' := [(1, .int (nI (i + 1))), (0, .ref h0)]) hx hb dX11_looked_71 hl (k := 1) rfl (nI_add i 1) (by decide) rfl (fun ls hl => ?_)
          refine lv_goto (tgt := 20) hx hb dX11_looked_74 (by decide) ?_
          exact ih20 (i + 1) _ _ _ (by omega) (by omega) _ _ (hK.sub [0, 1, 2, 3, 4] rfl) (hP.sub [0, 1, 2, 3, 4, 5, 6, 7] rfl) (hD.sub [0, 1, 2, 3, 4, 5, 6, 7] (by decide) rfl) hS ls (lv_sub hl [1, 0] rfl)
        · skip
          refine lv_if_ne (tgt := 71) hx hb dX11_looked_58 (by decide) (fun c_12 => absurd c_12 (by decide)) (fun _ => ?_)
          refine lv_aload_n hx hb dX11_looked_61 rfl (lv_at hl 0 rfl) ?_
          refine va_get (D := (dC, dI)) (ci := 13) (v := .ref sc) (C := RX11) (T := TX11) (N := 7) hx hb hts kc_xLooked_0 hown hK hP 0 rfl rfl 0 (by decide) (hts (.fieldLink RX11 14 "MistHeaps" "scene" "LMistHeaps$Scene;") kc_xLooked_2) (fun _ h9 => h9) rfl dX11_looked_62 ?_
          refine va_get (D := (dC, dI)) (ci := 10) (v := .ref aBk) (C := RX8) (T := TX8) (N := 14) hx hb hts kc_xLooked_3 hown hK hP 4 rfl rfl 11 (by decide) (hts (.fieldLink RX11 224 "MistHeaps$Scene" "book" "[I") kc_xLooked_6) (fun _ h9 => h9) rfl dX11_looked_65 ?_
          refine lv_iload_n hx hb dX11_looked_68 rfl (lv_at hl 1 rfl) ?_
          refine va_iald hx hb hK hP 7 4 rfl rfl (vp_in_nI (n := i) (N := 12) (by omega) (by omega)) dX11_looked_69 ?_
          refine qi_as (y := fBk i) (by rw [nI_clamp (by omega)]) ?_
          rw [hQ]
          have hP9 := hP.sub (ws' := [(zo13rrirrrr h0 sc kp ik bl go ch bo), (zo4rrir go gR gO (nI n) gS), (zaI gR cR 8 fR2), (zaI gO cO 8 fO2), (zo10ririliiriririr sc aTp (nI ts) aHl (nI nh) ed mi sn aHs (nI n) aWk (nI wz) aBk (nI bz) aFc), (zaR aHs cHs 8 fHs), (zaI aFc cFc 6 fFc2), (zaI aBk cBk 12 fBk)]) [0, 1, 2, 3, 4, 5, 6, 7] rfl
          have hD9 := hD.sub (ws' := [(zo13rrirrrr h0 sc kp ik bl go ch bo), (zo4rrir go gR gO (nI n) gS), (zaI gR cR 8 fR2), (zaI gO cO 8 fO2), (zo10ririliiriririr sc aTp (nI ts) aHl (nI nh) ed mi sn aHs (nI n) aWk (nI wz) aBk (nI bz) aFc), (zaR aHs cHs 8 fHs), (zaI aFc cFc 6 fFc2), (zaI aBk cBk 12 fBk)]) [0, 1, 2, 3, 4, 5, 6, 7] (by decide) rfl
          have hK9 := hK.sub (tys' := [(cR, .int), (cO, .int), (cHs, .object "MistHeaps$Heap"), (cFc, .int), (cBk, .int)]) [0, 1, 2, 3, 4] rfl
          exact W.iret (v := fBk i) hx hb hr (fun tQ htQ hWQ => ⟨⟨(fBk i), (n, fR2, fO2, fFc2), rfl, by omega, by rw [htQ]; exact hP9, va_K.moved hWQ.alike hK9, hD9⟩, hS.F htQ⟩) hS.2.2 dX11_looked_70
  exact L20 _ (1) _ _ _ (Nat.lt_succ_self _) (by omega) _ _ (hK.sub [1, 2, 3, 4, 0] rfl) (hP.sub [0, 2, 3, 4, 5, 6, 7, 1] rfl) (hD.sub [0, 2, 3, 4, 5, 6, 7, 1] (by decide) rfl) hS ls (lv_sub hl [1, 0] rfl)

theorem kc_xBuild_0 : ∀ w ∈ wsX110, w ∈ wsX11_build := fun w h => List.mem_cons_of_mem _ (gin_wsX110 w h)
theorem kc_xBuild_1 : (.fieldLink RX11 14 "MistHeaps" "scene" "LMistHeaps$Scene;" : Cond) ∈ wsX11_build := kc_of 328 rfl rfl rfl
theorem kc_xBuild_2 : (.fieldLink RX11 35 "MistHeaps" "goings" "LMistHeaps$Goings;" : Cond) ∈ wsX11_build := kc_of 332 rfl rfl rfl
set_option maxHeartbeats 4000000 in
set_option maxRecDepth 100000 in
theorem c_xBuild (l : Launch) (dC : Nat → ClassId) (dI : Nat → Nat → Nat) (gd : Nat → Nat)  (kA : Nat)   (h0 : Nat) (sc : Nat) (kp : Nat) (bl : Nat) (go : Nat) (ch : Nat) (bo : Nat) (aTp : Nat) (aHl : Nat) (aHs : Nat) (aWk : Nat) (aBk : Nat) (aFc : Nat) (bW : Nat) (bA : Nat) (bE : Nat) (bC : Nat) (gR : Nat) (gO : Nat) (gS : Nat) (ts : Nat) (nh : Nat) (n : Nat) (wz : Nat) (bz : Nat) (lk : Nat) (cl : Nat) (i0 : Nat) (mi : Int32) (sn : Int32) (sg : Int32) (cdd : Int32) (szz : Int32) (att : Int32) (nmb : Int32) (scl : Int32) (ik : Int32) (x : Int32) (y : Int32) (z : Int32) (ed : Int64) (cHs : ClassId) (cFc : ClassId) (cbW : ClassId) (cbA : ClassId) (cbE : ClassId) (cbC : ClassId) (cR : ClassId) (cO : ClassId) (fFc : Nat → Int32) (fbW : Nat → Int32) (fbA : Nat → Int32) (fbE : Nat → Int32) (fbC : Nat → Int32) (fR : Nat → Int32) (fO : Nat → Int32) (yk : Nat → Int32) (yv : Nat → Int32) (yc : Nat → Int32) (fHs : Nat → Option Nat) (yi : Nat → Nat) (ya : Nat → Nat) (tpv : Value) (cz : List pCla) (sz : Nat) (zhs : ∀ k0, k0 < n → fHs k0 = some (ya k0)) (hn8 : n ≤ 8) (zcl : cl ≤ 10) (zE : ∀ k0, k0 < 10 → ∃ e0 : Nat, e0 ≤ 100 ∧ fbE k0 = nI e0) (zC : ∀ k0, k0 < 100 → okC (fbC k0)) (zyv : ∀ k0, k0 < n → ∃ v0 : Nat, v0 ≤ 9 ∧ yv k0 = nI v0) (zyc : ∀ k0, k0 < n → ∃ v0 : Nat, v0 < 36 ∧ yc k0 = nI v0) (hlk : lk ≤ 8) (zHC : HC cl sg fbW fbA fbE fbC cz ∧ WfC cz) (zyt : ∀ k0, k0 < n → hpT (yi k0) (yk k0)) : Met l yX11_build wsX11_build ({ frames := 8, cells := 0, slots := 0, locals := 176 } : Room) (va_Pc [.ref h0, .int x, .int y, .int z] (fun U => U.heap.size = sz ∧ va_P (dC, dI) vwCl [(zo13rrirrrr h0 sc kp ik bl go ch bo), (zo4rrir go gR gO (nI lk) gS), (zaI gR cR 8 fR), (zaI gO cO 8 fO), (zo5iiii gS 0 (nI i0) 0 scl), (zo10ririliiriririr sc aTp (nI ts) aHl (nI nh) ed mi sn aHs (nI n) aWk (nI wz) aBk (nI bz) aFc), (zaR aHs cHs 8 fHs), (zaI aFc cFc 6 fFc)] U.heap ∧ va_K (dC, dI) vwCl [(cR, .int), (cO, .int), (cHs, .object "MistHeaps$Heap"), (cFc, .int)] U ∧ va_D (fun _ => True) [(zo13rrirrrr h0 sc kp ik bl go ch bo), (zo4rrir go gR gO (nI lk) gS), (zaI gR cR 8 fR), (zaI gO cO 8 fO), (zo5iiii gS 0 (nI i0) 0 scl), (zo10ririliiriririr sc aTp (nI ts) aHl (nI nh) ed mi sn aHs (nI n) aWk (nI wz) aBk (nI bz) aFc), (zaR aHs cHs 8 fHs), (zaI aFc cFc 6 fFc)] ∧ Gl gd (va_A [(zo13rrirrrr h0 sc kp ik bl go ch bo), (zo4rrir go gR gO (nI lk) gS), (zaI gR cR 8 fR), (zaI gO cO 8 fO), (zo5iiii gS 0 (nI i0) 0 scl), (zo10ririliiriririr sc aTp (nI ts) aHl (nI nh) ed mi sn aHs (nI n) aWk (nI wz) aBk (nI bz) aFc), (zaR aHs cHs 8 fHs), (zaI aFc cFc 6 fFc)] sz) U ∧ Gw (va_A [(zo13rrirrrr h0 sc kp ik bl go ch bo), (zo4rrir go gR gO (nI lk) gS), (zaI gR cR 8 fR), (zaI gO cO 8 fO), (zo5iiii gS 0 (nI i0) 0 scl), (zo10ririliiriririr sc aTp (nI ts) aHl (nI nh) ed mi sn aHs (nI n) aWk (nI wz) aBk (nI bz) aFc), (zaR aHs cHs 8 fHs), (zaI aFc cFc 6 fFc)] sz) U ∧ Gn kA (va_A [(zo13rrirrrr h0 sc kp ik bl go ch bo), (zo4rrir go gR gO (nI lk) gS), (zaI gR cR 8 fR), (zaI gO cO 8 fO), (zo5iiii gS 0 (nI i0) 0 scl), (zo10ririliiriririr sc aTp (nI ts) aHl (nI nh) ed mi sn aHs (nI n) aWk (nI wz) aBk (nI bz) aFc), (zaR aHs cHs 8 fHs), (zaI aFc cFc 6 fFc)] sz) U ∧ Fz dC dI [(zo7iirrrriviii aHl sg (nI cl) bW bA bE bC cdd tpv szz att nmb), (zaI bW cbW 10 fbW), (zaI bA cbA 10 fbA), (zaI bE cbE 10 fbE), (zaI bC cbC 100 fbC)] [(cbW, .int), (cbA, .int), (cbE, .int), (cbC, .int)] (va_A [(zo13rrirrrr h0 sc kp ik bl go ch bo), (zo4rrir go gR gO (nI lk) gS), (zaI gR cR 8 fR), (zaI gO cO 8 fO), (zo5iiii gS 0 (nI i0) 0 scl), (zo10ririliiriririr sc aTp (nI ts) aHl (nI nh) ed mi sn aHs (nI n) aWk (nI wz) aBk (nI bz) aFc), (zaR aHs cHs 8 fHs), (zaI aFc cFc 6 fFc)] sz) U ∧ Hs dC dI n yi ya yk yv yc (va_A [(zo13rrirrrr h0 sc kp ik bl go ch bo), (zo4rrir go gR gO (nI lk) gS), (zaI gR cR 8 fR), (zaI gO cO 8 fO), (zo5iiii gS 0 (nI i0) 0 scl), (zo10ririliiriririr sc aTp (nI ts) aHl (nI nh) ed mi sn aHs (nI n) aWk (nI wz) aBk (nI bz) aFc), (zaR aHs cHs 8 fHs), (zaI aFc cFc 6 fFc)] sz) U)) (va_Qi (fun (r : Int32) (u : (Nat) × (Nat → Int32) × (Nat → Int32) × (Nat → Int32) × (Nat) × (Int32)) => match u with | (lk9, fR9, fO9, fFc9, i09, scl9) => lk9 ≤ 8 ∧ r = bdR n yk yv yc cz mi sn x y z) (fun (u : (Nat) × (Nat → Int32) × (Nat → Int32) × (Nat → Int32) × (Nat) × (Int32)) (t : State) => match u with | (lk9, fR9, fO9, fFc9, i09, scl9) => va_P (dC, dI) vwCl [(zo13rrirrrr h0 sc kp ik bl go ch bo), (zo4rrir go gR gO (nI lk9) gS), (zaI gR cR 8 fR9), (zaI gO cO 8 fO9), (zo5iiii gS 0 (nI i09) 0 scl9), (zo10ririliiriririr sc aTp (nI ts) aHl (nI nh) ed mi sn aHs (nI n) aWk (nI wz) aBk (nI bz) aFc), (zaR aHs cHs 8 fHs), (zaI aFc cFc 6 fFc9)] t.heap ∧ va_K (dC, dI) vwCl [(cR, .int), (cO, .int), (cHs, .object "MistHeaps$Heap"), (cFc, .int)] t ∧ va_D (va_A [(zo13rrirrrr h0 sc kp ik bl go ch bo), (zo4rrir go gR gO (nI lk) gS), (zaI gR cR 8 fR), (zaI gO cO 8 fO), (zo5iiii gS 0 (nI i0) 0 scl), (zo10ririliiriririr sc aTp (nI ts) aHl (nI nh) ed mi sn aHs (nI n) aWk (nI wz) aBk (nI bz) aFc), (zaR aHs cHs 8 fHs), (zaI aFc cFc 6 fFc)] sz) [(zo13rrirrrr h0 sc kp ik bl go ch bo), (zo4rrir go gR gO (nI lk9) gS), (zaI gR cR 8 fR9), (zaI gO cO 8 fO9), (zo5iiii gS 0 (nI i09) 0 scl9), (zo10ririliiriririr sc aTp (nI ts) aHl (nI nh) ed mi sn aHs (nI n) aWk (nI wz) aBk (nI bz) aFc), (zaR aHs cHs 8 fHs), (zaI aFc cFc 6 fFc9)]) (va_A [(zo13rrirrrr h0 sc kp ik bl go ch bo), (zo4rrir go gR gO (nI lk) gS), (zaI gR cR 8 fR), (zaI gO cO 8 fO), (zo5iiii gS 0 (nI i0) 0 scl), (zo10ririliiriririr sc aTp (nI ts) aHl (nI nh) ed mi sn aHs (nI n) aWk (nI wz) aBk (nI bz) aFc), (zaR aHs cHs 8 fHs), (zaI aFc cFc 6 fFc)] sz)) 0 0 (va_A [(zo13rrirrrr h0 sc kp ik bl go ch bo), (zo4rrir go gR gO (nI lk) gS), (zaI gR cR 8 fR), (zaI gO cO 8 fO), (zo5iiii gS 0 (nI i0) 0 scl), (zo10ririliiriririr sc aTp (nI ts) aHl (nI nh) ed mi sn aHs (nI n) aWk (nI wz) aBk (nI bz) aFc), (zaR aHs cHs 8 fHs), (zaI aFc cFc 6 fFc)] sz) := by
  refine met_ofQ (cc := cX11_build) (maxL := 5) (ret := (some .int)) (by decide) rfl ?_
  intro p e s m args below meth c s₁ Q B hml hv hQ
  obtain ⟨rfl, hsz, hP, hK, hD0, hG, hW_, hN_, hZ, hH_⟩ := hv
  have hx := B.exec
  have hb := B.bytes
  have hr := B.returns
  have hts := atoms_spec (ws := wsX11_build) B.pre
  have hown : s.vm.findClass RX11 = some m.cls := findClass_of_methodNamed B.named
  have hlocks := B.notSynchronized
  subst hsz
  have hD := hD0.self (sz := s.heap.size)
  generalize hAe : va_A [(zo13rrirrrr h0 sc kp ik bl go ch bo), (zo4rrir go gR gO (nI lk) gS), (zaI gR cR 8 fR), (zaI gO cO 8 fO), (zo5iiii gS 0 (nI i0) 0 scl), (zo10ririliiriririr sc aTp (nI ts) aHl (nI nh) ed mi sn aHs (nI n) aWk (nI wz) aBk (nI bz) aFc), (zaR aHs cHs 8 fHs), (zaI aFc cFc 6 fFc)] s.heap.size = A at hD hQ hG hW_ hN_ hZ hH_ ⊢
  have hA : ∀ q : Nat, s.heap.size ≤ q → A q := fun q h => by rw [← hAe]; exact Or.inr h
  have hS : va_S A s.heap s.heap [] := va_S.rf
  have hl := lv_entry [.ref h0, .int x, .int y, .int z] (n := 5) (Nat.le_of_ble_eq_true rfl)
  rw [lg_entry_eq]
  generalize (lg_sl [.ref h0, .int x, .int y, .int z] ++ List.replicate (5 - (lg_sl [.ref h0, .int x, .int y, .int z]).length) Slot.unset).toArray = ls at hl ⊢
  generalize hag : ([.ref h0, .int x, .int y, .int z] : List Value).toArray = args at hts hQ ⊢
  have hl : lv_has ls 5 [(0, .ref h0), (1, .int x), (2, .int y), (3, .int z)] := hl
  obtain ⟨H, hH⟩ : ∃ H : Heap, H = s.heap := ⟨_, rfl⟩
  rw [← hH] at hP
  rw [← hH]
  have hS : va_S A s.heap H [] := by rw [hH]; exact hS
  obtain ⟨locs, hlo⟩ : ∃ L : List Loc, L = [] := ⟨_, rfl⟩
  rw [← hlo] at hS
  rw [← hlo]
  clear hH hlo
  refine lv_aload_n hx hb dX11_build_0 rfl (lv_at hl 0 rfl) ?_
  refine va_get (D := (dC, dI)) (ci := 13) (v := .ref sc) (C := RX11) (T := TX11) (N := 7) hx hb hts kc_xBuild_0 hown hK hP 0 rfl rfl 0 (by decide) (hts (.fieldLink RX11 14 "MistHeaps" "scene" "LMistHeaps$Scene;") kc_xBuild_1) (fun _ h9 => h9) rfl dX11_build_1 ?_
  refine lv_iload_n hx hb dX11_build_4 rfl (lv_at hl 1 rfl) ?_
  refine lv_iload_n hx hb dX11_build_5 rfl (lv_at hl 2 rfl) ?_
  have hPc := hP.sub (ws' := [(zo10ririliiriririr sc aTp (nI ts) aHl (nI nh) ed mi sn aHs (nI n) aWk (nI wz) aBk (nI bz) aFc), (zaR aHs cHs 8 fHs)]) [5, 6] rfl
  have hKc := hK.sub (tys' := [(cHs, .object "MistHeaps$Heap")]) [2] rfl
  refine vp_callSi (va_runV (As := [.int x, .int y]) (rest := []) ⟨hx, hb, hml, hown, hts⟩ (c_areHeaps l dC dI sc aTp aHl aHs aWk aBk aFc ts nh n wz bz mi sn x y ed cHs fHs ya (zhs) (hn8)) (cwV 2 hts gX11_build_X8_areHeaps rfl rfl rfl hd_yX8_areHeaps ⟨Nat.le_of_ble_eq_true rfl, Nat.le_of_ble_eq_true rfl⟩) ⟨fun a U g mk q => by obtain ⟨q0, qP, qK⟩ := q; exact ⟨q0, qP, va_K.moved (u := U) (U := U.calling g mk a) (Vm.Alike.refl U.vm) qK⟩, va_recv hK hP (ci := 10) (q := (RX8, TX8, 14)) (q0 := 5) rfl rfl, fun U hU hW => ⟨rfl, by rw [hU]; exact hPc, va_K.moved hW.alike hKc⟩⟩ rfl rfl hl.1 rfl (lv_room (Nat.le_of_ble_eq_true rfl)) dX11_build_6 ⟨Nat.le_of_ble_eq_true rfl, Nat.le_of_ble_eq_true rfl⟩).run (fun r_1 hw_2 => ?_)
  rcases hw_2 with ⟨rfl, j1, j2, hj1, hj2, rfl, rfl⟩ | ⟨rfl, hno⟩
  · skip
    refine lv_if_eq (tgt := 21) hx hb dX11_build_9 (by decide) (fun c_3 => absurd c_3 (by decide)) (fun _ => ?_)
    refine lv_iload_n hx hb dX11_build_12 rfl (lv_at hl 3 rfl) ?_
    refine lv_if_lt (tgt := 21) hx hb dX11_build_13 (by decide) (fun c_4 => ?_) (fun c_4 => ?_)
    · skip
      refine lv_iconst (v := (-1)) hx hb dX11_build_21 (by decide) ?_
      rw [hQ]
      have hP9 := hP.sub (ws' := [(zo13rrirrrr h0 sc kp ik bl go ch bo), (zo4rrir go gR gO (nI lk) gS), (zaI gR cR 8 fR), (zaI gO cO 8 fO), (zo5iiii gS 0 (nI i0) 0 scl), (zo10ririliiriririr sc aTp (nI ts) aHl (nI nh) ed mi sn aHs (nI n) aWk (nI wz) aBk (nI bz) aFc), (zaR aHs cHs 8 fHs), (zaI aFc cFc 6 fFc)]) [0, 1, 2, 3, 4, 5, 6, 7] rfl
      have hD9 := hD.sub (ws' := [(zo13rrirrrr h0 sc kp ik bl go ch bo), (zo4rrir go gR gO (nI lk) gS), (zaI gR cR 8 fR), (zaI gO cO 8 fO), (zo5iiii gS 0 (nI i0) 0 scl), (zo10ririliiriririr sc aTp (nI ts) aHl (nI nh) ed mi sn aHs (nI n) aWk (nI wz) aBk (nI bz) aFc), (zaR aHs cHs 8 fHs), (zaI aFc cFc 6 fFc)]) [0, 1, 2, 3, 4, 5, 6, 7] (by decide) rfl
      have hK9 := hK.sub (tys' := [(cR, .int), (cO, .int), (cHs, .object "MistHeaps$Heap"), (cFc, .int)]) [0, 1, 2, 3] rfl
      exact W.iret (v := (-1)) hx hb hr (fun tQ htQ hWQ => ⟨⟨(-1), (lk, fR, fO, fFc, i0, scl), rfl, ⟨hlk, by first | exact hno.elim bd_no1 bd_no2 | exact bd_no3 (by first | exact Or.inl (by assumption) | exact Or.inr (Int32.not_le.mp (by assumption)))⟩, by rw [htQ]; exact hP9, va_K.moved hWQ.alike hK9, hD9⟩, hS.F htQ⟩) hS.2.2 dX11_build_22
    · skip
      refine lv_iload_n hx hb dX11_build_16 rfl (lv_at hl 3 rfl) ?_
      refine lv_iconst (v := 1) hx hb dX11_build_17 (by decide) ?_
      refine lv_icmp_le (tgt := 23) hx hb dX11_build_18 (by decide) (fun c_5 => ?_) (fun c_5 => ?_)
      · skip
        refine lv_aload_n hx hb dX11_build_23 rfl (lv_at hl 0 rfl) ?_
        refine va_get (D := (dC, dI)) (ci := 13) (v := .ref go) (C := RX11) (T := TX11) (N := 7) hx hb hts kc_xBuild_0 hown hK hP 0 rfl rfl 4 (by decide) (hts (.fieldLink RX11 35 "MistHeaps" "goings" "LMistHeaps$Goings;") kc_xBuild_2) (fun _ h9 => h9) rfl dX11_build_24 ?_
        refine lv_aload_n hx hb dX11_build_27 rfl (lv_at hl 0 rfl) ?_
        refine va_get (D := (dC, dI)) (ci := 13) (v := .ref sc) (C := RX11) (T := TX11) (N := 7) hx hb hts kc_xBuild_0 hown hK hP 0 rfl rfl 0 (by decide) (hts (.fieldLink RX11 14 "MistHeaps" "scene" "LMistHeaps$Scene;") kc_xBuild_1) (fun _ h9 => h9) rfl dX11_build_28 ?_
        refine lv_iload_n hx hb dX11_build_31 rfl (lv_at hl 1 rfl) ?_
        refine lv_iload_n hx hb dX11_build_32 rfl (lv_at hl 2 rfl) ?_
        have hPc := hP.sub (ws' := [(zo4rrir go gR gO (nI lk) gS), (zaI gR cR 8 fR), (zaI gO cO 8 fO), (zo5iiii gS 0 (nI i0) 0 scl), (zo10ririliiriririr sc aTp (nI ts) aHl (nI nh) ed mi sn aHs (nI n) aWk (nI wz) aBk (nI bz) aFc), (zaR aHs cHs 8 fHs), (zaI aFc cFc 6 fFc)]) [1, 2, 3, 4, 5, 6, 7] rfl
        have hDc := hD.sub (ws' := [(zo4rrir go gR gO (nI lk) gS), (zaI gR cR 8 fR), (zaI gO cO 8 fO), (zo5iiii gS 0 (nI i0) 0 scl), (zo10ririliiriririr sc aTp (nI ts) aHl (nI nh) ed mi sn aHs (nI n) aWk (nI wz) aBk (nI bz) aFc), (zaR aHs cHs 8 fHs), (zaI aFc cFc 6 fFc)]) [1, 2, 3, 4, 5, 6, 7] (by decide) rfl
        have hKc := hK.sub (tys' := [(cR, .int), (cO, .int), (cHs, .object "MistHeaps$Heap"), (cFc, .int)]) [0, 1, 2, 3] rfl
        have hFc := va_free (wc := [(zo4rrir go gR gO (nI lk) gS), (zaI gR cR 8 fR), (zaI gO cO 8 fO), (zo5iiii gS 0 (nI i0) 0 scl), (zo10ririliiriririr sc aTp (nI ts) aHl (nI nh) ed mi sn aHs (nI n) aWk (nI wz) aBk (nI bz) aFc), (zaR aHs cHs 8 fHs), (zaI aFc cFc 6 fFc)]) hD hS hA [1, 2, 3, 4, 5, 6, 7] rfl
        refine va_calli (va_runV (As := [.ref sc, .int (nI j1), .int (nI j2)]) (rest := []) ⟨hx, hb, hml, hown, hts⟩ (c_bestCell l dC dI gd  kA   sc go aTp aHl aHs aWk aBk aFc bW bA bE bC gR gO gS ts nh n wz bz lk cl j1 j2 i0 mi sn sg cdd szz att nmb scl ed cHs cFc cbW cbA cbE cbC cR cO fFc fbW fbA fbE fbC fR fO yk yv yc fHs yi ya tpv cz H.size (zhs) (hn8) (zcl) (zE) (zC) (zyv) (zyc) (by omega) (hj1) (hj2) (zHC) (zyt)) (cwV 3 hts gX11_build_X2_bestCell rfl rfl rfl hd_yX2_bestCell ⟨Nat.le_of_ble_eq_true rfl, Nat.le_of_ble_eq_true rfl⟩) ⟨fun a U g mk q => by obtain ⟨q0, q1, qP, qK, qD, qhG, qhW_, qhN_, qhZ, qhH_⟩ := q; exact ⟨q0, q1, qP, va_K.moved (u := U) (U := U.calling g mk a) (Vm.Alike.refl U.vm) qK, qD, qhG.same rfl rfl, qhW_.same rfl rfl, qhN_.same rfl rfl, qhZ.same rfl rfl, qhH_.same rfl rfl⟩, va_recv hK hP (ci := 4) (q := (RX2, TX2, 4)) (q0 := 1) rfl rfl, fun U hU hW => ⟨rfl, by rw [hU], by rw [hU]; exact hPc, va_K.moved hW.alike hKc, hDc.weaken (fun _ _ _ _ => trivial), hG.call hS hU hW (fun q h => hFc q h), hW_.call hS hU hW (fun q h => hFc q h), hN_.call hS hU hW (fun q h => hFc q h), (hZ.sub [0, 1, 2, 3, 4] [0, 1, 2, 3] rfl rfl).call hS hU hW (fun q h => hFc q h), hH_.call hS hU hW (fun q h => hFc q h)⟩⟩ rfl rfl hl.1 rfl (lv_room (Nat.le_of_ble_eq_true rfl)) dX11_build_33 ⟨Nat.le_of_ble_eq_true rfl, Nat.le_of_ble_eq_true rfl⟩) hS (fun q _ h => hFc q h) hFc (fun r_6 u tC H1 locs htC hvm hw_7 hB hz1 hk1 hS => ?_)
        obtain ⟨lk9_8, fR9_9, fO9_10, fFc9_11, i09_12, scl9_13⟩ := u
        try dsimp only at hw_7 hB
        obtain ⟨hP1, hK1, hD1⟩ := hB
        rw [htC] at hP1
        have hK1 := va_K.moved hvm.symm hK1
        obtain ⟨hP, hD⟩ := va_join (wr := [(zo13rrirrrr h0 sc kp ik bl go ch bo)]) (w1 := [(zo4rrir go gR gO (nI lk9_8) gS), (zaI gR cR 8 fR9_9), (zaI gO cO 8 fO9_10), (zo5iiii gS 0 (nI i09_12) 0 scl9_13), (zo10ririliiriririr sc aTp (nI ts) aHl (nI nh) ed mi sn aHs (nI n) aWk (nI wz) aBk (nI bz) aFc), (zaR aHs cHs 8 fHs), (zaI aFc cFc 6 fFc9_11)]) hP hD [1, 2, 3, 4, 5, 6, 7] [0] rfl rfl (by decide) (by decide) hk1 hFc hP1 hD1
        have hK := (hK.sub (tys' := []) [] rfl).app hK1
        generalize H1 = H at hP hS ⊢
        have hP : va_P (dC, dI) vwCl [(zo13rrirrrr h0 sc kp ik bl go ch bo), (zo4rrir go gR gO (nI lk9_8) gS), (zaI gR cR 8 fR9_9), (zaI gO cO 8 fO9_10), (zo5iiii gS 0 (nI i09_12) 0 scl9_13), (zo10ririliiriririr sc aTp (nI ts) aHl (nI nh) ed mi sn aHs (nI n) aWk (nI wz) aBk (nI bz) aFc), (zaR aHs cHs 8 fHs), (zaI aFc cFc 6 fFc9_11)] H := hP
        have hD : va_D A [(zo13rrirrrr h0 sc kp ik bl go ch bo), (zo4rrir go gR gO (nI lk9_8) gS), (zaI gR cR 8 fR9_9), (zaI gO cO 8 fO9_10), (zo5iiii gS 0 (nI i09_12) 0 scl9_13), (zo10ririliiriririr sc aTp (nI ts) aHl (nI nh) ed mi sn aHs (nI n) aWk (nI wz) aBk (nI bz) aFc), (zaR aHs cHs 8 fHs), (zaI aFc cFc 6 fFc9_11)] := hD
        have hK : va_K (dC, dI) vwCl [(cR, .int), (cO, .int), (cHs, .object "MistHeaps$Heap"), (cFc, .int)] s := hK
        rcases hw_7 with ⟨h8, rfl, hl9⟩ | ⟨h8, hr9, hl9, hRJ9⟩
        · skip
          refine lv_istore (lv' := [(4, .int (-5)), (0, .ref h0), (1, .int (nI j1)), (2, .int (nI j2)), (3, .int z)]) hx hb dX11_build_36 hl (by decide) rfl (fun ls hl => ?_)
          refine lv_iload hx hb dX11_build_38 (lv_at hl 0 rfl) ?_
          refine lv_bipush (v := (-5)) hx hb dX11_build_40 (by decide) ?_
          refine lv_icmp_eq (tgt := 49) hx hb dX11_build_42 (by decide) (fun _ => ?_) (fun c_14 => absurd c_14 (by decide))
          refine lv_iload hx hb dX11_build_49 (lv_at hl 0 rfl) ?_
          rw [hQ]
          have hP9 := hP.sub (ws' := [(zo13rrirrrr h0 sc kp ik bl go ch bo), (zo4rrir go gR gO (nI lk9_8) gS), (zaI gR cR 8 fR9_9), (zaI gO cO 8 fO9_10), (zo5iiii gS 0 (nI i09_12) 0 scl9_13), (zo10ririliiriririr sc aTp (nI ts) aHl (nI nh) ed mi sn aHs (nI n) aWk (nI wz) aBk (nI bz) aFc), (zaR aHs cHs 8 fHs), (zaI aFc cFc 6 fFc9_11)]) [0, 1, 2, 3, 4, 5, 6, 7] rfl
          have hD9 := hD.sub (ws' := [(zo13rrirrrr h0 sc kp ik bl go ch bo), (zo4rrir go gR gO (nI lk9_8) gS), (zaI gR cR 8 fR9_9), (zaI gO cO 8 fO9_10), (zo5iiii gS 0 (nI i09_12) 0 scl9_13), (zo10ririliiriririr sc aTp (nI ts) aHl (nI nh) ed mi sn aHs (nI n) aWk (nI wz) aBk (nI bz) aFc), (zaR aHs cHs 8 fHs), (zaI aFc cFc 6 fFc9_11)]) [0, 1, 2, 3, 4, 5, 6, 7] (by decide) rfl
          have hK9 := hK.sub (tys' := [(cR, .int), (cO, .int), (cHs, .object "MistHeaps$Heap"), (cFc, .int)]) [0, 1, 2, 3] rfl
          exact W.iret (v := (-5)) hx hb hr (fun tQ htQ hWQ => ⟨⟨(-5), (lk9_8, fR9_9, fO9_10, fFc9_11, i09_12, scl9_13), rfl, ⟨hl9, bd_8 hj1 hj2 (by assumption) (Int32.not_lt.mpr (by assumption)) h8⟩, by rw [htQ]; exact hP9, va_K.moved hWQ.alike hK9, hD9⟩, hS.F htQ⟩) hS.2.2 dX11_build_51
        · skip
          refine lv_istore (lv' := [(4, .int r_6), (0, .ref h0), (1, .int (nI j1)), (2, .int (nI j2)), (3, .int z)]) hx hb dX11_build_36 hl (by decide) rfl (fun ls hl => ?_)
          refine lv_iload hx hb dX11_build_38 (lv_at hl 0 rfl) ?_
          refine lv_bipush (v := (-5)) hx hb dX11_build_40 (by decide) ?_
          refine lv_icmp_eq (tgt := 49) hx hb dX11_build_42 (by decide) (fun c_15 => ?_) (fun c_15 => ?_)
          · skip
            refine lv_iload hx hb dX11_build_49 (lv_at hl 0 rfl) ?_
            rw [hQ]
            have hP9 := hP.sub (ws' := [(zo13rrirrrr h0 sc kp ik bl go ch bo), (zo4rrir go gR gO (nI lk9_8) gS), (zaI gR cR 8 fR9_9), (zaI gO cO 8 fO9_10), (zo5iiii gS 0 (nI i09_12) 0 scl9_13), (zo10ririliiriririr sc aTp (nI ts) aHl (nI nh) ed mi sn aHs (nI n) aWk (nI wz) aBk (nI bz) aFc), (zaR aHs cHs 8 fHs), (zaI aFc cFc 6 fFc9_11)]) [0, 1, 2, 3, 4, 5, 6, 7] rfl
            have hD9 := hD.sub (ws' := [(zo13rrirrrr h0 sc kp ik bl go ch bo), (zo4rrir go gR gO (nI lk9_8) gS), (zaI gR cR 8 fR9_9), (zaI gO cO 8 fO9_10), (zo5iiii gS 0 (nI i09_12) 0 scl9_13), (zo10ririliiriririr sc aTp (nI ts) aHl (nI nh) ed mi sn aHs (nI n) aWk (nI wz) aBk (nI bz) aFc), (zaR aHs cHs 8 fHs), (zaI aFc cFc 6 fFc9_11)]) [0, 1, 2, 3, 4, 5, 6, 7] (by decide) rfl
            have hK9 := hK.sub (tys' := [(cR, .int), (cO, .int), (cHs, .object "MistHeaps$Heap"), (cFc, .int)]) [0, 1, 2, 3] rfl
            exact W.iret (v := r_6) hx hb hr (fun tQ htQ hWQ => ⟨⟨r_6, (lk9_8, fR9_9, fO9_10, fFc9_11, i09_12, scl9_13), rfl, ⟨hl9, bd_ax hj1 hj2 (by assumption) (Int32.not_lt.mpr (by assumption)) (by omega) hr9 (Or.inl c_15)⟩, by rw [htQ]; exact hP9, va_K.moved hWQ.alike hK9, hD9⟩, hS.F htQ⟩) hS.2.2 dX11_build_51
          · skip
            refine lv_iload_n hx hb dX11_build_45 rfl (lv_at hl 4 rfl) ?_
            refine lv_if_ne (tgt := 52) hx hb dX11_build_46 (by decide) (fun c_16 => ?_) (fun c_16 => ?_)
            · skip
              have hr8 := hr9
              obtain ⟨c9, hc9, eC, eT⟩ := bd_cell rfl hr9 c_15
              have hE9 := (eT.symm.trans (bd_bx hj1 hj2 (by assumption) (Int32.not_lt.mpr (by assumption)) (by omega) hr9 c_15 c_16))
              subst eC
              refine lv_aload_n hx hb dX11_build_52 rfl (lv_at hl 1 rfl) ?_
              refine va_get (D := (dC, dI)) (ci := 13) (v := .ref go) (C := RX11) (T := TX11) (N := 7) hx hb hts kc_xBuild_0 hown hK hP 0 rfl rfl 4 (by decide) (hts (.fieldLink RX11 35 "MistHeaps" "goings" "LMistHeaps$Goings;") kc_xBuild_2) (fun _ h9 => h9) rfl dX11_build_53 ?_
              refine lv_aload_n hx hb dX11_build_56 rfl (lv_at hl 1 rfl) ?_
              refine va_get (D := (dC, dI)) (ci := 13) (v := .ref sc) (C := RX11) (T := TX11) (N := 7) hx hb hts kc_xBuild_0 hown hK hP 0 rfl rfl 0 (by decide) (hts (.fieldLink RX11 14 "MistHeaps" "scene" "LMistHeaps$Scene;") kc_xBuild_1) (fun _ h9 => h9) rfl dX11_build_57 ?_
              refine lv_iload hx hb dX11_build_60 (lv_at hl 0 rfl) ?_
              have hPc := hP.sub (ws' := [(zo4rrir go gR gO (nI lk9_8) gS), (zaI gR cR 8 fR9_9), (zaI gO cO 8 fO9_10), (zo5iiii gS 0 (nI i09_12) 0 scl9_13), (zo10ririliiriririr sc aTp (nI ts) aHl (nI nh) ed mi sn aHs (nI n) aWk (nI wz) aBk (nI bz) aFc), (zaR aHs cHs 8 fHs), (zaI aFc cFc 6 fFc9_11)]) [1, 2, 3, 4, 5, 6, 7] rfl
              have hDc := hD.sub (ws' := [(zo4rrir go gR gO (nI lk9_8) gS), (zaI gR cR 8 fR9_9), (zaI gO cO 8 fO9_10), (zo5iiii gS 0 (nI i09_12) 0 scl9_13), (zo10ririliiriririr sc aTp (nI ts) aHl (nI nh) ed mi sn aHs (nI n) aWk (nI wz) aBk (nI bz) aFc), (zaR aHs cHs 8 fHs), (zaI aFc cFc 6 fFc9_11)]) [1, 2, 3, 4, 5, 6, 7] (by decide) rfl
              have hKc := hK.sub (tys' := [(cR, .int), (cO, .int), (cHs, .object "MistHeaps$Heap"), (cFc, .int)]) [0, 1, 2, 3] rfl
              have hFc := va_free (wc := [(zo4rrir go gR gO (nI lk9_8) gS), (zaI gR cR 8 fR9_9), (zaI gO cO 8 fO9_10), (zo5iiii gS 0 (nI i09_12) 0 scl9_13), (zo10ririliiriririr sc aTp (nI ts) aHl (nI nh) ed mi sn aHs (nI n) aWk (nI wz) aBk (nI bz) aFc), (zaR aHs cHs 8 fHs), (zaI aFc cFc 6 fFc9_11)]) hD hS hA [1, 2, 3, 4, 5, 6, 7] rfl
              refine va_callv (va_runV (As := [.ref sc, .int (nI c9)]) (rest := []) ⟨hx, hb, hml, hown, hts⟩ (c_join l dC dI gd  kA   sc go aTp aHl aHs aWk aBk aFc bW bA bE bC gR gO gS ts nh n wz bz lk9_8 cl c9 i09_12 mi sn sg cdd szz att nmb scl9_13 ed cHs cFc cbW cbA cbE cbC cR cO fFc9_11 fbW fbA fbE fbC fR9_9 fO9_10 yk yv yc fHs yi ya tpv cz H.size (zhs) (hn8) (zcl) (zE) (zC) (zyv) (zyc) (by omega) (by omega) (hRJ9) (zHC) (zyt)) (cwV 2 hts gX11_build_X2_join rfl rfl rfl hd_yX2_join ⟨Nat.le_of_ble_eq_true rfl, Nat.le_of_ble_eq_true rfl⟩) ⟨fun a U g mk q => by obtain ⟨q0, q1, qP, qK, qD, qhG, qhW_, qhN_, qhZ, qhH_⟩ := q; exact ⟨q0, q1, qP, va_K.moved (u := U) (U := U.calling g mk a) (Vm.Alike.refl U.vm) qK, qD, qhG.same rfl rfl, qhW_.same rfl rfl, qhN_.same rfl rfl, qhZ.same rfl rfl, qhH_.same rfl rfl⟩, va_recv hK hP (ci := 4) (q := (RX2, TX2, 4)) (q0 := 1) rfl rfl, fun U hU hW => ⟨rfl, by rw [hU], by rw [hU]; exact hPc, va_K.moved hW.alike hKc, hDc.weaken (fun _ _ _ _ => trivial), hG.call hS hU hW (fun q h => hFc q h), hW_.call hS hU hW (fun q h => hFc q h), hN_.call hS hU hW (fun q h => hFc q h), (hZ.sub [0, 1, 2, 3, 4] [0, 1, 2, 3] rfl rfl).call hS hU hW (fun q h => hFc q h), hH_.call hS hU hW (fun q h => hFc q h)⟩⟩ rfl rfl hl.1 rfl (lv_room (Nat.le_of_ble_eq_true rfl)) dX11_build_62 ⟨Nat.le_of_ble_eq_true rfl, Nat.le_of_ble_eq_true rfl⟩) hS (fun q _ h => hFc q h) hFc (fun u tC H1 locs htC hvm hw_18 hB hz1 hk1 hS => ?_)
              obtain ⟨lk9_19, fR9_20, fO9_21, fFc9_22, i09_23, scl9_24⟩ := u
              try dsimp only at hw_18 hB
              obtain ⟨hP1, hK1, hD1⟩ := hB
              rw [htC] at hP1
              have hK1 := va_K.moved hvm.symm hK1
              obtain ⟨hP, hD⟩ := va_join (wr := [(zo13rrirrrr h0 sc kp ik bl go ch bo)]) (w1 := [(zo4rrir go gR gO (nI lk9_19) gS), (zaI gR cR 8 fR9_20), (zaI gO cO 8 fO9_21), (zo5iiii gS 0 (nI i09_23) 0 scl9_24), (zo10ririliiriririr sc aTp (nI ts) aHl (nI nh) ed mi sn aHs (nI n) aWk (nI wz) aBk (nI bz) aFc), (zaR aHs cHs 8 fHs), (zaI aFc cFc 6 fFc9_22)]) hP hD [1, 2, 3, 4, 5, 6, 7] [0] rfl rfl (by decide) (by decide) hk1 hFc hP1 hD1
              have hK := (hK.sub (tys' := []) [] rfl).app hK1
              generalize H1 = H at hP hS ⊢
              have hP : va_P (dC, dI) vwCl [(zo13rrirrrr h0 sc kp ik bl go ch bo), (zo4rrir go gR gO (nI lk9_19) gS), (zaI gR cR 8 fR9_20), (zaI gO cO 8 fO9_21), (zo5iiii gS 0 (nI i09_23) 0 scl9_24), (zo10ririliiriririr sc aTp (nI ts) aHl (nI nh) ed mi sn aHs (nI n) aWk (nI wz) aBk (nI bz) aFc), (zaR aHs cHs 8 fHs), (zaI aFc cFc 6 fFc9_22)] H := hP
              have hD : va_D A [(zo13rrirrrr h0 sc kp ik bl go ch bo), (zo4rrir go gR gO (nI lk9_19) gS), (zaI gR cR 8 fR9_20), (zaI gO cO 8 fO9_21), (zo5iiii gS 0 (nI i09_23) 0 scl9_24), (zo10ririliiriririr sc aTp (nI ts) aHl (nI nh) ed mi sn aHs (nI n) aWk (nI wz) aBk (nI bz) aFc), (zaR aHs cHs 8 fHs), (zaI aFc cFc 6 fFc9_22)] := hD
              have hK : va_K (dC, dI) vwCl [(cR, .int), (cO, .int), (cHs, .object "MistHeaps$Heap"), (cFc, .int)] s := hK
              obtain ⟨elk, hRJ9, hrJ⟩ := hw_18
              obtain rfl := elk.symm
              refine lv_aload_n hx hb dX11_build_65 rfl (lv_at hl 1 rfl) ?_
              refine va_get (D := (dC, dI)) (ci := 13) (v := .ref go) (C := RX11) (T := TX11) (N := 7) hx hb hts kc_xBuild_0 hown hK hP 0 rfl rfl 4 (by decide) (hts (.fieldLink RX11 35 "MistHeaps" "goings" "LMistHeaps$Goings;") kc_xBuild_2) (fun _ h9 => h9) rfl dX11_build_66 ?_
              refine lv_iload_n hx hb dX11_build_69 rfl (lv_at hl 2 rfl) ?_
              refine lv_iload_n hx hb dX11_build_70 rfl (lv_at hl 3 rfl) ?_
              refine lv_iconst (v := 0) hx hb dX11_build_71 (by decide) ?_
              have hPc := hP.sub (ws' := [(zo4rrir go gR gO (nI (n + 1)) gS), (zaI gO cO 8 fO9_21)]) [1, 3] rfl
              have hKc := hK.sub (tys' := [(cO, .int)]) [1] rfl
              refine vp_callSi (va_runV (As := [.int (nI j1), .int (nI j2), .int 0]) (rest := []) ⟨hx, hb, hml, hown, hts⟩ (c_fewest l dC dI go gR gO gS (n + 1) (nI j1) (nI j2) 0 cO fO9_21 (by omega)) (cwV 3 hts gX11_build_X2_fewest rfl rfl rfl hd_yX2_fewest ⟨Nat.le_of_ble_eq_true rfl, Nat.le_of_ble_eq_true rfl⟩) ⟨fun a U g mk q => by obtain ⟨q0, qP, qK⟩ := q; exact ⟨q0, qP, va_K.moved (u := U) (U := U.calling g mk a) (Vm.Alike.refl U.vm) qK⟩, va_recv hK hP (ci := 4) (q := (RX2, TX2, 4)) (q0 := 1) rfl rfl, fun U hU hW => ⟨rfl, by rw [hU]; exact hPc, va_K.moved hW.alike hKc⟩⟩ rfl rfl hl.1 rfl (lv_room (Nat.le_of_ble_eq_true rfl)) dX11_build_72 ⟨Nat.le_of_ble_eq_true rfl, Nat.le_of_ble_eq_true rfl⟩).run (fun r_25 hw_26 => ?_)
              obtain rfl := hw_26
              rw [hQ]
              have hP9 := hP.sub (ws' := [(zo13rrirrrr h0 sc kp ik bl go ch bo), (zo4rrir go gR gO (nI (n + 1)) gS), (zaI gR cR 8 fR9_20), (zaI gO cO 8 fO9_21), (zo5iiii gS 0 (nI i09_23) 0 scl9_24), (zo10ririliiriririr sc aTp (nI ts) aHl (nI nh) ed mi sn aHs (nI n) aWk (nI wz) aBk (nI bz) aFc), (zaR aHs cHs 8 fHs), (zaI aFc cFc 6 fFc9_22)]) [0, 1, 2, 3, 4, 5, 6, 7] rfl
              have hD9 := hD.sub (ws' := [(zo13rrirrrr h0 sc kp ik bl go ch bo), (zo4rrir go gR gO (nI (n + 1)) gS), (zaI gR cR 8 fR9_20), (zaI gO cO 8 fO9_21), (zo5iiii gS 0 (nI i09_23) 0 scl9_24), (zo10ririliiriririr sc aTp (nI ts) aHl (nI nh) ed mi sn aHs (nI n) aWk (nI wz) aBk (nI bz) aFc), (zaR aHs cHs 8 fHs), (zaI aFc cFc 6 fFc9_22)]) [0, 1, 2, 3, 4, 5, 6, 7] (by decide) rfl
              have hK9 := hK.sub (tys' := [(cR, .int), (cO, .int), (cHs, .object "MistHeaps$Heap"), (cFc, .int)]) [0, 1, 2, 3] rfl
              exact W.iret (v := fwR fO9_21 (n + 1) (nI j1) (nI j2) 0) hx hb hr (fun tQ htQ hWQ => ⟨⟨(fwR fO9_21 (n + 1) (nI j1) (nI j2) 0), ((n + 1), fR9_20, fO9_21, fFc9_22, i09_23, scl9_24), rfl, ⟨by omega, (bd_X h8 hj1 hj2 hrJ).trans hE9⟩, by rw [htQ]; exact hP9, va_K.moved hWQ.alike hK9, hD9⟩, hS.F htQ⟩) hS.2.2 dX11_build_75
            · skip
              refine lv_iload hx hb dX11_build_49 (lv_at hl 0 rfl) ?_
              rw [hQ]
              have hP9 := hP.sub (ws' := [(zo13rrirrrr h0 sc kp ik bl go ch bo), (zo4rrir go gR gO (nI lk9_8) gS), (zaI gR cR 8 fR9_9), (zaI gO cO 8 fO9_10), (zo5iiii gS 0 (nI i09_12) 0 scl9_13), (zo10ririliiriririr sc aTp (nI ts) aHl (nI nh) ed mi sn aHs (nI n) aWk (nI wz) aBk (nI bz) aFc), (zaR aHs cHs 8 fHs), (zaI aFc cFc 6 fFc9_11)]) [0, 1, 2, 3, 4, 5, 6, 7] rfl
              have hD9 := hD.sub (ws' := [(zo13rrirrrr h0 sc kp ik bl go ch bo), (zo4rrir go gR gO (nI lk9_8) gS), (zaI gR cR 8 fR9_9), (zaI gO cO 8 fO9_10), (zo5iiii gS 0 (nI i09_12) 0 scl9_13), (zo10ririliiriririr sc aTp (nI ts) aHl (nI nh) ed mi sn aHs (nI n) aWk (nI wz) aBk (nI bz) aFc), (zaR aHs cHs 8 fHs), (zaI aFc cFc 6 fFc9_11)]) [0, 1, 2, 3, 4, 5, 6, 7] (by decide) rfl
              have hK9 := hK.sub (tys' := [(cR, .int), (cO, .int), (cHs, .object "MistHeaps$Heap"), (cFc, .int)]) [0, 1, 2, 3] rfl
              exact W.iret (v := r_6) hx hb hr (fun tQ htQ hWQ => ⟨⟨r_6, (lk9_8, fR9_9, fO9_10, fFc9_11, i09_12, scl9_13), rfl, ⟨hl9, bd_ax hj1 hj2 (by assumption) (Int32.not_lt.mpr (by assumption)) (by omega) hr9 (Or.inr c_16)⟩, by rw [htQ]; exact hP9, va_K.moved hWQ.alike hK9, hD9⟩, hS.F htQ⟩) hS.2.2 dX11_build_51
      · skip
        refine lv_iconst (v := (-1)) hx hb dX11_build_21 (by decide) ?_
        rw [hQ]
        have hP9 := hP.sub (ws' := [(zo13rrirrrr h0 sc kp ik bl go ch bo), (zo4rrir go gR gO (nI lk) gS), (zaI gR cR 8 fR), (zaI gO cO 8 fO), (zo5iiii gS 0 (nI i0) 0 scl), (zo10ririliiriririr sc aTp (nI ts) aHl (nI nh) ed mi sn aHs (nI n) aWk (nI wz) aBk (nI bz) aFc), (zaR aHs cHs 8 fHs), (zaI aFc cFc 6 fFc)]) [0, 1, 2, 3, 4, 5, 6, 7] rfl
        have hD9 := hD.sub (ws' := [(zo13rrirrrr h0 sc kp ik bl go ch bo), (zo4rrir go gR gO (nI lk) gS), (zaI gR cR 8 fR), (zaI gO cO 8 fO), (zo5iiii gS 0 (nI i0) 0 scl), (zo10ririliiriririr sc aTp (nI ts) aHl (nI nh) ed mi sn aHs (nI n) aWk (nI wz) aBk (nI bz) aFc), (zaR aHs cHs 8 fHs), (zaI aFc cFc 6 fFc)]) [0, 1, 2, 3, 4, 5, 6, 7] (by decide) rfl
        have hK9 := hK.sub (tys' := [(cR, .int), (cO, .int), (cHs, .object "MistHeaps$Heap"), (cFc, .int)]) [0, 1, 2, 3] rfl
        exact W.iret (v := (-1)) hx hb hr (fun tQ htQ hWQ => ⟨⟨(-1), (lk, fR, fO, fFc, i0, scl), rfl, ⟨hlk, by first | exact hno.elim bd_no1 bd_no2 | exact bd_no3 (by first | exact Or.inl (by assumption) | exact Or.inr (Int32.not_le.mp (by assumption)))⟩, by rw [htQ]; exact hP9, va_K.moved hWQ.alike hK9, hD9⟩, hS.F htQ⟩) hS.2.2 dX11_build_22
  · skip
    refine lv_if_eq (tgt := 21) hx hb dX11_build_9 (by decide) (fun _ => ?_) (fun c_27 => absurd c_27 (by decide))
    refine lv_iconst (v := (-1)) hx hb dX11_build_21 (by decide) ?_
    rw [hQ]
    have hP9 := hP.sub (ws' := [(zo13rrirrrr h0 sc kp ik bl go ch bo), (zo4rrir go gR gO (nI lk) gS), (zaI gR cR 8 fR), (zaI gO cO 8 fO), (zo5iiii gS 0 (nI i0) 0 scl), (zo10ririliiriririr sc aTp (nI ts) aHl (nI nh) ed mi sn aHs (nI n) aWk (nI wz) aBk (nI bz) aFc), (zaR aHs cHs 8 fHs), (zaI aFc cFc 6 fFc)]) [0, 1, 2, 3, 4, 5, 6, 7] rfl
    have hD9 := hD.sub (ws' := [(zo13rrirrrr h0 sc kp ik bl go ch bo), (zo4rrir go gR gO (nI lk) gS), (zaI gR cR 8 fR), (zaI gO cO 8 fO), (zo5iiii gS 0 (nI i0) 0 scl), (zo10ririliiriririr sc aTp (nI ts) aHl (nI nh) ed mi sn aHs (nI n) aWk (nI wz) aBk (nI bz) aFc), (zaR aHs cHs 8 fHs), (zaI aFc cFc 6 fFc)]) [0, 1, 2, 3, 4, 5, 6, 7] (by decide) rfl
    have hK9 := hK.sub (tys' := [(cR, .int), (cO, .int), (cHs, .object "MistHeaps$Heap"), (cFc, .int)]) [0, 1, 2, 3] rfl
    exact W.iret (v := (-1)) hx hb hr (fun tQ htQ hWQ => ⟨⟨(-1), (lk, fR, fO, fFc, i0, scl), rfl, ⟨hlk, by first | exact hno.elim bd_no1 bd_no2 | exact bd_no3 (by first | exact Or.inl (by assumption) | exact Or.inr (Int32.not_le.mp (by assumption)))⟩, by rw [htQ]; exact hP9, va_K.moved hWQ.alike hK9, hD9⟩, hS.F htQ⟩) hS.2.2 dX11_build_22

theorem kc_xDrift_0 : ∀ w ∈ wsX110, w ∈ wsX11_drift := fun w h => List.mem_cons_of_mem _ (gin_wsX110 w h)
theorem kc_xDrift_1 : (.fieldLink RX11 14 "MistHeaps" "scene" "LMistHeaps$Scene;" : Cond) ∈ wsX11_drift := kc_of 328 rfl rfl rfl
set_option maxHeartbeats 4000000 in
set_option maxRecDepth 100000 in
theorem c_xDrift (l : Launch) (dC : Nat → ClassId) (dI : Nat → Nat → Nat) (gd : Nat → Nat)  (h0 : Nat) (sc : Nat) (kp : Nat) (bl : Nat) (go : Nat) (ch : Nat) (bo : Nat) (aTp : Nat) (aHl : Nat) (aHs : Nat) (aWk : Nat) (aBk : Nat) (aFc : Nat) (bW : Nat) (bA : Nat) (bE : Nat) (bC : Nat) (ts : Nat) (nh : Nat) (n : Nat) (wz : Nat) (bz : Nat) (cl : Nat) (mi : Int32) (sn : Int32) (sg : Int32) (cdd : Int32) (szz : Int32) (att : Int32) (nmb : Int32) (ik : Int32) (x : Int32) (ed : Int64) (cFc : ClassId) (cbW : ClassId) (cbA : ClassId) (cbE : ClassId) (cbC : ClassId) (fFc : Nat → Int32) (fbW : Nat → Int32) (fbA : Nat → Int32) (fbE : Nat → Int32) (fbC : Nat → Int32) (tpv : Value) (cz : List pCla) (sz : Nat) (zcl : cl ≤ 10) (zE : ∀ k0, k0 < 10 → ∃ e0 : Nat, e0 ≤ 100 ∧ fbE k0 = nI e0) (zC : ∀ k0, k0 < 100 → okC (fbC k0)) (zHC : HC cl sg fbW fbA fbE fbC cz ∧ WfC cz) : Met l yX11_drift wsX11_drift ({ frames := 4, cells := 0, slots := 0, locals := 94 } : Room) (va_Pc [.ref h0, .int x] (fun U => U.heap.size = sz ∧ va_P (dC, dI) vwCl [(zo13rrirrrr h0 sc kp ik bl go ch bo), (zo10ririliiriririr sc aTp (nI ts) aHl (nI nh) ed mi sn aHs (nI n) aWk (nI wz) aBk (nI bz) aFc), (zaI aFc cFc 6 fFc)] U.heap ∧ va_K (dC, dI) vwCl [(cFc, .int)] U ∧ va_D (fun _ => True) [(zo13rrirrrr h0 sc kp ik bl go ch bo), (zo10ririliiriririr sc aTp (nI ts) aHl (nI nh) ed mi sn aHs (nI n) aWk (nI wz) aBk (nI bz) aFc), (zaI aFc cFc 6 fFc)] ∧ Gl gd (va_A [(zo13rrirrrr h0 sc kp ik bl go ch bo), (zo10ririliiriririr sc aTp (nI ts) aHl (nI nh) ed mi sn aHs (nI n) aWk (nI wz) aBk (nI bz) aFc), (zaI aFc cFc 6 fFc)] sz) U ∧ Fz dC dI [(zo7iirrrriviii aHl sg (nI cl) bW bA bE bC cdd tpv szz att nmb), (zaI bW cbW 10 fbW), (zaI bA cbA 10 fbA), (zaI bE cbE 10 fbE), (zaI bC cbC 100 fbC)] [(cbW, .int), (cbA, .int), (cbE, .int), (cbC, .int)] (va_A [(zo13rrirrrr h0 sc kp ik bl go ch bo), (zo10ririliiriririr sc aTp (nI ts) aHl (nI nh) ed mi sn aHs (nI n) aWk (nI wz) aBk (nI bz) aFc), (zaI aFc cFc 6 fFc)] sz) U)) (va_Qi (fun (r : Int32) (u : Nat → Int32) => match u with | fFc9 => r = drR cz mi sn x) (fun (u : Nat → Int32) (t : State) => match u with | fFc9 => va_P (dC, dI) vwCl [(zo13rrirrrr h0 sc kp ik bl go ch bo), (zo10ririliiriririr sc aTp (nI ts) aHl (nI nh) ed mi sn aHs (nI n) aWk (nI wz) aBk (nI bz) aFc), (zaI aFc cFc 6 fFc9)] t.heap ∧ va_K (dC, dI) vwCl [(cFc, .int)] t ∧ va_D (va_A [(zo13rrirrrr h0 sc kp ik bl go ch bo), (zo10ririliiriririr sc aTp (nI ts) aHl (nI nh) ed mi sn aHs (nI n) aWk (nI wz) aBk (nI bz) aFc), (zaI aFc cFc 6 fFc)] sz) [(zo13rrirrrr h0 sc kp ik bl go ch bo), (zo10ririliiriririr sc aTp (nI ts) aHl (nI nh) ed mi sn aHs (nI n) aWk (nI wz) aBk (nI bz) aFc), (zaI aFc cFc 6 fFc9)]) (va_A [(zo13rrirrrr h0 sc kp ik bl go ch bo), (zo10ririliiriririr sc aTp (nI ts) aHl (nI nh) ed mi sn aHs (nI n) aWk (nI wz) aBk (nI bz) aFc), (zaI aFc cFc 6 fFc)] sz)) 0 0 (va_A [(zo13rrirrrr h0 sc kp ik bl go ch bo), (zo10ririliiriririr sc aTp (nI ts) aHl (nI nh) ed mi sn aHs (nI n) aWk (nI wz) aBk (nI bz) aFc), (zaI aFc cFc 6 fFc)] sz) := by
  refine met_ofQ (cc := cX11_drift) (maxL := 2) (ret := (some .int)) (by decide) rfl ?_
  intro p e s m args below meth c s₁ Q B hml hv hQ
  obtain ⟨rfl, hsz, hP, hK, hD0, hG, hZ⟩ := hv
  have hx := B.exec
  have hb := B.bytes
  have hr := B.returns
  have hts := atoms_spec (ws := wsX11_drift) B.pre
  have hown : s.vm.findClass RX11 = some m.cls := findClass_of_methodNamed B.named
  have hlocks := B.notSynchronized
  subst hsz
  have hD := hD0.self (sz := s.heap.size)
  generalize hAe : va_A [(zo13rrirrrr h0 sc kp ik bl go ch bo), (zo10ririliiriririr sc aTp (nI ts) aHl (nI nh) ed mi sn aHs (nI n) aWk (nI wz) aBk (nI bz) aFc), (zaI aFc cFc 6 fFc)] s.heap.size = A at hD hQ hG hZ ⊢
  have hA : ∀ q : Nat, s.heap.size ≤ q → A q := fun q h => by rw [← hAe]; exact Or.inr h
  have hS : va_S A s.heap s.heap [] := va_S.rf
  have hl := lv_entry [.ref h0, .int x] (n := 2) (Nat.le_of_ble_eq_true rfl)
  rw [lg_entry_eq]
  generalize (lg_sl [.ref h0, .int x] ++ List.replicate (2 - (lg_sl [.ref h0, .int x]).length) Slot.unset).toArray = ls at hl ⊢
  generalize hag : ([.ref h0, .int x] : List Value).toArray = args at hts hQ ⊢
  have hl : lv_has ls 2 [(0, .ref h0), (1, .int x)] := hl
  obtain ⟨H, hH⟩ : ∃ H : Heap, H = s.heap := ⟨_, rfl⟩
  rw [← hH] at hP
  rw [← hH]
  have hS : va_S A s.heap H [] := by rw [hH]; exact hS
  obtain ⟨locs, hlo⟩ : ∃ L : List Loc, L = [] := ⟨_, rfl⟩
  rw [← hlo] at hS
  rw [← hlo]
  clear hH hlo
  refine lv_iload_n hx hb dX11_drift_0 rfl (lv_at hl 1 rfl) ?_
  refine vp_callSi (va_runS (As := [.int x]) (rest := []) ⟨hx, hb, hml, hown, hts⟩ (c_xCell l dC dI x) (va_cwS 1 hts gX11_drift_X11_isCell rfl rfl rfl hd_yX11_isCell.2 ⟨Nat.le_of_ble_eq_true rfl, Nat.le_of_ble_eq_true rfl⟩) ⟨fun a U g mk q => ⟨q.1, trivial⟩, fun U hU hW => ⟨rfl, trivial⟩⟩ rfl rfl hl.1 rfl (lv_room (Nat.le_of_ble_eq_true rfl)) dX11_drift_1 ⟨Nat.le_of_ble_eq_true rfl, Nat.le_of_ble_eq_true rfl⟩).run (fun r_1 hw_2 => ?_)
  rcases hw_2 with ⟨rfl, j_3, hj_4, rfl⟩ | ⟨rfl, h_5⟩
  · skip
    refine lv_if_eq (tgt := 18) hx hb dX11_drift_4 (by decide) (fun c_6 => absurd c_6 (by decide)) (fun _ => ?_)
    refine lv_aload_n hx hb dX11_drift_7 rfl (lv_at hl 0 rfl) ?_
    refine va_get (D := (dC, dI)) (ci := 13) (v := .ref sc) (C := RX11) (T := TX11) (N := 7) hx hb hts kc_xDrift_0 hown hK hP 0 rfl rfl 0 (by decide) (hts (.fieldLink RX11 14 "MistHeaps" "scene" "LMistHeaps$Scene;") kc_xDrift_1) (fun _ h9 => h9) rfl dX11_drift_8 ?_
    refine lv_iload_n hx hb dX11_drift_11 rfl (lv_at hl 1 rfl) ?_
    have hPc := hP.sub (ws' := [(zo10ririliiriririr sc aTp (nI ts) aHl (nI nh) ed mi sn aHs (nI n) aWk (nI wz) aBk (nI bz) aFc), (zaI aFc cFc 6 fFc)]) [1, 2] rfl
    have hDc := hD.sub (ws' := [(zo10ririliiriririr sc aTp (nI ts) aHl (nI nh) ed mi sn aHs (nI n) aWk (nI wz) aBk (nI bz) aFc), (zaI aFc cFc 6 fFc)]) [1, 2] (by decide) rfl
    have hKc := hK.sub (tys' := [(cFc, .int)]) [0] rfl
    have hFc := va_free (wc := [(zo10ririliiriririr sc aTp (nI ts) aHl (nI nh) ed mi sn aHs (nI n) aWk (nI wz) aBk (nI bz) aFc), (zaI aFc cFc 6 fFc)]) hD hS hA [1, 2] rfl
    refine va_calli (va_runV (As := [.int (nI j_3)]) (rest := []) ⟨hx, hb, hml, hown, hts⟩ (c_xDriftOn l dC dI gd  sc aTp aHl aHs aWk aBk aFc bW bA bE bC ts nh n wz bz cl mi sn sg cdd szz att nmb (nI j_3) ed cFc cbW cbA cbE cbC fFc fbW fbA fbE fbC tpv cz H.size (zcl) (zE) (zC) (zHC)) (cwV 1 hts gX11_drift_X8_driftOn rfl rfl rfl hd_yX8_driftOn ⟨Nat.le_of_ble_eq_true rfl, Nat.le_of_ble_eq_true rfl⟩) ⟨fun a U g mk q => by obtain ⟨q0, q1, qP, qK, qD, qhG, qhZ⟩ := q; exact ⟨q0, q1, qP, va_K.moved (u := U) (U := U.calling g mk a) (Vm.Alike.refl U.vm) qK, qD, qhG.same rfl rfl, qhZ.same rfl rfl⟩, va_recv hK hP (ci := 10) (q := (RX8, TX8, 14)) (q0 := 1) rfl rfl, fun U hU hW => ⟨rfl, by rw [hU], by rw [hU]; exact hPc, va_K.moved hW.alike hKc, hDc.weaken (fun _ _ _ _ => trivial), hG.call hS hU hW (fun q h => hFc q h), (hZ.sub [0, 1, 2, 3, 4] [0, 1, 2, 3] rfl rfl).call hS hU hW (fun q h => hFc q h)⟩⟩ rfl rfl hl.1 rfl (lv_room (Nat.le_of_ble_eq_true rfl)) dX11_drift_12 ⟨Nat.le_of_ble_eq_true rfl, Nat.le_of_ble_eq_true rfl⟩) hS (fun q _ h => hFc q h) hFc (fun r_7 u tC H1 locs htC hvm hw_8 hB hz1 hk1 hS => ?_)
    obtain ⟨fFc9_9, rfl⟩ : ∃ z, z = u := ⟨_, rfl⟩
    try dsimp only at hw_8 hB
    obtain ⟨hP1, hK1, hD1⟩ := hB
    rw [htC] at hP1
    have hK1 := va_K.moved hvm.symm hK1
    obtain ⟨hP, hD⟩ := va_join (wr := [(zo13rrirrrr h0 sc kp ik bl go ch bo)]) (w1 := [(zo10ririliiriririr sc aTp (nI ts) aHl (nI nh) ed mi sn aHs (nI n) aWk (nI wz) aBk (nI bz) aFc), (zaI aFc cFc 6 fFc9_9)]) hP hD [1, 2] [0] rfl rfl (by decide) (by decide) hk1 hFc hP1 hD1
    have hK := (hK.sub (tys' := []) [] rfl).app hK1
    generalize H1 = H at hP hS ⊢
    have hP : va_P (dC, dI) vwCl [(zo13rrirrrr h0 sc kp ik bl go ch bo), (zo10ririliiriririr sc aTp (nI ts) aHl (nI nh) ed mi sn aHs (nI n) aWk (nI wz) aBk (nI bz) aFc), (zaI aFc cFc 6 fFc9_9)] H := hP
    have hD : va_D A [(zo13rrirrrr h0 sc kp ik bl go ch bo), (zo10ririliiriririr sc aTp (nI ts) aHl (nI nh) ed mi sn aHs (nI n) aWk (nI wz) aBk (nI bz) aFc), (zaI aFc cFc 6 fFc9_9)] := hD
    have hK : va_K (dC, dI) vwCl [(cFc, .int)] s := hK
    obtain rfl := hw_8
    refine lv_goto (tgt := 19) hx hb dX11_drift_15 (by decide) ?_
    rw [hQ]
    have hP9 := hP.sub (ws' := [(zo13rrirrrr h0 sc kp ik bl go ch bo), (zo10ririliiriririr sc aTp (nI ts) aHl (nI nh) ed mi sn aHs (nI n) aWk (nI wz) aBk (nI bz) aFc), (zaI aFc cFc 6 fFc9_9)]) [0, 1, 2] rfl
    have hD9 := hD.sub (ws' := [(zo13rrirrrr h0 sc kp ik bl go ch bo), (zo10ririliiriririr sc aTp (nI ts) aHl (nI nh) ed mi sn aHs (nI n) aWk (nI wz) aBk (nI bz) aFc), (zaI aFc cFc 6 fFc9_9)]) [0, 1, 2] (by decide) rfl
    have hK9 := hK.sub (tys' := [(cFc, .int)]) [0] rfl
    exact W.iret (v := DRV cz mi sn (nI j_3)) hx hb hr (fun tQ htQ hWQ => ⟨⟨(DRV cz mi sn (nI j_3)), fFc9_9, rfl, drR_x (by omega), by rw [htQ]; exact hP9, va_K.moved hWQ.alike hK9, hD9⟩, hS.F htQ⟩) hS.2.2 dX11_drift_19
  · skip
    refine lv_if_eq (tgt := 18) hx hb dX11_drift_4 (by decide) (fun _ => ?_) (fun c_10 => absurd c_10 (by decide))
    refine lv_iconst (v := (-1)) hx hb dX11_drift_18 (by decide) ?_
    rw [hQ]
    have hP9 := hP.sub (ws' := [(zo13rrirrrr h0 sc kp ik bl go ch bo), (zo10ririliiriririr sc aTp (nI ts) aHl (nI nh) ed mi sn aHs (nI n) aWk (nI wz) aBk (nI bz) aFc), (zaI aFc cFc 6 fFc)]) [0, 1, 2] rfl
    have hD9 := hD.sub (ws' := [(zo13rrirrrr h0 sc kp ik bl go ch bo), (zo10ririliiriririr sc aTp (nI ts) aHl (nI nh) ed mi sn aHs (nI n) aWk (nI wz) aBk (nI bz) aFc), (zaI aFc cFc 6 fFc)]) [0, 1, 2] (by decide) rfl
    have hK9 := hK.sub (tys' := [(cFc, .int)]) [0] rfl
    exact W.iret (v := (-1)) hx hb hr (fun tQ htQ hWQ => ⟨⟨(-1), fFc, rfl, drR_no (cell_no (by assumption)), by rw [htQ]; exact hP9, va_K.moved hWQ.alike hK9, hD9⟩, hS.F htQ⟩) hS.2.2 dX11_drift_19
