theorem ggX8_init_X5_init : GoodIn wsX8_init wsX5_init := gga_of 111 rfl rfl rfl
theorem ggX4_init_X3_init : GoodIn wsX4_init wsX3_init := gga_of 226 rfl rfl rfl
theorem ggX6_init_X3_init : GoodIn wsX6_init wsX3_init := gga_of 226 rfl rfl rfl
theorem ggX1_init_X3_init : GoodIn wsX1_init wsX3_init := gga_of 226 rfl rfl rfl
theorem ggX10_init_X4_init : GoodIn wsX10_init wsX4_init := gga_of 561 rfl rfl rfl
theorem ggX9_init_X6_init : GoodIn wsX9_init wsX6_init := gga_of 572 rfl rfl rfl
theorem ggX7_init_X1_init : GoodIn wsX7_init wsX1_init := gga_of 583 rfl rfl rfl
theorem ggX2_init_X3_init : GoodIn wsX2_init wsX3_init := gga_of 226 rfl rfl rfl
theorem ggJxc12de_init_da8c8_Jxa1e45_init_da8c8 : GoodIn wsJxc12de_init_da8c8 wsJxa1e45_init_da8c8 := gga_of 312 rfl rfl rfl
theorem ggJx4a65c_init_da8c8_Jxc12de_init_da8c8 : GoodIn wsJx4a65c_init_da8c8 wsJxc12de_init_da8c8 := gga_of 309 rfl rfl rfl
noncomputable def dk17binit_cX5_init_0 : List (Nat × Instr × Nat) := [(0, .aload_n 0, 1), (1, .invokespecial 3, 3), (4, .aload_n 0, 1), (5, .iconst 3, 1), (6, .putfield 11, 3), (9, .aload_n 0, 1), (10, .bipush 10, 2), (12, .newarray .int, 2), (14, .putfield 15, 3), (17, .aload_n 0, 1), (18, .bipush 10, 2), (20, .newarray .int, 2), (22, .putfield 19, 3), (25, .aload_n 0, 1), (26, .bipush 10, 2), (28, .newarray .int, 2), (30, .putfield 22, 3), (33, .aload_n 0, 1), (34, .bipush 100, 2), (36, .newarray .int, 2), (38, .putfield 25, 3), (41, .return_, 1)]
set_option maxRecDepth 100000 in
theorem dk17binit_cX5_init_0_a : dkA cX5_init dk17binit_cX5_init_0 = true := by decide +kernel
theorem dX5_init_0 : decode cX5_init 0 = .ok (.aload_n 0, 1) := dkAt dk17binit_cX5_init_0_a 0 rfl
theorem dX5_init_1 : decode cX5_init 1 = .ok (.invokespecial 3, 3) := dkAt dk17binit_cX5_init_0_a 1 rfl
theorem dX5_init_4 : decode cX5_init 4 = .ok (.aload_n 0, 1) := dkAt dk17binit_cX5_init_0_a 2 rfl
theorem dX5_init_5 : decode cX5_init 5 = .ok (.iconst 3, 1) := dkAt dk17binit_cX5_init_0_a 3 rfl
theorem dX5_init_6 : decode cX5_init 6 = .ok (.putfield 11, 3) := dkAt dk17binit_cX5_init_0_a 4 rfl
theorem dX5_init_9 : decode cX5_init 9 = .ok (.aload_n 0, 1) := dkAt dk17binit_cX5_init_0_a 5 rfl
theorem dX5_init_10 : decode cX5_init 10 = .ok (.bipush 10, 2) := dkAt dk17binit_cX5_init_0_a 6 rfl
theorem dX5_init_12 : decode cX5_init 12 = .ok (.newarray .int, 2) := dkAt dk17binit_cX5_init_0_a 7 rfl
theorem dX5_init_14 : decode cX5_init 14 = .ok (.putfield 15, 3) := dkAt dk17binit_cX5_init_0_a 8 rfl
theorem dX5_init_17 : decode cX5_init 17 = .ok (.aload_n 0, 1) := dkAt dk17binit_cX5_init_0_a 9 rfl
theorem dX5_init_18 : decode cX5_init 18 = .ok (.bipush 10, 2) := dkAt dk17binit_cX5_init_0_a 10 rfl
theorem dX5_init_20 : decode cX5_init 20 = .ok (.newarray .int, 2) := dkAt dk17binit_cX5_init_0_a 11 rfl
theorem dX5_init_22 : decode cX5_init 22 = .ok (.putfield 19, 3) := dkAt dk17binit_cX5_init_0_a 12 rfl
theorem dX5_init_25 : decode cX5_init 25 = .ok (.aload_n 0, 1) := dkAt dk17binit_cX5_init_0_a 13 rfl
theorem dX5_init_26 : decode cX5_init 26 = .ok (.bipush 10, 2) := dkAt dk17binit_cX5_init_0_a 14 rfl
theorem dX5_init_28 : decode cX5_init 28 = .ok (.newarray .int, 2) := dkAt dk17binit_cX5_init_0_a 15 rfl
theorem dX5_init_30 : decode cX5_init 30 = .ok (.putfield 22, 3) := dkAt dk17binit_cX5_init_0_a 16 rfl
theorem dX5_init_33 : decode cX5_init 33 = .ok (.aload_n 0, 1) := dkAt dk17binit_cX5_init_0_a 17 rfl
theorem dX5_init_34 : decode cX5_init 34 = .ok (.bipush 100, 2) := dkAt dk17binit_cX5_init_0_a 18 rfl
theorem dX5_init_36 : decode cX5_init 36 = .ok (.newarray .int, 2) := dkAt dk17binit_cX5_init_0_a 19 rfl
theorem dX5_init_38 : decode cX5_init 38 = .ok (.putfield 25, 3) := dkAt dk17binit_cX5_init_0_a 20 rfl
theorem dX5_init_41 : decode cX5_init 41 = .ok (.return_, 1) := dkAt dk17binit_cX5_init_0_a 21 rfl
noncomputable def dk17binit_cX8_init_0 : List (Nat × Instr × Nat) := [(0, .aload_n 0, 1), (1, .invokespecial 3, 3), (4, .aload_n 0, 1), (5, .bipush 100, 2), (7, .newarray .int, 2), (9, .putfield 9, 3), (12, .aload_n 0, 1), (13, .new 15, 3), (16, .dup, 1), (17, .invokespecial 17, 3), (20, .putfield 18, 3), (23, .aload_n 0, 1), (24, .bipush 8, 2), (26, .anewarray 22, 3), (29, .putfield 24, 3), (32, .aload_n 0, 1), (33, .bipush 6, 2), (35, .newarray .int, 2), (37, .putfield 28, 3), (40, .aload_n 0, 1), (41, .bipush 12, 2), (43, .newarray .int, 2), (45, .putfield 31, 3), (48, .aload_n 0, 1), (49, .bipush 6, 2), (51, .newarray .int, 2), (53, .putfield 34, 3), (56, .return_, 1)]
set_option maxRecDepth 100000 in
theorem dk17binit_cX8_init_0_a : dkA cX8_init dk17binit_cX8_init_0 = true := by decide +kernel
theorem dX8_init_0 : decode cX8_init 0 = .ok (.aload_n 0, 1) := dkAt dk17binit_cX8_init_0_a 0 rfl
theorem dX8_init_1 : decode cX8_init 1 = .ok (.invokespecial 3, 3) := dkAt dk17binit_cX8_init_0_a 1 rfl
theorem dX8_init_4 : decode cX8_init 4 = .ok (.aload_n 0, 1) := dkAt dk17binit_cX8_init_0_a 2 rfl
theorem dX8_init_5 : decode cX8_init 5 = .ok (.bipush 100, 2) := dkAt dk17binit_cX8_init_0_a 3 rfl
theorem dX8_init_7 : decode cX8_init 7 = .ok (.newarray .int, 2) := dkAt dk17binit_cX8_init_0_a 4 rfl
theorem dX8_init_9 : decode cX8_init 9 = .ok (.putfield 9, 3) := dkAt dk17binit_cX8_init_0_a 5 rfl
theorem dX8_init_12 : decode cX8_init 12 = .ok (.aload_n 0, 1) := dkAt dk17binit_cX8_init_0_a 6 rfl
theorem dX8_init_13 : decode cX8_init 13 = .ok (.new 15, 3) := dkAt dk17binit_cX8_init_0_a 7 rfl
theorem dX8_init_16 : decode cX8_init 16 = .ok (.dup, 1) := dkAt dk17binit_cX8_init_0_a 8 rfl
theorem dX8_init_17 : decode cX8_init 17 = .ok (.invokespecial 17, 3) := dkAt dk17binit_cX8_init_0_a 9 rfl
theorem dX8_init_20 : decode cX8_init 20 = .ok (.putfield 18, 3) := dkAt dk17binit_cX8_init_0_a 10 rfl
theorem dX8_init_23 : decode cX8_init 23 = .ok (.aload_n 0, 1) := dkAt dk17binit_cX8_init_0_a 11 rfl
theorem dX8_init_24 : decode cX8_init 24 = .ok (.bipush 8, 2) := dkAt dk17binit_cX8_init_0_a 12 rfl
theorem dX8_init_26 : decode cX8_init 26 = .ok (.anewarray 22, 3) := dkAt dk17binit_cX8_init_0_a 13 rfl
theorem dX8_init_29 : decode cX8_init 29 = .ok (.putfield 24, 3) := dkAt dk17binit_cX8_init_0_a 14 rfl
theorem dX8_init_32 : decode cX8_init 32 = .ok (.aload_n 0, 1) := dkAt dk17binit_cX8_init_0_a 15 rfl
theorem dX8_init_33 : decode cX8_init 33 = .ok (.bipush 6, 2) := dkAt dk17binit_cX8_init_0_a 16 rfl
theorem dX8_init_35 : decode cX8_init 35 = .ok (.newarray .int, 2) := dkAt dk17binit_cX8_init_0_a 17 rfl
theorem dX8_init_37 : decode cX8_init 37 = .ok (.putfield 28, 3) := dkAt dk17binit_cX8_init_0_a 18 rfl
theorem dX8_init_40 : decode cX8_init 40 = .ok (.aload_n 0, 1) := dkAt dk17binit_cX8_init_0_a 19 rfl
theorem dX8_init_41 : decode cX8_init 41 = .ok (.bipush 12, 2) := dkAt dk17binit_cX8_init_0_a 20 rfl
theorem dX8_init_43 : decode cX8_init 43 = .ok (.newarray .int, 2) := dkAt dk17binit_cX8_init_0_a 21 rfl
theorem dX8_init_45 : decode cX8_init 45 = .ok (.putfield 31, 3) := dkAt dk17binit_cX8_init_0_a 22 rfl
theorem dX8_init_48 : decode cX8_init 48 = .ok (.aload_n 0, 1) := dkAt dk17binit_cX8_init_0_a 23 rfl
theorem dX8_init_49 : decode cX8_init 49 = .ok (.bipush 6, 2) := dkAt dk17binit_cX8_init_0_a 24 rfl
theorem dX8_init_51 : decode cX8_init 51 = .ok (.newarray .int, 2) := dkAt dk17binit_cX8_init_0_a 25 rfl
theorem dX8_init_53 : decode cX8_init 53 = .ok (.putfield 34, 3) := dkAt dk17binit_cX8_init_0_a 26 rfl
theorem dX8_init_56 : decode cX8_init 56 = .ok (.return_, 1) := dkAt dk17binit_cX8_init_0_a 27 rfl
noncomputable def dk17binit_cX3_init_0 : List (Nat × Instr × Nat) := [(0, .aload_n 0, 1), (1, .invokespecial 3, 3), (4, .aload_n 0, 1), (5, .iload_n 1, 1), (6, .putfield 9, 3), (9, .aload_n 0, 1), (10, .iload_n 2, 1), (11, .putfield 15, 3), (14, .aload_n 0, 1), (15, .iload_n 3, 1), (16, .putfield 18, 3), (19, .aload_n 0, 1), (20, .iload 4, 2), (22, .putfield 21, 3), (25, .return_, 1)]
set_option maxRecDepth 100000 in
theorem dk17binit_cX3_init_0_a : dkA cX3_init dk17binit_cX3_init_0 = true := by decide +kernel
theorem dX3_init_0 : decode cX3_init 0 = .ok (.aload_n 0, 1) := dkAt dk17binit_cX3_init_0_a 0 rfl
theorem dX3_init_1 : decode cX3_init 1 = .ok (.invokespecial 3, 3) := dkAt dk17binit_cX3_init_0_a 1 rfl
theorem dX3_init_4 : decode cX3_init 4 = .ok (.aload_n 0, 1) := dkAt dk17binit_cX3_init_0_a 2 rfl
theorem dX3_init_5 : decode cX3_init 5 = .ok (.iload_n 1, 1) := dkAt dk17binit_cX3_init_0_a 3 rfl
theorem dX3_init_6 : decode cX3_init 6 = .ok (.putfield 9, 3) := dkAt dk17binit_cX3_init_0_a 4 rfl
theorem dX3_init_9 : decode cX3_init 9 = .ok (.aload_n 0, 1) := dkAt dk17binit_cX3_init_0_a 5 rfl
theorem dX3_init_10 : decode cX3_init 10 = .ok (.iload_n 2, 1) := dkAt dk17binit_cX3_init_0_a 6 rfl
theorem dX3_init_11 : decode cX3_init 11 = .ok (.putfield 15, 3) := dkAt dk17binit_cX3_init_0_a 7 rfl
theorem dX3_init_14 : decode cX3_init 14 = .ok (.aload_n 0, 1) := dkAt dk17binit_cX3_init_0_a 8 rfl
theorem dX3_init_15 : decode cX3_init 15 = .ok (.iload_n 3, 1) := dkAt dk17binit_cX3_init_0_a 9 rfl
theorem dX3_init_16 : decode cX3_init 16 = .ok (.putfield 18, 3) := dkAt dk17binit_cX3_init_0_a 10 rfl
theorem dX3_init_19 : decode cX3_init 19 = .ok (.aload_n 0, 1) := dkAt dk17binit_cX3_init_0_a 11 rfl
theorem dX3_init_20 : decode cX3_init 20 = .ok (.iload 4, 2) := dkAt dk17binit_cX3_init_0_a 12 rfl
theorem dX3_init_22 : decode cX3_init 22 = .ok (.putfield 21, 3) := dkAt dk17binit_cX3_init_0_a 13 rfl
theorem dX3_init_25 : decode cX3_init 25 = .ok (.return_, 1) := dkAt dk17binit_cX3_init_0_a 14 rfl
noncomputable def dk17binit_cX4_init_0 : List (Nat × Instr × Nat) := [(0, .aload_n 0, 1), (1, .iload_n 1, 1), (2, .iload_n 2, 1), (3, .iload_n 3, 1), (4, .iload 4, 2), (6, .invokespecial 1, 3), (9, .return_, 1)]
set_option maxRecDepth 100000 in
theorem dk17binit_cX4_init_0_a : dkA cX4_init dk17binit_cX4_init_0 = true := by decide +kernel
theorem dX4_init_0 : decode cX4_init 0 = .ok (.aload_n 0, 1) := dkAt dk17binit_cX4_init_0_a 0 rfl
theorem dX4_init_1 : decode cX4_init 1 = .ok (.iload_n 1, 1) := dkAt dk17binit_cX4_init_0_a 1 rfl
theorem dX4_init_2 : decode cX4_init 2 = .ok (.iload_n 2, 1) := dkAt dk17binit_cX4_init_0_a 2 rfl
theorem dX4_init_3 : decode cX4_init 3 = .ok (.iload_n 3, 1) := dkAt dk17binit_cX4_init_0_a 3 rfl
theorem dX4_init_4 : decode cX4_init 4 = .ok (.iload 4, 2) := dkAt dk17binit_cX4_init_0_a 4 rfl
theorem dX4_init_6 : decode cX4_init 6 = .ok (.invokespecial 1, 3) := dkAt dk17binit_cX4_init_0_a 5 rfl
theorem dX4_init_9 : decode cX4_init 9 = .ok (.return_, 1) := dkAt dk17binit_cX4_init_0_a 6 rfl
noncomputable def dk17binit_cX6_init_0 : List (Nat × Instr × Nat) := [(0, .aload_n 0, 1), (1, .iload_n 1, 1), (2, .iload_n 2, 1), (3, .iload_n 3, 1), (4, .iload 4, 2), (6, .invokespecial 1, 3), (9, .return_, 1)]
set_option maxRecDepth 100000 in
theorem dk17binit_cX6_init_0_a : dkA cX6_init dk17binit_cX6_init_0 = true := by decide +kernel
theorem dX6_init_0 : decode cX6_init 0 = .ok (.aload_n 0, 1) := dkAt dk17binit_cX6_init_0_a 0 rfl
theorem dX6_init_1 : decode cX6_init 1 = .ok (.iload_n 1, 1) := dkAt dk17binit_cX6_init_0_a 1 rfl
theorem dX6_init_2 : decode cX6_init 2 = .ok (.iload_n 2, 1) := dkAt dk17binit_cX6_init_0_a 2 rfl
theorem dX6_init_3 : decode cX6_init 3 = .ok (.iload_n 3, 1) := dkAt dk17binit_cX6_init_0_a 3 rfl
theorem dX6_init_4 : decode cX6_init 4 = .ok (.iload 4, 2) := dkAt dk17binit_cX6_init_0_a 4 rfl
theorem dX6_init_6 : decode cX6_init 6 = .ok (.invokespecial 1, 3) := dkAt dk17binit_cX6_init_0_a 5 rfl
theorem dX6_init_9 : decode cX6_init 9 = .ok (.return_, 1) := dkAt dk17binit_cX6_init_0_a 6 rfl
noncomputable def dk17binit_cX1_init_0 : List (Nat × Instr × Nat) := [(0, .aload_n 0, 1), (1, .iload_n 1, 1), (2, .iload_n 2, 1), (3, .iload_n 3, 1), (4, .iload 4, 2), (6, .invokespecial 1, 3), (9, .return_, 1)]
set_option maxRecDepth 100000 in
theorem dk17binit_cX1_init_0_a : dkA cX1_init dk17binit_cX1_init_0 = true := by decide +kernel
theorem dX1_init_0 : decode cX1_init 0 = .ok (.aload_n 0, 1) := dkAt dk17binit_cX1_init_0_a 0 rfl
theorem dX1_init_1 : decode cX1_init 1 = .ok (.iload_n 1, 1) := dkAt dk17binit_cX1_init_0_a 1 rfl
theorem dX1_init_2 : decode cX1_init 2 = .ok (.iload_n 2, 1) := dkAt dk17binit_cX1_init_0_a 2 rfl
theorem dX1_init_3 : decode cX1_init 3 = .ok (.iload_n 3, 1) := dkAt dk17binit_cX1_init_0_a 3 rfl
theorem dX1_init_4 : decode cX1_init 4 = .ok (.iload 4, 2) := dkAt dk17binit_cX1_init_0_a 4 rfl
theorem dX1_init_6 : decode cX1_init 6 = .ok (.invokespecial 1, 3) := dkAt dk17binit_cX1_init_0_a 5 rfl
theorem dX1_init_9 : decode cX1_init 9 = .ok (.return_, 1) := dkAt dk17binit_cX1_init_0_a 6 rfl
noncomputable def dk17binit_cX10_init_0 : List (Nat × Instr × Nat) := [(0, .aload_n 0, 1), (1, .iload_n 1, 1), (2, .iload_n 2, 1), (3, .iload_n 3, 1), (4, .iload 4, 2), (6, .invokespecial 3, 3), (9, .return_, 1)]
set_option maxRecDepth 100000 in
theorem dk17binit_cX10_init_0_a : dkA cX10_init dk17binit_cX10_init_0 = true := by decide +kernel
theorem dX10_init_0 : decode cX10_init 0 = .ok (.aload_n 0, 1) := dkAt dk17binit_cX10_init_0_a 0 rfl
theorem dX10_init_1 : decode cX10_init 1 = .ok (.iload_n 1, 1) := dkAt dk17binit_cX10_init_0_a 1 rfl
theorem dX10_init_2 : decode cX10_init 2 = .ok (.iload_n 2, 1) := dkAt dk17binit_cX10_init_0_a 2 rfl
theorem dX10_init_3 : decode cX10_init 3 = .ok (.iload_n 3, 1) := dkAt dk17binit_cX10_init_0_a 3 rfl
theorem dX10_init_4 : decode cX10_init 4 = .ok (.iload 4, 2) := dkAt dk17binit_cX10_init_0_a 4 rfl
theorem dX10_init_6 : decode cX10_init 6 = .ok (.invokespecial 3, 3) := dkAt dk17binit_cX10_init_0_a 5 rfl
theorem dX10_init_9 : decode cX10_init 9 = .ok (.return_, 1) := dkAt dk17binit_cX10_init_0_a 6 rfl
noncomputable def dk17binit_cX9_init_0 : List (Nat × Instr × Nat) := [(0, .aload_n 0, 1), (1, .iload_n 1, 1), (2, .iload_n 2, 1), (3, .iload_n 3, 1), (4, .iload 4, 2), (6, .invokespecial 1, 3), (9, .return_, 1)]
set_option maxRecDepth 100000 in
theorem dk17binit_cX9_init_0_a : dkA cX9_init dk17binit_cX9_init_0 = true := by decide +kernel
theorem dX9_init_0 : decode cX9_init 0 = .ok (.aload_n 0, 1) := dkAt dk17binit_cX9_init_0_a 0 rfl
theorem dX9_init_1 : decode cX9_init 1 = .ok (.iload_n 1, 1) := dkAt dk17binit_cX9_init_0_a 1 rfl
theorem dX9_init_2 : decode cX9_init 2 = .ok (.iload_n 2, 1) := dkAt dk17binit_cX9_init_0_a 2 rfl
theorem dX9_init_3 : decode cX9_init 3 = .ok (.iload_n 3, 1) := dkAt dk17binit_cX9_init_0_a 3 rfl
theorem dX9_init_4 : decode cX9_init 4 = .ok (.iload 4, 2) := dkAt dk17binit_cX9_init_0_a 4 rfl
theorem dX9_init_6 : decode cX9_init 6 = .ok (.invokespecial 1, 3) := dkAt dk17binit_cX9_init_0_a 5 rfl
theorem dX9_init_9 : decode cX9_init 9 = .ok (.return_, 1) := dkAt dk17binit_cX9_init_0_a 6 rfl
noncomputable def dk17binit_cX7_init_0 : List (Nat × Instr × Nat) := [(0, .aload_n 0, 1), (1, .iload_n 1, 1), (2, .iload_n 2, 1), (3, .iload_n 3, 1), (4, .iload 4, 2), (6, .invokespecial 1, 3), (9, .return_, 1)]
set_option maxRecDepth 100000 in
theorem dk17binit_cX7_init_0_a : dkA cX7_init dk17binit_cX7_init_0 = true := by decide +kernel
theorem dX7_init_0 : decode cX7_init 0 = .ok (.aload_n 0, 1) := dkAt dk17binit_cX7_init_0_a 0 rfl
theorem dX7_init_1 : decode cX7_init 1 = .ok (.iload_n 1, 1) := dkAt dk17binit_cX7_init_0_a 1 rfl
theorem dX7_init_2 : decode cX7_init 2 = .ok (.iload_n 2, 1) := dkAt dk17binit_cX7_init_0_a 2 rfl
theorem dX7_init_3 : decode cX7_init 3 = .ok (.iload_n 3, 1) := dkAt dk17binit_cX7_init_0_a 3 rfl
theorem dX7_init_4 : decode cX7_init 4 = .ok (.iload 4, 2) := dkAt dk17binit_cX7_init_0_a 4 rfl
theorem dX7_init_6 : decode cX7_init 6 = .ok (.invokespecial 1, 3) := dkAt dk17binit_cX7_init_0_a 5 rfl
theorem dX7_init_9 : decode cX7_init 9 = .ok (.return_, 1) := dkAt dk17binit_cX7_init_0_a 6 rfl
noncomputable def dk17binit_cX2_init_0 : List (Nat × Instr × Nat) := [(0, .aload_n 0, 1), (1, .invokespecial 3, 3), (4, .aload_n 0, 1), (5, .bipush 8, 2), (7, .newarray .int, 2), (9, .putfield 9, 3), (12, .aload_n 0, 1), (13, .bipush 8, 2), (15, .newarray .int, 2), (17, .putfield 15, 3), (20, .aload_n 0, 1), (21, .new 18, 3), (24, .dup, 1), (25, .iconst 0, 1), (26, .iconst 0, 1), (27, .iconst 0, 1), (28, .iconst 0, 1), (29, .invokespecial 20, 3), (32, .putfield 23, 3), (35, .return_, 1)]
set_option maxRecDepth 100000 in
theorem dk17binit_cX2_init_0_a : dkA cX2_init dk17binit_cX2_init_0 = true := by decide +kernel
theorem dX2_init_0 : decode cX2_init 0 = .ok (.aload_n 0, 1) := dkAt dk17binit_cX2_init_0_a 0 rfl
theorem dX2_init_1 : decode cX2_init 1 = .ok (.invokespecial 3, 3) := dkAt dk17binit_cX2_init_0_a 1 rfl
theorem dX2_init_4 : decode cX2_init 4 = .ok (.aload_n 0, 1) := dkAt dk17binit_cX2_init_0_a 2 rfl
theorem dX2_init_5 : decode cX2_init 5 = .ok (.bipush 8, 2) := dkAt dk17binit_cX2_init_0_a 3 rfl
theorem dX2_init_7 : decode cX2_init 7 = .ok (.newarray .int, 2) := dkAt dk17binit_cX2_init_0_a 4 rfl
theorem dX2_init_9 : decode cX2_init 9 = .ok (.putfield 9, 3) := dkAt dk17binit_cX2_init_0_a 5 rfl
theorem dX2_init_12 : decode cX2_init 12 = .ok (.aload_n 0, 1) := dkAt dk17binit_cX2_init_0_a 6 rfl
theorem dX2_init_13 : decode cX2_init 13 = .ok (.bipush 8, 2) := dkAt dk17binit_cX2_init_0_a 7 rfl
theorem dX2_init_15 : decode cX2_init 15 = .ok (.newarray .int, 2) := dkAt dk17binit_cX2_init_0_a 8 rfl
theorem dX2_init_17 : decode cX2_init 17 = .ok (.putfield 15, 3) := dkAt dk17binit_cX2_init_0_a 9 rfl
theorem dX2_init_20 : decode cX2_init 20 = .ok (.aload_n 0, 1) := dkAt dk17binit_cX2_init_0_a 10 rfl
theorem dX2_init_21 : decode cX2_init 21 = .ok (.new 18, 3) := dkAt dk17binit_cX2_init_0_a 11 rfl
theorem dX2_init_24 : decode cX2_init 24 = .ok (.dup, 1) := dkAt dk17binit_cX2_init_0_a 12 rfl
theorem dX2_init_25 : decode cX2_init 25 = .ok (.iconst 0, 1) := dkAt dk17binit_cX2_init_0_a 13 rfl
theorem dX2_init_26 : decode cX2_init 26 = .ok (.iconst 0, 1) := dkAt dk17binit_cX2_init_0_a 14 rfl
theorem dX2_init_27 : decode cX2_init 27 = .ok (.iconst 0, 1) := dkAt dk17binit_cX2_init_0_a 15 rfl
theorem dX2_init_28 : decode cX2_init 28 = .ok (.iconst 0, 1) := dkAt dk17binit_cX2_init_0_a 16 rfl
theorem dX2_init_29 : decode cX2_init 29 = .ok (.invokespecial 20, 3) := dkAt dk17binit_cX2_init_0_a 17 rfl
theorem dX2_init_32 : decode cX2_init 32 = .ok (.putfield 23, 3) := dkAt dk17binit_cX2_init_0_a 18 rfl
theorem dX2_init_35 : decode cX2_init 35 = .ok (.return_, 1) := dkAt dk17binit_cX2_init_0_a 19 rfl
noncomputable def dk17binit_cX0_init_0 : List (Nat × Instr × Nat) := [(0, .aload_n 0, 1), (1, .invokespecial 3, 3), (4, .aload_n 0, 1), (5, .bipush 36, 2), (7, .newarray .int, 2), (9, .putfield 9, 3), (12, .aload_n 0, 1), (13, .iconst 3, 1), (14, .bipush 36, 2), (16, .multianewarray 15 2, 4), (20, .putfield 17, 3), (23, .aload_n 0, 1), (24, .bipush 8, 2), (26, .bipush 36, 2), (28, .multianewarray 20 2, 4), (32, .putfield 22, 3), (35, .return_, 1)]
set_option maxRecDepth 100000 in
theorem dk17binit_cX0_init_0_a : dkA cX0_init dk17binit_cX0_init_0 = true := by decide +kernel
theorem dX0_init_0 : decode cX0_init 0 = .ok (.aload_n 0, 1) := dkAt dk17binit_cX0_init_0_a 0 rfl
theorem dX0_init_1 : decode cX0_init 1 = .ok (.invokespecial 3, 3) := dkAt dk17binit_cX0_init_0_a 1 rfl
theorem dX0_init_4 : decode cX0_init 4 = .ok (.aload_n 0, 1) := dkAt dk17binit_cX0_init_0_a 2 rfl
theorem dX0_init_5 : decode cX0_init 5 = .ok (.bipush 36, 2) := dkAt dk17binit_cX0_init_0_a 3 rfl
theorem dX0_init_7 : decode cX0_init 7 = .ok (.newarray .int, 2) := dkAt dk17binit_cX0_init_0_a 4 rfl
theorem dX0_init_9 : decode cX0_init 9 = .ok (.putfield 9, 3) := dkAt dk17binit_cX0_init_0_a 5 rfl
theorem dX0_init_12 : decode cX0_init 12 = .ok (.aload_n 0, 1) := dkAt dk17binit_cX0_init_0_a 6 rfl
theorem dX0_init_13 : decode cX0_init 13 = .ok (.iconst 3, 1) := dkAt dk17binit_cX0_init_0_a 7 rfl
theorem dX0_init_14 : decode cX0_init 14 = .ok (.bipush 36, 2) := dkAt dk17binit_cX0_init_0_a 8 rfl
theorem dX0_init_16 : decode cX0_init 16 = .ok (.multianewarray 15 2, 4) := dkAt dk17binit_cX0_init_0_a 9 rfl
theorem dX0_init_20 : decode cX0_init 20 = .ok (.putfield 17, 3) := dkAt dk17binit_cX0_init_0_a 10 rfl
theorem dX0_init_23 : decode cX0_init 23 = .ok (.aload_n 0, 1) := dkAt dk17binit_cX0_init_0_a 11 rfl
theorem dX0_init_24 : decode cX0_init 24 = .ok (.bipush 8, 2) := dkAt dk17binit_cX0_init_0_a 12 rfl
theorem dX0_init_26 : decode cX0_init 26 = .ok (.bipush 36, 2) := dkAt dk17binit_cX0_init_0_a 13 rfl
theorem dX0_init_28 : decode cX0_init 28 = .ok (.multianewarray 20 2, 4) := dkAt dk17binit_cX0_init_0_a 14 rfl
theorem dX0_init_32 : decode cX0_init 32 = .ok (.putfield 22, 3) := dkAt dk17binit_cX0_init_0_a 15 rfl
theorem dX0_init_35 : decode cX0_init 35 = .ok (.return_, 1) := dkAt dk17binit_cX0_init_0_a 16 rfl
theorem dJxa1e45_init_da8c8_0 : decode cJxa1e45_init_da8c8 0 = .ok (.aload_n 0, 1) := by decide +kernel
theorem dJxa1e45_init_da8c8_1 : decode cJxa1e45_init_da8c8 1 = .ok (.invokespecial 1, 3) := by decide +kernel
theorem dJxa1e45_init_da8c8_4 : decode cJxa1e45_init_da8c8 4 = .ok (.return_, 1) := by decide +kernel
noncomputable def dk17binit_cJxc12de_init_da8c8_0 : List (Nat × Instr × Nat) := [(0, .aload_n 0, 1), (1, .invokespecial 1, 3), (4, .aload_n 0, 1), (5, .iconst 0, 1), (6, .putfield 7, 3), (9, .return_, 1)]
set_option maxRecDepth 100000 in
theorem dk17binit_cJxc12de_init_da8c8_0_a : dkA cJxc12de_init_da8c8 dk17binit_cJxc12de_init_da8c8_0 = true := by decide +kernel
theorem dJxc12de_init_da8c8_0 : decode cJxc12de_init_da8c8 0 = .ok (.aload_n 0, 1) := dkAt dk17binit_cJxc12de_init_da8c8_0_a 0 rfl
theorem dJxc12de_init_da8c8_1 : decode cJxc12de_init_da8c8 1 = .ok (.invokespecial 1, 3) := dkAt dk17binit_cJxc12de_init_da8c8_0_a 1 rfl
theorem dJxc12de_init_da8c8_4 : decode cJxc12de_init_da8c8 4 = .ok (.aload_n 0, 1) := dkAt dk17binit_cJxc12de_init_da8c8_0_a 2 rfl
theorem dJxc12de_init_da8c8_5 : decode cJxc12de_init_da8c8 5 = .ok (.iconst 0, 1) := dkAt dk17binit_cJxc12de_init_da8c8_0_a 3 rfl
theorem dJxc12de_init_da8c8_6 : decode cJxc12de_init_da8c8 6 = .ok (.putfield 7, 3) := dkAt dk17binit_cJxc12de_init_da8c8_0_a 4 rfl
theorem dJxc12de_init_da8c8_9 : decode cJxc12de_init_da8c8 9 = .ok (.return_, 1) := dkAt dk17binit_cJxc12de_init_da8c8_0_a 5 rfl
noncomputable def dk17binit_cJx4a65c_init_da8c8_0 : List (Nat × Instr × Nat) := [(0, .aload_n 0, 1), (1, .invokespecial 1, 3), (4, .aload_n 0, 1), (5, .getstatic 39, 3), (8, .putfield 9, 3), (11, .return_, 1)]
set_option maxRecDepth 100000 in
theorem dk17binit_cJx4a65c_init_da8c8_0_a : dkA cJx4a65c_init_da8c8 dk17binit_cJx4a65c_init_da8c8_0 = true := by decide +kernel
theorem dJx4a65c_init_da8c8_0 : decode cJx4a65c_init_da8c8 0 = .ok (.aload_n 0, 1) := dkAt dk17binit_cJx4a65c_init_da8c8_0_a 0 rfl
theorem dJx4a65c_init_da8c8_1 : decode cJx4a65c_init_da8c8 1 = .ok (.invokespecial 1, 3) := dkAt dk17binit_cJx4a65c_init_da8c8_0_a 1 rfl
theorem dJx4a65c_init_da8c8_4 : decode cJx4a65c_init_da8c8 4 = .ok (.aload_n 0, 1) := dkAt dk17binit_cJx4a65c_init_da8c8_0_a 2 rfl
theorem dJx4a65c_init_da8c8_5 : decode cJx4a65c_init_da8c8 5 = .ok (.getstatic 39, 3) := dkAt dk17binit_cJx4a65c_init_da8c8_0_a 3 rfl
theorem dJx4a65c_init_da8c8_8 : decode cJx4a65c_init_da8c8 8 = .ok (.putfield 9, 3) := dkAt dk17binit_cJx4a65c_init_da8c8_0_a 4 rfl
theorem dJx4a65c_init_da8c8_11 : decode cJx4a65c_init_da8c8 11 = .ok (.return_, 1) := dkAt dk17binit_cJx4a65c_init_da8c8_0_a 5 rfl
theorem kc_hillInit_0 : (.methodLink RX5 3 objectInit : Cond) ∈ wsX5_init := kc_of 112 rfl rfl rfl
theorem kc_hillInit_1 : (.instanceMethod objectInit : Cond) ∈ wsX5_init := kc_of 99 rfl rfl rfl
theorem kc_hillInit_2 : (.code objectInit ⟨#[0xb1]⟩ 1 none : Cond) ∈ wsX5_init := kc_of 100 rfl rfl rfl
theorem kc_hillInit_3 : ∀ w ∈ wsX50, w ∈ wsX5_init := fun w h => List.mem_cons_of_mem _ (gin_wsX50 w h)
theorem kc_hillInit_4 : (.fieldLink RX5 11 "MistHeaps$Hill" "sight" "I" : Cond) ∈ wsX5_init := kc_of 113 rfl rfl rfl
theorem kc_hillInit_5 : (.arrayClass .int : Cond) ∈ wsX5_init := kc_of 149 rfl rfl rfl
theorem kc_hillInit_6 : (.fieldLink RX5 15 "MistHeaps$Hill" "words" "[I" : Cond) ∈ wsX5_init := kc_of 117 rfl rfl rfl
theorem kc_hillInit_7 : (.fieldLink RX5 19 "MistHeaps$Hill" "amounts" "[I" : Cond) ∈ wsX5_init := kc_of 118 rfl rfl rfl
theorem kc_hillInit_8 : (.fieldLink RX5 22 "MistHeaps$Hill" "ends" "[I" : Cond) ∈ wsX5_init := kc_of 119 rfl rfl rfl
theorem kc_hillInit_9 : (.fieldLink RX5 25 "MistHeaps$Hill" "codes" "[I" : Cond) ∈ wsX5_init := kc_of 120 rfl rfl rfl
set_option maxHeartbeats 4000000 in
set_option maxRecDepth 100000 in
theorem c_hillInit (l : Launch) (dC : Nat → ClassId) (dI : Nat → Nat → Nat) (a0 : Nat) (sz : Nat) : Met l yX5_init wsX5_init ({ frames := 1, cells := 4, slots := 130, locals := 12 } : Room) (va_Pc [.ref a0] (fun U => U.heap.size = sz ∧ va_P (dC, dI) vwCl [(zo7iinnnniniii a0 0 0 0 0 0 0)] U.heap ∧ va_K (dC, dI) vwCl [] U ∧ va_D (fun _ => True) [(zo7iinnnniniii a0 0 0 0 0 0 0)])) (va_Qv (fun (u : Unit) => match u with | () => True) (fun (u : Unit) (t : State) => match u with | () => ∃ bW : Nat, ∃ bA : Nat, ∃ bE : Nat, ∃ bC : Nat, ∃ cbW : ClassId, ∃ cbA : ClassId, ∃ cbE : ClassId, ∃ cbC : ClassId, va_P (dC, dI) vwCl [(zo7iirrrriniii a0 3 0 bW bA bE bC 0 0 0 0), (zaI bW cbW 10 (fun _ => 0)), (zaI bA cbA 10 (fun _ => 0)), (zaI bE cbE 10 (fun _ => 0)), (zaI bC cbC 100 (fun _ => 0))] t.heap ∧ va_K (dC, dI) vwCl [(cbW, .int), (cbA, .int), (cbE, .int), (cbC, .int)] t ∧ va_D (va_A [(zo7iinnnniniii a0 0 0 0 0 0 0)] sz) [(zo7iirrrriniii a0 3 0 bW bA bE bC 0 0 0 0), (zaI bW cbW 10 (fun _ => 0)), (zaI bA cbA 10 (fun _ => 0)), (zaI bE cbE 10 (fun _ => 0)), (zaI bC cbC 100 (fun _ => 0))]) (va_A [(zo7iinnnniniii a0 0 0 0 0 0 0)] sz)) 4 130 (va_A [(zo7iinnnniniii a0 0 0 0 0 0 0)] sz) := by
  refine met_ofQ (cc := cX5_init) (maxL := 1) (ret := none) (by decide) rfl ?_
  intro p e s m args below meth c s₁ Q B hml hv hQ
  obtain ⟨rfl, hsz, hP, hK, hD0⟩ := hv
  have hx := B.exec
  have hb := B.bytes
  have hr := B.returns
  have hts := atoms_spec (ws := wsX5_init) B.pre
  have hown : s.vm.findClass RX5 = some m.cls := findClass_of_methodNamed B.named
  have hlocks := B.notSynchronized
  have hin : meth.name = "<init>" := (name_of_methodNamed B.named B.method).1
  subst hsz
  have hD := hD0.self (sz := s.heap.size)
  generalize hAe : va_A [(zo7iinnnniniii a0 0 0 0 0 0 0)] s.heap.size = A at hD hQ ⊢
  have hA : ∀ q : Nat, s.heap.size ≤ q → A q := fun q h => by rw [← hAe]; exact Or.inr h
  have hS : va_S A s.heap s.heap [] := va_S.rf
  have hl := lv_entry [.ref a0] (n := 1) (Nat.le_of_ble_eq_true rfl)
  rw [lg_entry_eq]
  generalize (lg_sl [.ref a0] ++ List.replicate (1 - (lg_sl [.ref a0]).length) Slot.unset).toArray = ls at hl ⊢
  generalize hag : ([.ref a0] : List Value).toArray = args at hts hQ ⊢
  have hl : lv_has ls 1 [(0, .ref a0)] := hl
  obtain ⟨H, hH⟩ : ∃ H : Heap, H = s.heap := ⟨_, rfl⟩
  rw [← hH] at hP
  rw [← hH]
  have hS : va_S A s.heap H [] := by rw [hH]; exact hS
  obtain ⟨locs, hlo⟩ : ∃ L : List Loc, L = [] := ⟨_, rfl⟩
  rw [← hlo] at hS
  rw [← hlo]
  clear hH hlo
  refine lv_aload_n hx hb dX5_init_0 rfl (lv_at hl 0 rfl) ?_
  refine W.objInit hx hb hown (hts (.methodLink RX5 3 objectInit) kc_hillInit_0) (hts (.instanceMethod objectInit) kc_hillInit_1) (hts (.code objectInit ⟨#[0xb1]⟩ 1 none) kc_hillInit_2) rfl (by rw [hml]; exact hl.1) rfl dX5_init_1 (Nat.le_of_ble_eq_true rfl) (Nat.le_of_ble_eq_true rfl) ?_
  refine W.eq (g2 := F0 m 4 ls []) rfl ?_
  refine lv_aload_n hx hb dX5_init_4 rfl (lv_at hl 0 rfl) ?_
  refine lv_iconst (v := 3) hx hb dX5_init_5 (by decide) ?_
  refine va_put (D := (dC, dI)) (ci := 7) (v := .int 3) (ty := .int) (C := RX5) (T := TX5) (N := 11) hx hb hts kc_hillInit_3 tyX5 tyX5_ok nmX5 hown hK hP hD hS 0 rfl rfl 0 (by decide) (hts (.fieldLink RX5 11 "MistHeaps$Hill" "sight" "I") kc_hillInit_4) (fun _ h9 => h9) rfl (by decide +kernel) rfl rfl (Nat.le_of_ble_eq_true rfl) dX5_init_6 (fun H locs hP hD hS => ?_)
  have hP : va_P (dC, dI) vwCl [(zo7iinnnniniii a0 3 0 0 0 0 0)] H := hP
  have hD : va_D A [(zo7iinnnniniii a0 3 0 0 0 0 0)] := hD
  refine lv_aload_n hx hb dX5_init_9 rfl (lv_at hl 0 rfl) ?_
  refine lv_bipush (v := 10) hx hb dX5_init_10 (by decide) ?_
  refine va_newa (atype := .int) (ty := .int) (N' := 10) (a0 := (10, .inl (fun _ => 0))) hx hb (hts (.arrayClass .int) kc_hillInit_5) rfl hK hP hD hS hA (fun _ => rfl) (by decide) (by decide) (by decide) (Nat.le_of_ble_eq_true rfl) (Nat.le_of_ble_eq_true rfl) dX5_init_12 (fun q_1 ca_2 H hK hP hD hS => ?_)
  have hP : va_P (dC, dI) vwCl [(zo7iinnnniniii a0 3 0 0 0 0 0), (zaI q_1 ca_2 10 (fun _ => 0))] H := hP
  have hD : va_D A [(zo7iinnnniniii a0 3 0 0 0 0 0), (zaI q_1 ca_2 10 (fun _ => 0))] := hD
  have hK : va_K (dC, dI) vwCl [(ca_2, .int)] s := hK
  refine W.widen (k := 1) (n := 10) (by omega) (by omega) ?_
  refine va_putF (D := (dC, dI)) (ci := 7) (v := .ref q_1) (ty := .array .int) (C := RX5) (T := TX5) (N := 11) hx hb hts kc_hillInit_3 tyX5 tyX5_ok nmX5 hown hK hP hD hS 0 rfl rfl 2 (by decide) (hts (.fieldLink RX5 15 "MistHeaps$Hill" "words" "[I") kc_hillInit_6) (fun _ h9 => h9) rfl hin rfl (by decide +kernel) rfl rfl (Nat.le_of_ble_eq_true rfl) dX5_init_14 (fun H locs hP hD hS => ?_)
  have hP : va_P (dC, dI) vwCl [(zo7iirnnniniii a0 3 0 q_1 0 0 0 0), (zaI q_1 ca_2 10 (fun _ => 0))] H := hP
  have hD : va_D A [(zo7iirnnniniii a0 3 0 q_1 0 0 0 0), (zaI q_1 ca_2 10 (fun _ => 0))] := hD
  refine lv_aload_n hx hb dX5_init_17 rfl (lv_at hl 0 rfl) ?_
  refine lv_bipush (v := 10) hx hb dX5_init_18 (by decide) ?_
  refine va_newa (atype := .int) (ty := .int) (N' := 10) (a0 := (10, .inl (fun _ => 0))) hx hb (hts (.arrayClass .int) kc_hillInit_5) rfl hK hP hD hS hA (fun _ => rfl) (by decide) (by decide) (by decide) (Nat.le_of_ble_eq_true rfl) (Nat.le_of_ble_eq_true rfl) dX5_init_20 (fun q_3 ca_4 H hK hP hD hS => ?_)
  have hP : va_P (dC, dI) vwCl [(zo7iirnnniniii a0 3 0 q_1 0 0 0 0), (zaI q_1 ca_2 10 (fun _ => 0)), (zaI q_3 ca_4 10 (fun _ => 0))] H := hP
  have hD : va_D A [(zo7iirnnniniii a0 3 0 q_1 0 0 0 0), (zaI q_1 ca_2 10 (fun _ => 0)), (zaI q_3 ca_4 10 (fun _ => 0))] := hD
  have hK : va_K (dC, dI) vwCl [(ca_2, .int), (ca_4, .int)] s := hK
  refine W.widen (k := 2) (n := 20) (by omega) (by omega) ?_
  refine va_putF (D := (dC, dI)) (ci := 7) (v := .ref q_3) (ty := .array .int) (C := RX5) (T := TX5) (N := 11) hx hb hts kc_hillInit_3 tyX5 tyX5_ok nmX5 hown hK hP hD hS 0 rfl rfl 3 (by decide) (hts (.fieldLink RX5 19 "MistHeaps$Hill" "amounts" "[I") kc_hillInit_7) (fun _ h9 => h9) rfl hin rfl (by decide +kernel) rfl rfl (Nat.le_of_ble_eq_true rfl) dX5_init_22 (fun H locs hP hD hS => ?_)
  have hP : va_P (dC, dI) vwCl [(zo7iirrnniniii a0 3 0 q_1 q_3 0 0 0 0), (zaI q_1 ca_2 10 (fun _ => 0)), (zaI q_3 ca_4 10 (fun _ => 0))] H := hP
  have hD : va_D A [(zo7iirrnniniii a0 3 0 q_1 q_3 0 0 0 0), (zaI q_1 ca_2 10 (fun _ => 0)), (zaI q_3 ca_4 10 (fun _ => 0))] := hD
  refine lv_aload_n hx hb dX5_init_25 rfl (lv_at hl 0 rfl) ?_
  refine lv_bipush (v := 10) hx hb dX5_init_26 (by decide) ?_
  refine va_newa (atype := .int) (ty := .int) (N' := 10) (a0 := (10, .inl (fun _ => 0))) hx hb (hts (.arrayClass .int) kc_hillInit_5) rfl hK hP hD hS hA (fun _ => rfl) (by decide) (by decide) (by decide) (Nat.le_of_ble_eq_true rfl) (Nat.le_of_ble_eq_true rfl) dX5_init_28 (fun q_5 ca_6 H hK hP hD hS => ?_)
  have hP : va_P (dC, dI) vwCl [(zo7iirrnniniii a0 3 0 q_1 q_3 0 0 0 0), (zaI q_1 ca_2 10 (fun _ => 0)), (zaI q_3 ca_4 10 (fun _ => 0)), (zaI q_5 ca_6 10 (fun _ => 0))] H := hP
  have hD : va_D A [(zo7iirrnniniii a0 3 0 q_1 q_3 0 0 0 0), (zaI q_1 ca_2 10 (fun _ => 0)), (zaI q_3 ca_4 10 (fun _ => 0)), (zaI q_5 ca_6 10 (fun _ => 0))] := hD
  have hK : va_K (dC, dI) vwCl [(ca_2, .int), (ca_4, .int), (ca_6, .int)] s := hK
  refine W.widen (k := 3) (n := 30) (by omega) (by omega) ?_
  refine va_putF (D := (dC, dI)) (ci := 7) (v := .ref q_5) (ty := .array .int) (C := RX5) (T := TX5) (N := 11) hx hb hts kc_hillInit_3 tyX5 tyX5_ok nmX5 hown hK hP hD hS 0 rfl rfl 4 (by decide) (hts (.fieldLink RX5 22 "MistHeaps$Hill" "ends" "[I") kc_hillInit_8) (fun _ h9 => h9) rfl hin rfl (by decide +kernel) rfl rfl (Nat.le_of_ble_eq_true rfl) dX5_init_30 (fun H locs hP hD hS => ?_)
  have hP : va_P (dC, dI) vwCl [(zo7iirrrniniii a0 3 0 q_1 q_3 q_5 0 0 0 0), (zaI q_1 ca_2 10 (fun _ => 0)), (zaI q_3 ca_4 10 (fun _ => 0)), (zaI q_5 ca_6 10 (fun _ => 0))] H := hP
  have hD : va_D A [(zo7iirrrniniii a0 3 0 q_1 q_3 q_5 0 0 0 0), (zaI q_1 ca_2 10 (fun _ => 0)), (zaI q_3 ca_4 10 (fun _ => 0)), (zaI q_5 ca_6 10 (fun _ => 0))] := hD
  refine lv_aload_n hx hb dX5_init_33 rfl (lv_at hl 0 rfl) ?_
  refine lv_bipush (v := 100) hx hb dX5_init_34 (by decide) ?_
  refine va_newa (atype := .int) (ty := .int) (N' := 100) (a0 := (100, .inl (fun _ => 0))) hx hb (hts (.arrayClass .int) kc_hillInit_5) rfl hK hP hD hS hA (fun _ => rfl) (by decide) (by decide) (by decide) (Nat.le_of_ble_eq_true rfl) (Nat.le_of_ble_eq_true rfl) dX5_init_36 (fun q_7 ca_8 H hK hP hD hS => ?_)
  have hP : va_P (dC, dI) vwCl [(zo7iirrrniniii a0 3 0 q_1 q_3 q_5 0 0 0 0), (zaI q_1 ca_2 10 (fun _ => 0)), (zaI q_3 ca_4 10 (fun _ => 0)), (zaI q_5 ca_6 10 (fun _ => 0)), (zaI q_7 ca_8 100 (fun _ => 0))] H := hP
  have hD : va_D A [(zo7iirrrniniii a0 3 0 q_1 q_3 q_5 0 0 0 0), (zaI q_1 ca_2 10 (fun _ => 0)), (zaI q_3 ca_4 10 (fun _ => 0)), (zaI q_5 ca_6 10 (fun _ => 0)), (zaI q_7 ca_8 100 (fun _ => 0))] := hD
  have hK : va_K (dC, dI) vwCl [(ca_2, .int), (ca_4, .int), (ca_6, .int), (ca_8, .int)] s := hK
  refine W.widen (k := 4) (n := 130) (by omega) (by omega) ?_
  refine va_putF (D := (dC, dI)) (ci := 7) (v := .ref q_7) (ty := .array .int) (C := RX5) (T := TX5) (N := 11) hx hb hts kc_hillInit_3 tyX5 tyX5_ok nmX5 hown hK hP hD hS 0 rfl rfl 5 (by decide) (hts (.fieldLink RX5 25 "MistHeaps$Hill" "codes" "[I") kc_hillInit_9) (fun _ h9 => h9) rfl hin rfl (by decide +kernel) rfl rfl (Nat.le_of_ble_eq_true rfl) dX5_init_38 (fun H locs hP hD hS => ?_)
  have hP : va_P (dC, dI) vwCl [(zo7iirrrriniii a0 3 0 q_1 q_3 q_5 q_7 0 0 0 0), (zaI q_1 ca_2 10 (fun _ => 0)), (zaI q_3 ca_4 10 (fun _ => 0)), (zaI q_5 ca_6 10 (fun _ => 0)), (zaI q_7 ca_8 100 (fun _ => 0))] H := hP
  have hD : va_D A [(zo7iirrrriniii a0 3 0 q_1 q_3 q_5 q_7 0 0 0 0), (zaI q_1 ca_2 10 (fun _ => 0)), (zaI q_3 ca_4 10 (fun _ => 0)), (zaI q_5 ca_6 10 (fun _ => 0)), (zaI q_7 ca_8 100 (fun _ => 0))] := hD
  rw [hQ]
  have hP9 := hP.sub (ws' := [(zo7iirrrriniii a0 3 0 q_1 q_3 q_5 q_7 0 0 0 0), (zaI q_1 ca_2 10 (fun _ => 0)), (zaI q_3 ca_4 10 (fun _ => 0)), (zaI q_5 ca_6 10 (fun _ => 0)), (zaI q_7 ca_8 100 (fun _ => 0))]) [0, 1, 2, 3, 4] rfl
  have hD9 := hD.sub (ws' := [(zo7iirrrriniii a0 3 0 q_1 q_3 q_5 q_7 0 0 0 0), (zaI q_1 ca_2 10 (fun _ => 0)), (zaI q_3 ca_4 10 (fun _ => 0)), (zaI q_5 ca_6 10 (fun _ => 0)), (zaI q_7 ca_8 100 (fun _ => 0))]) [0, 1, 2, 3, 4] (by decide) rfl
  have hK9 := hK.sub (tys' := [(ca_2, .int), (ca_4, .int), (ca_6, .int), (ca_8, .int)]) [0, 1, 2, 3] rfl
  exact W.vret hx hb hr (fun tQ htQ hWQ => ⟨⟨(), rfl, trivial, q_1, q_3, q_5, q_7, ca_2, ca_4, ca_6, ca_8, by rw [htQ]; exact hP9, va_K.moved hWQ.alike hK9, hD9⟩, hS.F htQ⟩) hS.2.2 dX5_init_41

theorem kc_sceneInit_0 : (.methodLink RX8 3 objectInit : Cond) ∈ wsX8_init := kc_of 106 rfl rfl rfl
theorem kc_sceneInit_1 : (.instanceMethod objectInit : Cond) ∈ wsX8_init := kc_of 99 rfl rfl rfl
theorem kc_sceneInit_2 : (.code objectInit ⟨#[0xb1]⟩ 1 none : Cond) ∈ wsX8_init := kc_of 100 rfl rfl rfl
theorem kc_sceneInit_3 : (.arrayClass .int : Cond) ∈ wsX8_init := kc_of 149 rfl rfl rfl
theorem kc_sceneInit_4 : ∀ w ∈ wsX80, w ∈ wsX8_init := fun w h => List.mem_cons_of_mem _ (gin_wsX80 w h)
theorem kc_sceneInit_5 : (.fieldLink RX8 9 "MistHeaps$Scene" "tape" "[I" : Cond) ∈ wsX8_init := kc_of 152 rfl rfl rfl
theorem kc_sceneInit_6 : ∀ w ∈ wsX50, w ∈ wsX8_init := fun w h => List.mem_cons_of_mem _ (gin_wsX50 w h)
theorem kc_sceneInit_7 : (.classLink RX8 15 RX5 : Cond) ∈ wsX8_init := kc_of 107 rfl rfl rfl
theorem kc_sceneInit_8 : (.instantiable RX5 11 : Cond) ∈ wsX8_init := kc_of 108 rfl rfl rfl
theorem kc_sceneInit_9 : (.initialized RX5 : Cond) ∈ wsX8_init := kc_of 65 rfl rfl rfl
theorem kc_sceneInit_10 : (.methodLink RX8 17 yX5_init : Cond) ∈ wsX8_init := kc_of 109 rfl rfl rfl
theorem kc_sceneInit_11 : (.instanceMethod yX5_init : Cond) ∈ wsX8_init := kc_of 110 rfl rfl rfl
theorem kc_sceneInit_12 : (.fieldLink RX8 18 "MistHeaps$Scene" "hill" "LMistHeaps$Hill;" : Cond) ∈ wsX8_init := kc_of 156 rfl rfl rfl
theorem kc_sceneInit_13 : (.classLink RX8 22 RX3 : Cond) ∈ wsX8_init := kc_of 150 rfl rfl rfl
theorem kc_sceneInit_14 : (.fieldLink RX8 24 "MistHeaps$Scene" "heaps" "[LMistHeaps$Heap;" : Cond) ∈ wsX8_init := kc_of 168 rfl rfl rfl
theorem kc_sceneInit_15 : (.fieldLink RX8 28 "MistHeaps$Scene" "walk" "[I" : Cond) ∈ wsX8_init := kc_of 174 rfl rfl rfl
theorem kc_sceneInit_16 : (.fieldLink RX8 31 "MistHeaps$Scene" "book" "[I" : Cond) ∈ wsX8_init := kc_of 180 rfl rfl rfl
theorem kc_sceneInit_17 : (.fieldLink RX8 34 "MistHeaps$Scene" "facts" "[I" : Cond) ∈ wsX8_init := kc_of 184 rfl rfl rfl
set_option maxHeartbeats 4000000 in
set_option maxRecDepth 100000 in
theorem c_sceneInit (l : Launch) (dC : Nat → ClassId) (dI : Nat → Nat → Nat) (bS : Nat) (a0 : Nat) (sz : Nat) : Met l yX8_init wsX8_init ({ frames := 2, cells := 10, slots := 273, locals := 32 } : Room) (va_Pc [.ref a0] (fun U => U.heap.size = sz ∧ va_P (dC, dI) vwCl [(zo10niniliinininin a0 0 0 0 0 0 0 0 0)] U.heap ∧ va_K (dC, dI) vwCl [] U ∧ va_D (fun _ => True) [(zo10niniliinininin a0 0 0 0 0 0 0 0 0)] ∧ Gc bS (va_A [(zo10niniliinininin a0 0 0 0 0 0 0 0 0)] sz) U)) (va_Qv (fun (u : Unit) => match u with | () => True) (fun (u : Unit) (t : State) => match u with | () => ∃ aTp : Nat, ∃ aHs : Nat, ∃ aWk : Nat, ∃ aBk : Nat, ∃ aFc : Nat, ∃ aHl : Nat, ∃ cTp : ClassId, ∃ cHs : ClassId, ∃ cWk : ClassId, ∃ cBk : ClassId, ∃ cFc : ClassId, ∃ bW : Nat, ∃ bA : Nat, ∃ bE : Nat, ∃ bC : Nat, ∃ cbW : ClassId, ∃ cbA : ClassId, ∃ cbE : ClassId, ∃ cbC : ClassId, va_P (dC, dI) vwCl [(zo10ririliiriririr a0 aTp 0 aHl 0 0 0 0 aHs 0 aWk 0 aBk 0 aFc), (zaI aTp cTp 100 (fun _ => 0)), (zaR aHs cHs 8 (fun _ => none)), (zaI aWk cWk 6 (fun _ => 0)), (zaI aBk cBk 12 (fun _ => 0)), (zaI aFc cFc 6 (fun _ => 0)), (zo7iirrrriniii aHl 3 0 bW bA bE bC 0 0 0 0), (zaI bW cbW 10 (fun _ => 0)), (zaI bA cbA 10 (fun _ => 0)), (zaI bE cbE 10 (fun _ => 0)), (zaI bC cbC 100 (fun _ => 0))] t.heap ∧ va_K (dC, dI) vwCl [(cTp, .int), (cHs, .object "MistHeaps$Heap"), (cWk, .int), (cBk, .int), (cFc, .int), (cbW, .int), (cbA, .int), (cbE, .int), (cbC, .int)] t ∧ va_D (va_A [(zo10niniliinininin a0 0 0 0 0 0 0 0 0)] sz) [(zo10ririliiriririr a0 aTp 0 aHl 0 0 0 0 aHs 0 aWk 0 aBk 0 aFc), (zaI aTp cTp 100 (fun _ => 0)), (zaR aHs cHs 8 (fun _ => none)), (zaI aWk cWk 6 (fun _ => 0)), (zaI aBk cBk 12 (fun _ => 0)), (zaI aFc cFc 6 (fun _ => 0)), (zo7iirrrriniii aHl 3 0 bW bA bE bC 0 0 0 0), (zaI bW cbW 10 (fun _ => 0)), (zaI bA cbA 10 (fun _ => 0)), (zaI bE cbE 10 (fun _ => 0)), (zaI bC cbC 100 (fun _ => 0))]) (va_A [(zo10niniliinininin a0 0 0 0 0 0 0 0 0)] sz)) 10 273 (va_A [(zo10niniliinininin a0 0 0 0 0 0 0 0 0)] sz) := by
  refine met_ofQ (cc := cX8_init) (maxL := 1) (ret := none) (by decide) rfl ?_
  intro p e s m args below meth c s₁ Q B hml hv hQ
  obtain ⟨rfl, hsz, hP, hK, hD0, hC⟩ := hv
  have hx := B.exec
  have hb := B.bytes
  have hr := B.returns
  have hts := atoms_spec (ws := wsX8_init) B.pre
  have hown : s.vm.findClass RX8 = some m.cls := findClass_of_methodNamed B.named
  have hlocks := B.notSynchronized
  have hin : meth.name = "<init>" := (name_of_methodNamed B.named B.method).1
  subst hsz
  have hD := hD0.self (sz := s.heap.size)
  generalize hAe : va_A [(zo10niniliinininin a0 0 0 0 0 0 0 0 0)] s.heap.size = A at hD hQ hC ⊢
  have hA : ∀ q : Nat, s.heap.size ≤ q → A q := fun q h => by rw [← hAe]; exact Or.inr h
  have hS : va_S A s.heap s.heap [] := va_S.rf
  have hl := lv_entry [.ref a0] (n := 1) (Nat.le_of_ble_eq_true rfl)
  rw [lg_entry_eq]
  generalize (lg_sl [.ref a0] ++ List.replicate (1 - (lg_sl [.ref a0]).length) Slot.unset).toArray = ls at hl ⊢
  generalize hag : ([.ref a0] : List Value).toArray = args at hts hQ ⊢
  have hl : lv_has ls 1 [(0, .ref a0)] := hl
  obtain ⟨H, hH⟩ : ∃ H : Heap, H = s.heap := ⟨_, rfl⟩
  rw [← hH] at hP
  rw [← hH]
  have hS : va_S A s.heap H [] := by rw [hH]; exact hS
  obtain ⟨locs, hlo⟩ : ∃ L : List Loc, L = [] := ⟨_, rfl⟩
  rw [← hlo] at hS
  rw [← hlo]
  clear hH hlo
  refine lv_aload_n hx hb dX8_init_0 rfl (lv_at hl 0 rfl) ?_
  refine W.objInit hx hb hown (hts (.methodLink RX8 3 objectInit) kc_sceneInit_0) (hts (.instanceMethod objectInit) kc_sceneInit_1) (hts (.code objectInit ⟨#[0xb1]⟩ 1 none) kc_sceneInit_2) rfl (by rw [hml]; exact hl.1) rfl dX8_init_1 (Nat.le_of_ble_eq_true rfl) (Nat.le_of_ble_eq_true rfl) ?_
  refine W.eq (g2 := F0 m 4 ls []) rfl ?_
  refine lv_aload_n hx hb dX8_init_4 rfl (lv_at hl 0 rfl) ?_
  refine lv_bipush (v := 100) hx hb dX8_init_5 (by decide) ?_
  refine va_newa (atype := .int) (ty := .int) (N' := 100) (a0 := (100, .inl (fun _ => 0))) hx hb (hts (.arrayClass .int) kc_sceneInit_3) rfl hK hP hD hS hA (fun _ => rfl) (by decide) (by decide) (by decide) (Nat.le_of_ble_eq_true rfl) (Nat.le_of_ble_eq_true rfl) dX8_init_7 (fun q_1 ca_2 H hK hP hD hS => ?_)
  have hP : va_P (dC, dI) vwCl [(zo10niniliinininin a0 0 0 0 0 0 0 0 0), (zaI q_1 ca_2 100 (fun _ => 0))] H := hP
  have hD : va_D A [(zo10niniliinininin a0 0 0 0 0 0 0 0 0), (zaI q_1 ca_2 100 (fun _ => 0))] := hD
  have hK : va_K (dC, dI) vwCl [(ca_2, .int)] s := hK
  refine W.widen (k := 1) (n := 100) (by omega) (by omega) ?_
  refine va_putF (D := (dC, dI)) (ci := 10) (v := .ref q_1) (ty := .array .int) (C := RX8) (T := TX8) (N := 14) hx hb hts kc_sceneInit_4 tyX8 tyX8_ok nmX8 hown hK hP hD hS 0 rfl rfl 0 (by decide) (hts (.fieldLink RX8 9 "MistHeaps$Scene" "tape" "[I") kc_sceneInit_5) (fun _ h9 => h9) rfl hin rfl (by decide +kernel) rfl rfl (Nat.le_of_ble_eq_true rfl) dX8_init_9 (fun H locs hP hD hS => ?_)
  have hP : va_P (dC, dI) vwCl [(zo10riniliinininin a0 q_1 0 0 0 0 0 0 0 0), (zaI q_1 ca_2 100 (fun _ => 0))] H := hP
  have hD : va_D A [(zo10riniliinininin a0 q_1 0 0 0 0 0 0 0 0), (zaI q_1 ca_2 100 (fun _ => 0))] := hD
  refine lv_aload_n hx hb dX8_init_12 rfl (lv_at hl 0 rfl) ?_
  refine va_new (ci := 7) (fs := [.int 0, .int 0, .null, .null, .null, .null, .int 0, .null, .int 0, .int 0, .int 0]) (C := RX5) (T := TX5) (N := 11) hx hb hts kc_sceneInit_6 tyX5 tyX5_ok hown (hts (.classLink RX8 15 RX5) kc_sceneInit_7) (hts (.instantiable RX5 11) kc_sceneInit_8) (hts (.initialized RX5) kc_sceneInit_9) hK hP hD hS hA rfl (fun j hj => by rcases (show j = 0 ∨ j = 1 ∨ j = 2 ∨ j = 3 ∨ j = 4 ∨ j = 5 ∨ j = 6 ∨ j = 7 ∨ j = 8 ∨ j = 9 ∨ j = 10 by omega) with rfl | rfl | rfl | rfl | rfl | rfl | rfl | rfl | rfl | rfl | rfl <;> rfl) (Nat.le_of_ble_eq_true rfl) (Nat.le_of_ble_eq_true rfl) dX8_init_13 (fun q_3 H hP hD hS => ?_)
  have hP : va_P (dC, dI) vwCl [(zo10riniliinininin a0 q_1 0 0 0 0 0 0 0 0), (zaI q_1 ca_2 100 (fun _ => 0)), (zo7iinnnniniii q_3 0 0 0 0 0 0)] H := hP
  have hD : va_D A [(zo10riniliinininin a0 q_1 0 0 0 0 0 0 0 0), (zaI q_1 ca_2 100 (fun _ => 0)), (zo7iinnnniniii q_3 0 0 0 0 0 0)] := hD
  refine W.widen (k := 2) (n := 111) (by omega) (by omega) ?_
  refine lv_dup hx hb dX8_init_16 rfl ?_
  have hPc := hP.sub (ws' := [(zo7iinnnniniii q_3 0 0 0 0 0 0)]) [2] rfl
  have hDc := hD.sub (ws' := [(zo7iinnnniniii q_3 0 0 0 0 0 0)]) [2] (by decide) rfl
  have hKc := hK.sub (tys' := []) [] rfl
  have hFc := va_free (wc := [(zo7iinnnniniii q_3 0 0 0 0 0 0)]) hD hS hA [2] rfl
  refine va_callv (va_runI (As := []) (rest := [.ref q_3, .ref a0]) ⟨hx, hb, hml, hown, hts⟩ (c_hillInit l dC dI q_3 H.size) (cwI 0 hts ggX8_init_X5_init rfl rfl rfl (hts (.initialized RX5) kc_sceneInit_9) (hts (.methodLink RX8 17 yX5_init) kc_sceneInit_10) (hts (.instanceMethod yX5_init) kc_sceneInit_11) rfl (by decide +kernel) ⟨Nat.le_of_ble_eq_true rfl, Nat.le_of_ble_eq_true rfl⟩) ⟨fun a U g mk q => by obtain ⟨q0, q1, qP, qK, qD⟩ := q; exact ⟨q0, q1, qP, va_K.moved (u := U) (U := U.calling g mk a) (Vm.Alike.refl U.vm) qK, qD⟩, fun U hU hW => ⟨rfl, by rw [hU], by rw [hU]; exact hPc, va_K.moved hW.alike hKc, hDc.weaken (fun _ _ _ _ => trivial)⟩⟩ rfl rfl hl.1 rfl (lv_room (Nat.le_of_ble_eq_true rfl)) dX8_init_17 ⟨Nat.le_of_ble_eq_true rfl, Nat.le_of_ble_eq_true rfl⟩) hS (fun q _ h => hFc q h) hFc (fun u tC H1 locs htC hvm hw_5 hB hz1 hk1 hS => ?_)
  obtain ⟨⟩ := u
  try dsimp only at hw_5 hB
  obtain ⟨bW_6, bA_7, bE_8, bC_9, cbW_10, cbA_11, cbE_12, cbC_13, hP1, hK1, hD1⟩ := hB
  rw [htC] at hP1
  have hK1 := va_K.moved hvm.symm hK1
  obtain ⟨hP, hD⟩ := va_join (wr := [(zo10riniliinininin a0 q_1 0 0 0 0 0 0 0 0), (zaI q_1 ca_2 100 (fun _ => 0))]) (w1 := [(zo7iirrrriniii q_3 3 0 bW_6 bA_7 bE_8 bC_9 0 0 0 0), (zaI bW_6 cbW_10 10 (fun _ => 0)), (zaI bA_7 cbA_11 10 (fun _ => 0)), (zaI bE_8 cbE_12 10 (fun _ => 0)), (zaI bC_9 cbC_13 100 (fun _ => 0))]) hP hD [2] [0, 1] rfl rfl (by decide) (by decide) hk1 hFc hP1 hD1
  have hK := (hK.sub (tys' := [(ca_2, .int)]) [0] rfl).app hK1
  generalize H1 = H at hP hS ⊢
  have hP : va_P (dC, dI) vwCl [(zo10riniliinininin a0 q_1 0 0 0 0 0 0 0 0), (zaI q_1 ca_2 100 (fun _ => 0)), (zo7iirrrriniii q_3 3 0 bW_6 bA_7 bE_8 bC_9 0 0 0 0), (zaI bW_6 cbW_10 10 (fun _ => 0)), (zaI bA_7 cbA_11 10 (fun _ => 0)), (zaI bE_8 cbE_12 10 (fun _ => 0)), (zaI bC_9 cbC_13 100 (fun _ => 0))] H := hP
  have hD : va_D A [(zo10riniliinininin a0 q_1 0 0 0 0 0 0 0 0), (zaI q_1 ca_2 100 (fun _ => 0)), (zo7iirrrriniii q_3 3 0 bW_6 bA_7 bE_8 bC_9 0 0 0 0), (zaI bW_6 cbW_10 10 (fun _ => 0)), (zaI bA_7 cbA_11 10 (fun _ => 0)), (zaI bE_8 cbE_12 10 (fun _ => 0)), (zaI bC_9 cbC_13 100 (fun _ => 0))] := hD
  have hK : va_K (dC, dI) vwCl [(ca_2, .int), (cbW_10, .int), (cbA_11, .int), (cbE_12, .int), (cbC_13, .int)] s := hK
  refine W.widen (k := 6) (n := 241) (by omega) (by omega) ?_
  refine va_put (D := (dC, dI)) (ci := 10) (v := .ref q_3) (ty := .object "MistHeaps$Hill") (C := RX8) (T := TX8) (N := 14) hx hb hts kc_sceneInit_4 tyX8 tyX8_ok nmX8 hown hK hP hD hS 0 rfl rfl 2 (by decide) (hts (.fieldLink RX8 18 "MistHeaps$Scene" "hill" "LMistHeaps$Hill;") kc_sceneInit_12) (fun _ h9 => h9) rfl (by decide +kernel) rfl rfl (Nat.le_of_ble_eq_true rfl) dX8_init_20 (fun H locs hP hD hS => ?_)
  have hP : va_P (dC, dI) vwCl [(zo10ririliinininin a0 q_1 0 q_3 0 0 0 0 0 0 0), (zaI q_1 ca_2 100 (fun _ => 0)), (zo7iirrrriniii q_3 3 0 bW_6 bA_7 bE_8 bC_9 0 0 0 0), (zaI bW_6 cbW_10 10 (fun _ => 0)), (zaI bA_7 cbA_11 10 (fun _ => 0)), (zaI bE_8 cbE_12 10 (fun _ => 0)), (zaI bC_9 cbC_13 100 (fun _ => 0))] H := hP
  have hD : va_D A [(zo10ririliinininin a0 q_1 0 q_3 0 0 0 0 0 0 0), (zaI q_1 ca_2 100 (fun _ => 0)), (zo7iirrrriniii q_3 3 0 bW_6 bA_7 bE_8 bC_9 0 0 0 0), (zaI bW_6 cbW_10 10 (fun _ => 0)), (zaI bA_7 cbA_11 10 (fun _ => 0)), (zaI bE_8 cbE_12 10 (fun _ => 0)), (zaI bC_9 cbC_13 100 (fun _ => 0))] := hD
  refine lv_aload_n hx hb dX8_init_23 rfl (lv_at hl 0 rfl) ?_
  refine lv_bipush (v := 8) hx hb dX8_init_24 (by decide) ?_
  refine va_newq (C := "MistHeaps$Heap") (N' := 8) hx hb hown (hts (.classLink RX8 22 RX3) kc_sceneInit_13) hC.1 hK hP hD hS hA (by decide) (by decide) (by decide) (Nat.le_of_ble_eq_true rfl) (Nat.le_of_ble_eq_true rfl) dX8_init_26 (fun q_14 ca_15 H hK hP hD hS => ?_)
  have hP : va_P (dC, dI) vwCl [(zo10ririliinininin a0 q_1 0 q_3 0 0 0 0 0 0 0), (zaI q_1 ca_2 100 (fun _ => 0)), (zo7iirrrriniii q_3 3 0 bW_6 bA_7 bE_8 bC_9 0 0 0 0), (zaI bW_6 cbW_10 10 (fun _ => 0)), (zaI bA_7 cbA_11 10 (fun _ => 0)), (zaI bE_8 cbE_12 10 (fun _ => 0)), (zaI bC_9 cbC_13 100 (fun _ => 0)), (zaR q_14 ca_15 8 (fun _ => none))] H := hP
  have hD : va_D A [(zo10ririliinininin a0 q_1 0 q_3 0 0 0 0 0 0 0), (zaI q_1 ca_2 100 (fun _ => 0)), (zo7iirrrriniii q_3 3 0 bW_6 bA_7 bE_8 bC_9 0 0 0 0), (zaI bW_6 cbW_10 10 (fun _ => 0)), (zaI bA_7 cbA_11 10 (fun _ => 0)), (zaI bE_8 cbE_12 10 (fun _ => 0)), (zaI bC_9 cbC_13 100 (fun _ => 0)), (zaR q_14 ca_15 8 (fun _ => none))] := hD
  have hK : va_K (dC, dI) vwCl [(ca_2, .int), (cbW_10, .int), (cbA_11, .int), (cbE_12, .int), (cbC_13, .int), (ca_15, .object "MistHeaps$Heap")] s := hK
  refine W.widen (k := 7) (n := 249) (by omega) (by omega) ?_
  refine va_putF (D := (dC, dI)) (ci := 10) (v := .ref q_14) (ty := .array (.object "MistHeaps$Heap")) (C := RX8) (T := TX8) (N := 14) hx hb hts kc_sceneInit_4 tyX8 tyX8_ok nmX8 hown hK hP hD hS 0 rfl rfl 7 (by decide) (hts (.fieldLink RX8 24 "MistHeaps$Scene" "heaps" "[LMistHeaps$Heap;") kc_sceneInit_14) (fun _ h9 => h9) rfl hin rfl (by decide +kernel) rfl rfl (Nat.le_of_ble_eq_true rfl) dX8_init_29 (fun H locs hP hD hS => ?_)
  have hP : va_P (dC, dI) vwCl [(zo10ririliirininin a0 q_1 0 q_3 0 0 0 0 q_14 0 0 0), (zaI q_1 ca_2 100 (fun _ => 0)), (zo7iirrrriniii q_3 3 0 bW_6 bA_7 bE_8 bC_9 0 0 0 0), (zaI bW_6 cbW_10 10 (fun _ => 0)), (zaI bA_7 cbA_11 10 (fun _ => 0)), (zaI bE_8 cbE_12 10 (fun _ => 0)), (zaI bC_9 cbC_13 100 (fun _ => 0)), (zaR q_14 ca_15 8 (fun _ => none))] H := hP
  have hD : va_D A [(zo10ririliirininin a0 q_1 0 q_3 0 0 0 0 q_14 0 0 0), (zaI q_1 ca_2 100 (fun _ => 0)), (zo7iirrrriniii q_3 3 0 bW_6 bA_7 bE_8 bC_9 0 0 0 0), (zaI bW_6 cbW_10 10 (fun _ => 0)), (zaI bA_7 cbA_11 10 (fun _ => 0)), (zaI bE_8 cbE_12 10 (fun _ => 0)), (zaI bC_9 cbC_13 100 (fun _ => 0)), (zaR q_14 ca_15 8 (fun _ => none))] := hD
  refine lv_aload_n hx hb dX8_init_32 rfl (lv_at hl 0 rfl) ?_
  refine lv_bipush (v := 6) hx hb dX8_init_33 (by decide) ?_
  refine va_newa (atype := .int) (ty := .int) (N' := 6) (a0 := (6, .inl (fun _ => 0))) hx hb (hts (.arrayClass .int) kc_sceneInit_3) rfl hK hP hD hS hA (fun _ => rfl) (by decide) (by decide) (by decide) (Nat.le_of_ble_eq_true rfl) (Nat.le_of_ble_eq_true rfl) dX8_init_35 (fun q_16 ca_17 H hK hP hD hS => ?_)
  have hP : va_P (dC, dI) vwCl [(zo10ririliirininin a0 q_1 0 q_3 0 0 0 0 q_14 0 0 0), (zaI q_1 ca_2 100 (fun _ => 0)), (zo7iirrrriniii q_3 3 0 bW_6 bA_7 bE_8 bC_9 0 0 0 0), (zaI bW_6 cbW_10 10 (fun _ => 0)), (zaI bA_7 cbA_11 10 (fun _ => 0)), (zaI bE_8 cbE_12 10 (fun _ => 0)), (zaI bC_9 cbC_13 100 (fun _ => 0)), (zaR q_14 ca_15 8 (fun _ => none)), (zaI q_16 ca_17 6 (fun _ => 0))] H := hP
  have hD : va_D A [(zo10ririliirininin a0 q_1 0 q_3 0 0 0 0 q_14 0 0 0), (zaI q_1 ca_2 100 (fun _ => 0)), (zo7iirrrriniii q_3 3 0 bW_6 bA_7 bE_8 bC_9 0 0 0 0), (zaI bW_6 cbW_10 10 (fun _ => 0)), (zaI bA_7 cbA_11 10 (fun _ => 0)), (zaI bE_8 cbE_12 10 (fun _ => 0)), (zaI bC_9 cbC_13 100 (fun _ => 0)), (zaR q_14 ca_15 8 (fun _ => none)), (zaI q_16 ca_17 6 (fun _ => 0))] := hD
  have hK : va_K (dC, dI) vwCl [(ca_2, .int), (cbW_10, .int), (cbA_11, .int), (cbE_12, .int), (cbC_13, .int), (ca_15, .object "MistHeaps$Heap"), (ca_17, .int)] s := hK
  refine W.widen (k := 8) (n := 255) (by omega) (by omega) ?_
  refine va_putF (D := (dC, dI)) (ci := 10) (v := .ref q_16) (ty := .array .int) (C := RX8) (T := TX8) (N := 14) hx hb hts kc_sceneInit_4 tyX8 tyX8_ok nmX8 hown hK hP hD hS 0 rfl rfl 9 (by decide) (hts (.fieldLink RX8 28 "MistHeaps$Scene" "walk" "[I") kc_sceneInit_15) (fun _ h9 => h9) rfl hin rfl (by decide +kernel) rfl rfl (Nat.le_of_ble_eq_true rfl) dX8_init_37 (fun H locs hP hD hS => ?_)
  have hP : va_P (dC, dI) vwCl [(zo10ririliiririnin a0 q_1 0 q_3 0 0 0 0 q_14 0 q_16 0 0), (zaI q_1 ca_2 100 (fun _ => 0)), (zo7iirrrriniii q_3 3 0 bW_6 bA_7 bE_8 bC_9 0 0 0 0), (zaI bW_6 cbW_10 10 (fun _ => 0)), (zaI bA_7 cbA_11 10 (fun _ => 0)), (zaI bE_8 cbE_12 10 (fun _ => 0)), (zaI bC_9 cbC_13 100 (fun _ => 0)), (zaR q_14 ca_15 8 (fun _ => none)), (zaI q_16 ca_17 6 (fun _ => 0))] H := hP
  have hD : va_D A [(zo10ririliiririnin a0 q_1 0 q_3 0 0 0 0 q_14 0 q_16 0 0), (zaI q_1 ca_2 100 (fun _ => 0)), (zo7iirrrriniii q_3 3 0 bW_6 bA_7 bE_8 bC_9 0 0 0 0), (zaI bW_6 cbW_10 10 (fun _ => 0)), (zaI bA_7 cbA_11 10 (fun _ => 0)), (zaI bE_8 cbE_12 10 (fun _ => 0)), (zaI bC_9 cbC_13 100 (fun _ => 0)), (zaR q_14 ca_15 8 (fun _ => none)), (zaI q_16 ca_17 6 (fun _ => 0))] := hD
  refine lv_aload_n hx hb dX8_init_40 rfl (lv_at hl 0 rfl) ?_
  refine lv_bipush (v := 12) hx hb dX8_init_41 (by decide) ?_
  refine va_newa (atype := .int) (ty := .int) (N' := 12) (a0 := (12, .inl (fun _ => 0))) hx hb (hts (.arrayClass .int) kc_sceneInit_3) rfl hK hP hD hS hA (fun _ => rfl) (by decide) (by decide) (by decide) (Nat.le_of_ble_eq_true rfl) (Nat.le_of_ble_eq_true rfl) dX8_init_43 (fun q_18 ca_19 H hK hP hD hS => ?_)
  have hP : va_P (dC, dI) vwCl [(zo10ririliiririnin a0 q_1 0 q_3 0 0 0 0 q_14 0 q_16 0 0), (zaI q_1 ca_2 100 (fun _ => 0)), (zo7iirrrriniii q_3 3 0 bW_6 bA_7 bE_8 bC_9 0 0 0 0), (zaI bW_6 cbW_10 10 (fun _ => 0)), (zaI bA_7 cbA_11 10 (fun _ => 0)), (zaI bE_8 cbE_12 10 (fun _ => 0)), (zaI bC_9 cbC_13 100 (fun _ => 0)), (zaR q_14 ca_15 8 (fun _ => none)), (zaI q_16 ca_17 6 (fun _ => 0)), (zaI q_18 ca_19 12 (fun _ => 0))] H := hP
  have hD : va_D A [(zo10ririliiririnin a0 q_1 0 q_3 0 0 0 0 q_14 0 q_16 0 0), (zaI q_1 ca_2 100 (fun _ => 0)), (zo7iirrrriniii q_3 3 0 bW_6 bA_7 bE_8 bC_9 0 0 0 0), (zaI bW_6 cbW_10 10 (fun _ => 0)), (zaI bA_7 cbA_11 10 (fun _ => 0)), (zaI bE_8 cbE_12 10 (fun _ => 0)), (zaI bC_9 cbC_13 100 (fun _ => 0)), (zaR q_14 ca_15 8 (fun _ => none)), (zaI q_16 ca_17 6 (fun _ => 0)), (zaI q_18 ca_19 12 (fun _ => 0))] := hD
  have hK : va_K (dC, dI) vwCl [(ca_2, .int), (cbW_10, .int), (cbA_11, .int), (cbE_12, .int), (cbC_13, .int), (ca_15, .object "MistHeaps$Heap"), (ca_17, .int), (ca_19, .int)] s := hK
  refine W.widen (k := 9) (n := 267) (by omega) (by omega) ?_
  refine va_putF (D := (dC, dI)) (ci := 10) (v := .ref q_18) (ty := .array .int) (C := RX8) (T := TX8) (N := 14) hx hb hts kc_sceneInit_4 tyX8 tyX8_ok nmX8 hown hK hP hD hS 0 rfl rfl 11 (by decide) (hts (.fieldLink RX8 31 "MistHeaps$Scene" "book" "[I") kc_sceneInit_16) (fun _ h9 => h9) rfl hin rfl (by decide +kernel) rfl rfl (Nat.le_of_ble_eq_true rfl) dX8_init_45 (fun H locs hP hD hS => ?_)
  have hP : va_P (dC, dI) vwCl [(zo10ririliiriririn a0 q_1 0 q_3 0 0 0 0 q_14 0 q_16 0 q_18 0), (zaI q_1 ca_2 100 (fun _ => 0)), (zo7iirrrriniii q_3 3 0 bW_6 bA_7 bE_8 bC_9 0 0 0 0), (zaI bW_6 cbW_10 10 (fun _ => 0)), (zaI bA_7 cbA_11 10 (fun _ => 0)), (zaI bE_8 cbE_12 10 (fun _ => 0)), (zaI bC_9 cbC_13 100 (fun _ => 0)), (zaR q_14 ca_15 8 (fun _ => none)), (zaI q_16 ca_17 6 (fun _ => 0)), (zaI q_18 ca_19 12 (fun _ => 0))] H := hP
  have hD : va_D A [(zo10ririliiriririn a0 q_1 0 q_3 0 0 0 0 q_14 0 q_16 0 q_18 0), (zaI q_1 ca_2 100 (fun _ => 0)), (zo7iirrrriniii q_3 3 0 bW_6 bA_7 bE_8 bC_9 0 0 0 0), (zaI bW_6 cbW_10 10 (fun _ => 0)), (zaI bA_7 cbA_11 10 (fun _ => 0)), (zaI bE_8 cbE_12 10 (fun _ => 0)), (zaI bC_9 cbC_13 100 (fun _ => 0)), (zaR q_14 ca_15 8 (fun _ => none)), (zaI q_16 ca_17 6 (fun _ => 0)), (zaI q_18 ca_19 12 (fun _ => 0))] := hD
  refine lv_aload_n hx hb dX8_init_48 rfl (lv_at hl 0 rfl) ?_
  refine lv_bipush (v := 6) hx hb dX8_init_49 (by decide) ?_
  refine va_newa (atype := .int) (ty := .int) (N' := 6) (a0 := (6, .inl (fun _ => 0))) hx hb (hts (.arrayClass .int) kc_sceneInit_3) rfl hK hP hD hS hA (fun _ => rfl) (by decide) (by decide) (by decide) (Nat.le_of_ble_eq_true rfl) (Nat.le_of_ble_eq_true rfl) dX8_init_51 (fun q_20 ca_21 H hK hP hD hS => ?_)
  have hP : va_P (dC, dI) vwCl [(zo10ririliiriririn a0 q_1 0 q_3 0 0 0 0 q_14 0 q_16 0 q_18 0), (zaI q_1 ca_2 100 (fun _ => 0)), (zo7iirrrriniii q_3 3 0 bW_6 bA_7 bE_8 bC_9 0 0 0 0), (zaI bW_6 cbW_10 10 (fun _ => 0)), (zaI bA_7 cbA_11 10 (fun _ => 0)), (zaI bE_8 cbE_12 10 (fun _ => 0)), (zaI bC_9 cbC_13 100 (fun _ => 0)), (zaR q_14 ca_15 8 (fun _ => none)), (zaI q_16 ca_17 6 (fun _ => 0)), (zaI q_18 ca_19 12 (fun _ => 0)), (zaI q_20 ca_21 6 (fun _ => 0))] H := hP
  have hD : va_D A [(zo10ririliiriririn a0 q_1 0 q_3 0 0 0 0 q_14 0 q_16 0 q_18 0), (zaI q_1 ca_2 100 (fun _ => 0)), (zo7iirrrriniii q_3 3 0 bW_6 bA_7 bE_8 bC_9 0 0 0 0), (zaI bW_6 cbW_10 10 (fun _ => 0)), (zaI bA_7 cbA_11 10 (fun _ => 0)), (zaI bE_8 cbE_12 10 (fun _ => 0)), (zaI bC_9 cbC_13 100 (fun _ => 0)), (zaR q_14 ca_15 8 (fun _ => none)), (zaI q_16 ca_17 6 (fun _ => 0)), (zaI q_18 ca_19 12 (fun _ => 0)), (zaI q_20 ca_21 6 (fun _ => 0))] := hD
  have hK : va_K (dC, dI) vwCl [(ca_2, .int), (cbW_10, .int), (cbA_11, .int), (cbE_12, .int), (cbC_13, .int), (ca_15, .object "MistHeaps$Heap"), (ca_17, .int), (ca_19, .int), (ca_21, .int)] s := hK
  refine W.widen (k := 10) (n := 273) (by omega) (by omega) ?_
  refine va_putF (D := (dC, dI)) (ci := 10) (v := .ref q_20) (ty := .array .int) (C := RX8) (T := TX8) (N := 14) hx hb hts kc_sceneInit_4 tyX8 tyX8_ok nmX8 hown hK hP hD hS 0 rfl rfl 13 (by decide) (hts (.fieldLink RX8 34 "MistHeaps$Scene" "facts" "[I") kc_sceneInit_17) (fun _ h9 => h9) rfl hin rfl (by decide +kernel) rfl rfl (Nat.le_of_ble_eq_true rfl) dX8_init_53 (fun H locs hP hD hS => ?_)
  have hP : va_P (dC, dI) vwCl [(zo10ririliiriririr a0 q_1 0 q_3 0 0 0 0 q_14 0 q_16 0 q_18 0 q_20), (zaI q_1 ca_2 100 (fun _ => 0)), (zo7iirrrriniii q_3 3 0 bW_6 bA_7 bE_8 bC_9 0 0 0 0), (zaI bW_6 cbW_10 10 (fun _ => 0)), (zaI bA_7 cbA_11 10 (fun _ => 0)), (zaI bE_8 cbE_12 10 (fun _ => 0)), (zaI bC_9 cbC_13 100 (fun _ => 0)), (zaR q_14 ca_15 8 (fun _ => none)), (zaI q_16 ca_17 6 (fun _ => 0)), (zaI q_18 ca_19 12 (fun _ => 0)), (zaI q_20 ca_21 6 (fun _ => 0))] H := hP
  have hD : va_D A [(zo10ririliiriririr a0 q_1 0 q_3 0 0 0 0 q_14 0 q_16 0 q_18 0 q_20), (zaI q_1 ca_2 100 (fun _ => 0)), (zo7iirrrriniii q_3 3 0 bW_6 bA_7 bE_8 bC_9 0 0 0 0), (zaI bW_6 cbW_10 10 (fun _ => 0)), (zaI bA_7 cbA_11 10 (fun _ => 0)), (zaI bE_8 cbE_12 10 (fun _ => 0)), (zaI bC_9 cbC_13 100 (fun _ => 0)), (zaR q_14 ca_15 8 (fun _ => none)), (zaI q_16 ca_17 6 (fun _ => 0)), (zaI q_18 ca_19 12 (fun _ => 0)), (zaI q_20 ca_21 6 (fun _ => 0))] := hD
  rw [hQ]
  have hP9 := hP.sub (ws' := [(zo10ririliiriririr a0 q_1 0 q_3 0 0 0 0 q_14 0 q_16 0 q_18 0 q_20), (zaI q_1 ca_2 100 (fun _ => 0)), (zaR q_14 ca_15 8 (fun _ => none)), (zaI q_16 ca_17 6 (fun _ => 0)), (zaI q_18 ca_19 12 (fun _ => 0)), (zaI q_20 ca_21 6 (fun _ => 0)), (zo7iirrrriniii q_3 3 0 bW_6 bA_7 bE_8 bC_9 0 0 0 0), (zaI bW_6 cbW_10 10 (fun _ => 0)), (zaI bA_7 cbA_11 10 (fun _ => 0)), (zaI bE_8 cbE_12 10 (fun _ => 0)), (zaI bC_9 cbC_13 100 (fun _ => 0))]) [0, 1, 7, 8, 9, 10, 2, 3, 4, 5, 6] rfl
  have hD9 := hD.sub (ws' := [(zo10ririliiriririr a0 q_1 0 q_3 0 0 0 0 q_14 0 q_16 0 q_18 0 q_20), (zaI q_1 ca_2 100 (fun _ => 0)), (zaR q_14 ca_15 8 (fun _ => none)), (zaI q_16 ca_17 6 (fun _ => 0)), (zaI q_18 ca_19 12 (fun _ => 0)), (zaI q_20 ca_21 6 (fun _ => 0)), (zo7iirrrriniii q_3 3 0 bW_6 bA_7 bE_8 bC_9 0 0 0 0), (zaI bW_6 cbW_10 10 (fun _ => 0)), (zaI bA_7 cbA_11 10 (fun _ => 0)), (zaI bE_8 cbE_12 10 (fun _ => 0)), (zaI bC_9 cbC_13 100 (fun _ => 0))]) [0, 1, 7, 8, 9, 10, 2, 3, 4, 5, 6] (by decide) rfl
  have hK9 := hK.sub (tys' := [(ca_2, .int), (ca_15, .object "MistHeaps$Heap"), (ca_17, .int), (ca_19, .int), (ca_21, .int), (cbW_10, .int), (cbA_11, .int), (cbE_12, .int), (cbC_13, .int)]) [0, 5, 6, 7, 8, 1, 2, 3, 4] rfl
  exact W.vret hx hb hr (fun tQ htQ hWQ => ⟨⟨(), rfl, trivial, q_1, q_14, q_16, q_18, q_20, q_3, ca_2, ca_15, ca_17, ca_19, ca_21, bW_6, bA_7, bE_8, bC_9, cbW_10, cbA_11, cbE_12, cbC_13, by rw [htQ]; exact hP9, va_K.moved hWQ.alike hK9, hD9⟩, hS.F htQ⟩) hS.2.2 dX8_init_56

theorem kc_h3_X3_0 : (.methodLink RX3 3 objectInit : Cond) ∈ wsX3_init := kc_of 227 rfl rfl rfl
theorem kc_h3_X3_1 : (.instanceMethod objectInit : Cond) ∈ wsX3_init := kc_of 99 rfl rfl rfl
theorem kc_h3_X3_2 : (.code objectInit ⟨#[0xb1]⟩ 1 none : Cond) ∈ wsX3_init := kc_of 100 rfl rfl rfl
theorem kc_h3_X3_3 : ∀ w ∈ wsX30, w ∈ wsX3_init := fun w h => List.mem_cons_of_mem _ (gin_wsX30 w h)
theorem kc_h3_X3_4 : (.fieldLink RX3 9 "MistHeaps$Heap" "kind" "I" : Cond) ∈ wsX3_init := kc_of 228 rfl rfl rfl
theorem kc_h3_X3_5 : (.fieldLink RX3 15 "MistHeaps$Heap" "number" "I" : Cond) ∈ wsX3_init := kc_of 231 rfl rfl rfl
theorem kc_h3_X3_6 : (.fieldLink RX3 18 "MistHeaps$Heap" "v" "I" : Cond) ∈ wsX3_init := kc_of 236 rfl rfl rfl
theorem kc_h3_X3_7 : (.fieldLink RX3 21 "MistHeaps$Heap" "cell" "I" : Cond) ∈ wsX3_init := kc_of 246 rfl rfl rfl
set_option maxHeartbeats 4000000 in
set_option maxRecDepth 100000 in
theorem c_h3_X3 (l : Launch) (dC : Nat → ClassId) (dI : Nat → Nat → Nat) (a0 : Nat) (x y z u0 : Int32) (sz : Nat) : Met l yX3_init wsX3_init ({ frames := 1, cells := 0, slots := 0, locals := 12 } : Room) (va_Pc [.ref a0, .int x, .int y, .int z, .int u0] (fun U => U.heap.size = sz ∧ va_P (dC, dI) vwCl [(zo5iiii a0 0 0 0 0)] U.heap ∧ va_K (dC, dI) vwCl [] U ∧ va_D (fun _ => True) [(zo5iiii a0 0 0 0 0)])) (va_Qv (fun (u : Unit) => match u with | () => True) (fun (u : Unit) (t : State) => match u with | () => va_P (dC, dI) vwCl [(zo5iiii a0 x y z u0)] t.heap ∧ va_K (dC, dI) vwCl [] t ∧ va_D (va_A [(zo5iiii a0 0 0 0 0)] sz) [(zo5iiii a0 x y z u0)]) (va_A [(zo5iiii a0 0 0 0 0)] sz)) 0 0 (va_A [(zo5iiii a0 0 0 0 0)] sz) := by
  refine met_ofQ (cc := cX3_init) (maxL := 5) (ret := none) (by decide) rfl ?_
  intro p e s m args below meth c s₁ Q B hml hv hQ
  obtain ⟨rfl, hsz, hP, hK, hD0⟩ := hv
  have hx := B.exec
  have hb := B.bytes
  have hr := B.returns
  have hts := atoms_spec (ws := wsX3_init) B.pre
  have hown : s.vm.findClass RX3 = some m.cls := findClass_of_methodNamed B.named
  have hlocks := B.notSynchronized
  have hin : meth.name = "<init>" := (name_of_methodNamed B.named B.method).1
  subst hsz
  have hD := hD0.self (sz := s.heap.size)
  generalize hAe : va_A [(zo5iiii a0 0 0 0 0)] s.heap.size = A at hD hQ ⊢
  have hA : ∀ q : Nat, s.heap.size ≤ q → A q := fun q h => by rw [← hAe]; exact Or.inr h
  have hS : va_S A s.heap s.heap [] := va_S.rf
  have hl := lv_entry [.ref a0, .int x, .int y, .int z, .int u0] (n := 5) (Nat.le_of_ble_eq_true rfl)
  rw [lg_entry_eq]
  generalize (lg_sl [.ref a0, .int x, .int y, .int z, .int u0] ++ List.replicate (5 - (lg_sl [.ref a0, .int x, .int y, .int z, .int u0]).length) Slot.unset).toArray = ls at hl ⊢
  generalize hag : ([.ref a0, .int x, .int y, .int z, .int u0] : List Value).toArray = args at hts hQ ⊢
  have hl : lv_has ls 5 [(0, .ref a0), (1, .int x), (2, .int y), (3, .int z), (4, .int u0)] := hl
  obtain ⟨H, hH⟩ : ∃ H : Heap, H = s.heap := ⟨_, rfl⟩
  rw [← hH] at hP
  rw [← hH]
  have hS : va_S A s.heap H [] := by rw [hH]; exact hS
  obtain ⟨locs, hlo⟩ : ∃ L : List Loc, L = [] := ⟨_, rfl⟩
  rw [← hlo] at hS
  rw [← hlo]
  clear hH hlo
  refine lv_aload_n hx hb dX3_init_0 rfl (lv_at hl 0 rfl) ?_
  refine W.objInit hx hb hown (hts (.methodLink RX3 3 objectInit) kc_h3_X3_0) (hts (.instanceMethod objectInit) kc_h3_X3_1) (hts (.code objectInit ⟨#[0xb1]⟩ 1 none) kc_h3_X3_2) rfl (by rw [hml]; exact hl.1) rfl dX3_init_1 (Nat.le_of_ble_eq_true rfl) (Nat.le_of_ble_eq_true rfl) ?_
  refine W.eq (g2 := F0 m 4 ls []) rfl ?_
  refine lv_aload_n hx hb dX3_init_4 rfl (lv_at hl 0 rfl) ?_
  refine lv_iload_n hx hb dX3_init_5 rfl (lv_at hl 1 rfl) ?_
  refine va_putF (D := (dC, dI)) (ci := 5) (v := .int x) (ty := .int) (C := RX3) (T := TX3) (N := 4) hx hb hts kc_h3_X3_3 tyX3 tyX3_ok nmX3 hown hK hP hD hS 0 rfl rfl 0 (by decide) (hts (.fieldLink RX3 9 "MistHeaps$Heap" "kind" "I") kc_h3_X3_4) (fun _ h9 => h9) rfl hin rfl (by decide +kernel) rfl rfl (Nat.le_of_ble_eq_true rfl) dX3_init_6 (fun H locs hP hD hS => ?_)
  have hP : va_P (dC, dI) vwCl [(zo5iiii a0 x 0 0 0)] H := hP
  have hD : va_D A [(zo5iiii a0 x 0 0 0)] := hD
  refine lv_aload_n hx hb dX3_init_9 rfl (lv_at hl 0 rfl) ?_
  refine lv_iload_n hx hb dX3_init_10 rfl (lv_at hl 2 rfl) ?_
  refine va_put (D := (dC, dI)) (ci := 5) (v := .int y) (ty := .int) (C := RX3) (T := TX3) (N := 4) hx hb hts kc_h3_X3_3 tyX3 tyX3_ok nmX3 hown hK hP hD hS 0 rfl rfl 1 (by decide) (hts (.fieldLink RX3 15 "MistHeaps$Heap" "number" "I") kc_h3_X3_5) (fun _ h9 => h9) rfl (by decide +kernel) rfl rfl (Nat.le_of_ble_eq_true rfl) dX3_init_11 (fun H locs hP hD hS => ?_)
  have hP : va_P (dC, dI) vwCl [(zo5iiii a0 x y 0 0)] H := hP
  have hD : va_D A [(zo5iiii a0 x y 0 0)] := hD
  refine lv_aload_n hx hb dX3_init_14 rfl (lv_at hl 0 rfl) ?_
  refine lv_iload_n hx hb dX3_init_15 rfl (lv_at hl 3 rfl) ?_
  refine va_putF (D := (dC, dI)) (ci := 5) (v := .int z) (ty := .int) (C := RX3) (T := TX3) (N := 4) hx hb hts kc_h3_X3_3 tyX3 tyX3_ok nmX3 hown hK hP hD hS 0 rfl rfl 2 (by decide) (hts (.fieldLink RX3 18 "MistHeaps$Heap" "v" "I") kc_h3_X3_6) (fun _ h9 => h9) rfl hin rfl (by decide +kernel) rfl rfl (Nat.le_of_ble_eq_true rfl) dX3_init_16 (fun H locs hP hD hS => ?_)
  have hP : va_P (dC, dI) vwCl [(zo5iiii a0 x y z 0)] H := hP
  have hD : va_D A [(zo5iiii a0 x y z 0)] := hD
  refine lv_aload_n hx hb dX3_init_19 rfl (lv_at hl 0 rfl) ?_
  refine lv_iload hx hb dX3_init_20 (lv_at hl 4 rfl) ?_
  refine va_put (D := (dC, dI)) (ci := 5) (v := .int u0) (ty := .int) (C := RX3) (T := TX3) (N := 4) hx hb hts kc_h3_X3_3 tyX3 tyX3_ok nmX3 hown hK hP hD hS 0 rfl rfl 3 (by decide) (hts (.fieldLink RX3 21 "MistHeaps$Heap" "cell" "I") kc_h3_X3_7) (fun _ h9 => h9) rfl (by decide +kernel) rfl rfl (Nat.le_of_ble_eq_true rfl) dX3_init_22 (fun H locs hP hD hS => ?_)
  have hP : va_P (dC, dI) vwCl [(zo5iiii a0 x y z u0)] H := hP
  have hD : va_D A [(zo5iiii a0 x y z u0)] := hD
  rw [hQ]
  have hP9 := hP.sub (ws' := [(zo5iiii a0 x y z u0)]) [0] rfl
  have hD9 := hD.sub (ws' := [(zo5iiii a0 x y z u0)]) [0] (by decide) rfl
  have hK9 := hK.sub (tys' := []) [] rfl
  exact W.vret hx hb hr (fun tQ htQ hWQ => ⟨⟨(), rfl, trivial, by rw [htQ]; exact hP9, va_K.moved hWQ.alike hK9, hD9⟩, hS.F htQ⟩) hS.2.2 dX3_init_25

theorem kc_h3_X4_0 : (.methodLink RX3 3 objectInit : Cond) ∈ wsX3_init := kc_of 227 rfl rfl rfl
theorem kc_h3_X4_1 : (.instanceMethod objectInit : Cond) ∈ wsX3_init := kc_of 99 rfl rfl rfl
theorem kc_h3_X4_2 : (.code objectInit ⟨#[0xb1]⟩ 1 none : Cond) ∈ wsX3_init := kc_of 100 rfl rfl rfl
theorem kc_h3_X4_3 : ∀ w ∈ wsX40, w ∈ wsX3_init := fun w h => List.mem_cons_of_mem _ (gin_wsX40 w h)
theorem kc_h3_X4_4 : (.fieldLink RX3 9 "MistHeaps$Heap" "kind" "I" : Cond) ∈ wsX3_init := kc_of 228 rfl rfl rfl
theorem kc_h3_X4_5 : (.fieldLink RX3 15 "MistHeaps$Heap" "number" "I" : Cond) ∈ wsX3_init := kc_of 231 rfl rfl rfl
theorem kc_h3_X4_6 : (.fieldLink RX3 18 "MistHeaps$Heap" "v" "I" : Cond) ∈ wsX3_init := kc_of 236 rfl rfl rfl
theorem kc_h3_X4_7 : (.fieldLink RX3 21 "MistHeaps$Heap" "cell" "I" : Cond) ∈ wsX3_init := kc_of 246 rfl rfl rfl
set_option maxHeartbeats 4000000 in
set_option maxRecDepth 100000 in
theorem c_h3_X4 (l : Launch) (dC : Nat → ClassId) (dI : Nat → Nat → Nat) (a0 : Nat) (x y z u0 : Int32) (sz : Nat) : Met l yX3_init wsX3_init ({ frames := 1, cells := 0, slots := 0, locals := 12 } : Room) (va_Pc [.ref a0, .int x, .int y, .int z, .int u0] (fun U => U.heap.size = sz ∧ va_P (dC, dI) vwCl [(zo6iiii a0 0 0 0 0)] U.heap ∧ va_K (dC, dI) vwCl [] U ∧ va_D (fun _ => True) [(zo6iiii a0 0 0 0 0)])) (va_Qv (fun (u : Unit) => match u with | () => True) (fun (u : Unit) (t : State) => match u with | () => va_P (dC, dI) vwCl [(zo6iiii a0 x y z u0)] t.heap ∧ va_K (dC, dI) vwCl [] t ∧ va_D (va_A [(zo6iiii a0 0 0 0 0)] sz) [(zo6iiii a0 x y z u0)]) (va_A [(zo6iiii a0 0 0 0 0)] sz)) 0 0 (va_A [(zo6iiii a0 0 0 0 0)] sz) := by
  refine met_ofQ (cc := cX3_init) (maxL := 5) (ret := none) (by decide) rfl ?_
  intro p e s m args below meth c s₁ Q B hml hv hQ
  obtain ⟨rfl, hsz, hP, hK, hD0⟩ := hv
  have hx := B.exec
  have hb := B.bytes
  have hr := B.returns
  have hts := atoms_spec (ws := wsX3_init) B.pre
  have hown : s.vm.findClass RX3 = some m.cls := findClass_of_methodNamed B.named
  have hlocks := B.notSynchronized
  have hin : meth.name = "<init>" := (name_of_methodNamed B.named B.method).1
  subst hsz
  have hD := hD0.self (sz := s.heap.size)
  generalize hAe : va_A [(zo6iiii a0 0 0 0 0)] s.heap.size = A at hD hQ ⊢
  have hA : ∀ q : Nat, s.heap.size ≤ q → A q := fun q h => by rw [← hAe]; exact Or.inr h
  have hS : va_S A s.heap s.heap [] := va_S.rf
  have hl := lv_entry [.ref a0, .int x, .int y, .int z, .int u0] (n := 5) (Nat.le_of_ble_eq_true rfl)
  rw [lg_entry_eq]
  generalize (lg_sl [.ref a0, .int x, .int y, .int z, .int u0] ++ List.replicate (5 - (lg_sl [.ref a0, .int x, .int y, .int z, .int u0]).length) Slot.unset).toArray = ls at hl ⊢
  generalize hag : ([.ref a0, .int x, .int y, .int z, .int u0] : List Value).toArray = args at hts hQ ⊢
  have hl : lv_has ls 5 [(0, .ref a0), (1, .int x), (2, .int y), (3, .int z), (4, .int u0)] := hl
  obtain ⟨H, hH⟩ : ∃ H : Heap, H = s.heap := ⟨_, rfl⟩
  rw [← hH] at hP
  rw [← hH]
  have hS : va_S A s.heap H [] := by rw [hH]; exact hS
  obtain ⟨locs, hlo⟩ : ∃ L : List Loc, L = [] := ⟨_, rfl⟩
  rw [← hlo] at hS
  rw [← hlo]
  clear hH hlo
  refine lv_aload_n hx hb dX3_init_0 rfl (lv_at hl 0 rfl) ?_
  refine W.objInit hx hb hown (hts (.methodLink RX3 3 objectInit) kc_h3_X4_0) (hts (.instanceMethod objectInit) kc_h3_X4_1) (hts (.code objectInit ⟨#[0xb1]⟩ 1 none) kc_h3_X4_2) rfl (by rw [hml]; exact hl.1) rfl dX3_init_1 (Nat.le_of_ble_eq_true rfl) (Nat.le_of_ble_eq_true rfl) ?_
  refine W.eq (g2 := F0 m 4 ls []) rfl ?_
  refine lv_aload_n hx hb dX3_init_4 rfl (lv_at hl 0 rfl) ?_
  refine lv_iload_n hx hb dX3_init_5 rfl (lv_at hl 1 rfl) ?_
  refine va_putF (D := (dC, dI)) (ci := 6) (v := .int x) (ty := .int) (C := RX4) (T := TX4) (N := 4) hx hb hts kc_h3_X4_3 tyX4 tyX4_ok nmX4 hown hK hP hD hS 0 rfl rfl 0 (by decide) (hts (.fieldLink RX3 9 "MistHeaps$Heap" "kind" "I") kc_h3_X4_4) (fun _ h9 => h9) rfl hin rfl (by decide +kernel) rfl rfl (Nat.le_of_ble_eq_true rfl) dX3_init_6 (fun H locs hP hD hS => ?_)
  have hP : va_P (dC, dI) vwCl [(zo6iiii a0 x 0 0 0)] H := hP
  have hD : va_D A [(zo6iiii a0 x 0 0 0)] := hD
  refine lv_aload_n hx hb dX3_init_9 rfl (lv_at hl 0 rfl) ?_
  refine lv_iload_n hx hb dX3_init_10 rfl (lv_at hl 2 rfl) ?_
  refine va_put (D := (dC, dI)) (ci := 6) (v := .int y) (ty := .int) (C := RX4) (T := TX4) (N := 4) hx hb hts kc_h3_X4_3 tyX4 tyX4_ok nmX4 hown hK hP hD hS 0 rfl rfl 1 (by decide) (hts (.fieldLink RX3 15 "MistHeaps$Heap" "number" "I") kc_h3_X4_5) (fun _ h9 => h9) rfl (by decide +kernel) rfl rfl (Nat.le_of_ble_eq_true rfl) dX3_init_11 (fun H locs hP hD hS => ?_)
  have hP : va_P (dC, dI) vwCl [(zo6iiii a0 x y 0 0)] H := hP
  have hD : va_D A [(zo6iiii a0 x y 0 0)] := hD
  refine lv_aload_n hx hb dX3_init_14 rfl (lv_at hl 0 rfl) ?_
  refine lv_iload_n hx hb dX3_init_15 rfl (lv_at hl 3 rfl) ?_
  refine va_putF (D := (dC, dI)) (ci := 6) (v := .int z) (ty := .int) (C := RX4) (T := TX4) (N := 4) hx hb hts kc_h3_X4_3 tyX4 tyX4_ok nmX4 hown hK hP hD hS 0 rfl rfl 2 (by decide) (hts (.fieldLink RX3 18 "MistHeaps$Heap" "v" "I") kc_h3_X4_6) (fun _ h9 => h9) rfl hin rfl (by decide +kernel) rfl rfl (Nat.le_of_ble_eq_true rfl) dX3_init_16 (fun H locs hP hD hS => ?_)
  have hP : va_P (dC, dI) vwCl [(zo6iiii a0 x y z 0)] H := hP
  have hD : va_D A [(zo6iiii a0 x y z 0)] := hD
  refine lv_aload_n hx hb dX3_init_19 rfl (lv_at hl 0 rfl) ?_
  refine lv_iload hx hb dX3_init_20 (lv_at hl 4 rfl) ?_
  refine va_put (D := (dC, dI)) (ci := 6) (v := .int u0) (ty := .int) (C := RX4) (T := TX4) (N := 4) hx hb hts kc_h3_X4_3 tyX4 tyX4_ok nmX4 hown hK hP hD hS 0 rfl rfl 3 (by decide) (hts (.fieldLink RX3 21 "MistHeaps$Heap" "cell" "I") kc_h3_X4_7) (fun _ h9 => h9) rfl (by decide +kernel) rfl rfl (Nat.le_of_ble_eq_true rfl) dX3_init_22 (fun H locs hP hD hS => ?_)
  have hP : va_P (dC, dI) vwCl [(zo6iiii a0 x y z u0)] H := hP
  have hD : va_D A [(zo6iiii a0 x y z u0)] := hD
  rw [hQ]
  have hP9 := hP.sub (ws' := [(zo6iiii a0 x y z u0)]) [0] rfl
  have hD9 := hD.sub (ws' := [(zo6iiii a0 x y z u0)]) [0] (by decide) rfl
  have hK9 := hK.sub (tys' := []) [] rfl
  exact W.vret hx hb hr (fun tQ htQ hWQ => ⟨⟨(), rfl, trivial, by rw [htQ]; exact hP9, va_K.moved hWQ.alike hK9, hD9⟩, hS.F htQ⟩) hS.2.2 dX3_init_25

theorem kc_h3_X6_0 : (.methodLink RX3 3 objectInit : Cond) ∈ wsX3_init := kc_of 227 rfl rfl rfl
theorem kc_h3_X6_1 : (.instanceMethod objectInit : Cond) ∈ wsX3_init := kc_of 99 rfl rfl rfl
theorem kc_h3_X6_2 : (.code objectInit ⟨#[0xb1]⟩ 1 none : Cond) ∈ wsX3_init := kc_of 100 rfl rfl rfl
theorem kc_h3_X6_3 : ∀ w ∈ wsX60, w ∈ wsX3_init := fun w h => List.mem_cons_of_mem _ (gin_wsX60 w h)
theorem kc_h3_X6_4 : (.fieldLink RX3 9 "MistHeaps$Heap" "kind" "I" : Cond) ∈ wsX3_init := kc_of 228 rfl rfl rfl
theorem kc_h3_X6_5 : (.fieldLink RX3 15 "MistHeaps$Heap" "number" "I" : Cond) ∈ wsX3_init := kc_of 231 rfl rfl rfl
theorem kc_h3_X6_6 : (.fieldLink RX3 18 "MistHeaps$Heap" "v" "I" : Cond) ∈ wsX3_init := kc_of 236 rfl rfl rfl
theorem kc_h3_X6_7 : (.fieldLink RX3 21 "MistHeaps$Heap" "cell" "I" : Cond) ∈ wsX3_init := kc_of 246 rfl rfl rfl
set_option maxHeartbeats 4000000 in
set_option maxRecDepth 100000 in
theorem c_h3_X6 (l : Launch) (dC : Nat → ClassId) (dI : Nat → Nat → Nat) (a0 : Nat) (x y z u0 : Int32) (sz : Nat) : Met l yX3_init wsX3_init ({ frames := 1, cells := 0, slots := 0, locals := 12 } : Room) (va_Pc [.ref a0, .int x, .int y, .int z, .int u0] (fun U => U.heap.size = sz ∧ va_P (dC, dI) vwCl [(zo8iiii a0 0 0 0 0)] U.heap ∧ va_K (dC, dI) vwCl [] U ∧ va_D (fun _ => True) [(zo8iiii a0 0 0 0 0)])) (va_Qv (fun (u : Unit) => match u with | () => True) (fun (u : Unit) (t : State) => match u with | () => va_P (dC, dI) vwCl [(zo8iiii a0 x y z u0)] t.heap ∧ va_K (dC, dI) vwCl [] t ∧ va_D (va_A [(zo8iiii a0 0 0 0 0)] sz) [(zo8iiii a0 x y z u0)]) (va_A [(zo8iiii a0 0 0 0 0)] sz)) 0 0 (va_A [(zo8iiii a0 0 0 0 0)] sz) := by
  refine met_ofQ (cc := cX3_init) (maxL := 5) (ret := none) (by decide) rfl ?_
  intro p e s m args below meth c s₁ Q B hml hv hQ
  obtain ⟨rfl, hsz, hP, hK, hD0⟩ := hv
  have hx := B.exec
  have hb := B.bytes
  have hr := B.returns
  have hts := atoms_spec (ws := wsX3_init) B.pre
  have hown : s.vm.findClass RX3 = some m.cls := findClass_of_methodNamed B.named
  have hlocks := B.notSynchronized
  have hin : meth.name = "<init>" := (name_of_methodNamed B.named B.method).1
  subst hsz
  have hD := hD0.self (sz := s.heap.size)
  generalize hAe : va_A [(zo8iiii a0 0 0 0 0)] s.heap.size = A at hD hQ ⊢
  have hA : ∀ q : Nat, s.heap.size ≤ q → A q := fun q h => by rw [← hAe]; exact Or.inr h
  have hS : va_S A s.heap s.heap [] := va_S.rf
  have hl := lv_entry [.ref a0, .int x, .int y, .int z, .int u0] (n := 5) (Nat.le_of_ble_eq_true rfl)
  rw [lg_entry_eq]
  generalize (lg_sl [.ref a0, .int x, .int y, .int z, .int u0] ++ List.replicate (5 - (lg_sl [.ref a0, .int x, .int y, .int z, .int u0]).length) Slot.unset).toArray = ls at hl ⊢
  generalize hag : ([.ref a0, .int x, .int y, .int z, .int u0] : List Value).toArray = args at hts hQ ⊢
  have hl : lv_has ls 5 [(0, .ref a0), (1, .int x), (2, .int y), (3, .int z), (4, .int u0)] := hl
  obtain ⟨H, hH⟩ : ∃ H : Heap, H = s.heap := ⟨_, rfl⟩
  rw [← hH] at hP
  rw [← hH]
  have hS : va_S A s.heap H [] := by rw [hH]; exact hS
  obtain ⟨locs, hlo⟩ : ∃ L : List Loc, L = [] := ⟨_, rfl⟩
  rw [← hlo] at hS
  rw [← hlo]
  clear hH hlo
  refine lv_aload_n hx hb dX3_init_0 rfl (lv_at hl 0 rfl) ?_
  refine W.objInit hx hb hown (hts (.methodLink RX3 3 objectInit) kc_h3_X6_0) (hts (.instanceMethod objectInit) kc_h3_X6_1) (hts (.code objectInit ⟨#[0xb1]⟩ 1 none) kc_h3_X6_2) rfl (by rw [hml]; exact hl.1) rfl dX3_init_1 (Nat.le_of_ble_eq_true rfl) (Nat.le_of_ble_eq_true rfl) ?_
  refine W.eq (g2 := F0 m 4 ls []) rfl ?_
  refine lv_aload_n hx hb dX3_init_4 rfl (lv_at hl 0 rfl) ?_
  refine lv_iload_n hx hb dX3_init_5 rfl (lv_at hl 1 rfl) ?_
  refine va_putF (D := (dC, dI)) (ci := 8) (v := .int x) (ty := .int) (C := RX6) (T := TX6) (N := 4) hx hb hts kc_h3_X6_3 tyX6 tyX6_ok nmX6 hown hK hP hD hS 0 rfl rfl 0 (by decide) (hts (.fieldLink RX3 9 "MistHeaps$Heap" "kind" "I") kc_h3_X6_4) (fun _ h9 => h9) rfl hin rfl (by decide +kernel) rfl rfl (Nat.le_of_ble_eq_true rfl) dX3_init_6 (fun H locs hP hD hS => ?_)
  have hP : va_P (dC, dI) vwCl [(zo8iiii a0 x 0 0 0)] H := hP
  have hD : va_D A [(zo8iiii a0 x 0 0 0)] := hD
  refine lv_aload_n hx hb dX3_init_9 rfl (lv_at hl 0 rfl) ?_
  refine lv_iload_n hx hb dX3_init_10 rfl (lv_at hl 2 rfl) ?_
  refine va_put (D := (dC, dI)) (ci := 8) (v := .int y) (ty := .int) (C := RX6) (T := TX6) (N := 4) hx hb hts kc_h3_X6_3 tyX6 tyX6_ok nmX6 hown hK hP hD hS 0 rfl rfl 1 (by decide) (hts (.fieldLink RX3 15 "MistHeaps$Heap" "number" "I") kc_h3_X6_5) (fun _ h9 => h9) rfl (by decide +kernel) rfl rfl (Nat.le_of_ble_eq_true rfl) dX3_init_11 (fun H locs hP hD hS => ?_)
  have hP : va_P (dC, dI) vwCl [(zo8iiii a0 x y 0 0)] H := hP
  have hD : va_D A [(zo8iiii a0 x y 0 0)] := hD
  refine lv_aload_n hx hb dX3_init_14 rfl (lv_at hl 0 rfl) ?_
  refine lv_iload_n hx hb dX3_init_15 rfl (lv_at hl 3 rfl) ?_
  refine va_putF (D := (dC, dI)) (ci := 8) (v := .int z) (ty := .int) (C := RX6) (T := TX6) (N := 4) hx hb hts kc_h3_X6_3 tyX6 tyX6_ok nmX6 hown hK hP hD hS 0 rfl rfl 2 (by decide) (hts (.fieldLink RX3 18 "MistHeaps$Heap" "v" "I") kc_h3_X6_6) (fun _ h9 => h9) rfl hin rfl (by decide +kernel) rfl rfl (Nat.le_of_ble_eq_true rfl) dX3_init_16 (fun H locs hP hD hS => ?_)
  have hP : va_P (dC, dI) vwCl [(zo8iiii a0 x y z 0)] H := hP
  have hD : va_D A [(zo8iiii a0 x y z 0)] := hD
  refine lv_aload_n hx hb dX3_init_19 rfl (lv_at hl 0 rfl) ?_
  refine lv_iload hx hb dX3_init_20 (lv_at hl 4 rfl) ?_
  refine va_put (D := (dC, dI)) (ci := 8) (v := .int u0) (ty := .int) (C := RX6) (T := TX6) (N := 4) hx hb hts kc_h3_X6_3 tyX6 tyX6_ok nmX6 hown hK hP hD hS 0 rfl rfl 3 (by decide) (hts (.fieldLink RX3 21 "MistHeaps$Heap" "cell" "I") kc_h3_X6_7) (fun _ h9 => h9) rfl (by decide +kernel) rfl rfl (Nat.le_of_ble_eq_true rfl) dX3_init_22 (fun H locs hP hD hS => ?_)
  have hP : va_P (dC, dI) vwCl [(zo8iiii a0 x y z u0)] H := hP
  have hD : va_D A [(zo8iiii a0 x y z u0)] := hD
  rw [hQ]
  have hP9 := hP.sub (ws' := [(zo8iiii a0 x y z u0)]) [0] rfl
  have hD9 := hD.sub (ws' := [(zo8iiii a0 x y z u0)]) [0] (by decide) rfl
  have hK9 := hK.sub (tys' := []) [] rfl
  exact W.vret hx hb hr (fun tQ htQ hWQ => ⟨⟨(), rfl, trivial, by rw [htQ]; exact hP9, va_K.moved hWQ.alike hK9, hD9⟩, hS.F htQ⟩) hS.2.2 dX3_init_25

theorem kc_h3_X1_0 : (.methodLink RX3 3 objectInit : Cond) ∈ wsX3_init := kc_of 227 rfl rfl rfl
theorem kc_h3_X1_1 : (.instanceMethod objectInit : Cond) ∈ wsX3_init := kc_of 99 rfl rfl rfl
theorem kc_h3_X1_2 : (.code objectInit ⟨#[0xb1]⟩ 1 none : Cond) ∈ wsX3_init := kc_of 100 rfl rfl rfl
theorem kc_h3_X1_3 : ∀ w ∈ wsX10, w ∈ wsX3_init := fun w h => List.mem_cons_of_mem _ (gin_wsX10 w h)
theorem kc_h3_X1_4 : (.fieldLink RX3 9 "MistHeaps$Heap" "kind" "I" : Cond) ∈ wsX3_init := kc_of 228 rfl rfl rfl
theorem kc_h3_X1_5 : (.fieldLink RX3 15 "MistHeaps$Heap" "number" "I" : Cond) ∈ wsX3_init := kc_of 231 rfl rfl rfl
theorem kc_h3_X1_6 : (.fieldLink RX3 18 "MistHeaps$Heap" "v" "I" : Cond) ∈ wsX3_init := kc_of 236 rfl rfl rfl
theorem kc_h3_X1_7 : (.fieldLink RX3 21 "MistHeaps$Heap" "cell" "I" : Cond) ∈ wsX3_init := kc_of 246 rfl rfl rfl
set_option maxHeartbeats 4000000 in
set_option maxRecDepth 100000 in
theorem c_h3_X1 (l : Launch) (dC : Nat → ClassId) (dI : Nat → Nat → Nat) (a0 : Nat) (x y z u0 : Int32) (sz : Nat) : Met l yX3_init wsX3_init ({ frames := 1, cells := 0, slots := 0, locals := 12 } : Room) (va_Pc [.ref a0, .int x, .int y, .int z, .int u0] (fun U => U.heap.size = sz ∧ va_P (dC, dI) vwCl [(zo3iiii a0 0 0 0 0)] U.heap ∧ va_K (dC, dI) vwCl [] U ∧ va_D (fun _ => True) [(zo3iiii a0 0 0 0 0)])) (va_Qv (fun (u : Unit) => match u with | () => True) (fun (u : Unit) (t : State) => match u with | () => va_P (dC, dI) vwCl [(zo3iiii a0 x y z u0)] t.heap ∧ va_K (dC, dI) vwCl [] t ∧ va_D (va_A [(zo3iiii a0 0 0 0 0)] sz) [(zo3iiii a0 x y z u0)]) (va_A [(zo3iiii a0 0 0 0 0)] sz)) 0 0 (va_A [(zo3iiii a0 0 0 0 0)] sz) := by
  refine met_ofQ (cc := cX3_init) (maxL := 5) (ret := none) (by decide) rfl ?_
  intro p e s m args below meth c s₁ Q B hml hv hQ
  obtain ⟨rfl, hsz, hP, hK, hD0⟩ := hv
  have hx := B.exec
  have hb := B.bytes
  have hr := B.returns
  have hts := atoms_spec (ws := wsX3_init) B.pre
  have hown : s.vm.findClass RX3 = some m.cls := findClass_of_methodNamed B.named
  have hlocks := B.notSynchronized
  have hin : meth.name = "<init>" := (name_of_methodNamed B.named B.method).1
  subst hsz
  have hD := hD0.self (sz := s.heap.size)
  generalize hAe : va_A [(zo3iiii a0 0 0 0 0)] s.heap.size = A at hD hQ ⊢
  have hA : ∀ q : Nat, s.heap.size ≤ q → A q := fun q h => by rw [← hAe]; exact Or.inr h
  have hS : va_S A s.heap s.heap [] := va_S.rf
  have hl := lv_entry [.ref a0, .int x, .int y, .int z, .int u0] (n := 5) (Nat.le_of_ble_eq_true rfl)
  rw [lg_entry_eq]
  generalize (lg_sl [.ref a0, .int x, .int y, .int z, .int u0] ++ List.replicate (5 - (lg_sl [.ref a0, .int x, .int y, .int z, .int u0]).length) Slot.unset).toArray = ls at hl ⊢
  generalize hag : ([.ref a0, .int x, .int y, .int z, .int u0] : List Value).toArray = args at hts hQ ⊢
  have hl : lv_has ls 5 [(0, .ref a0), (1, .int x), (2, .int y), (3, .int z), (4, .int u0)] := hl
  obtain ⟨H, hH⟩ : ∃ H : Heap, H = s.heap := ⟨_, rfl⟩
  rw [← hH] at hP
  rw [← hH]
  have hS : va_S A s.heap H [] := by rw [hH]; exact hS
  obtain ⟨locs, hlo⟩ : ∃ L : List Loc, L = [] := ⟨_, rfl⟩
  rw [← hlo] at hS
  rw [← hlo]
  clear hH hlo
  refine lv_aload_n hx hb dX3_init_0 rfl (lv_at hl 0 rfl) ?_
  refine W.objInit hx hb hown (hts (.methodLink RX3 3 objectInit) kc_h3_X1_0) (hts (.instanceMethod objectInit) kc_h3_X1_1) (hts (.code objectInit ⟨#[0xb1]⟩ 1 none) kc_h3_X1_2) rfl (by rw [hml]; exact hl.1) rfl dX3_init_1 (Nat.le_of_ble_eq_true rfl) (Nat.le_of_ble_eq_true rfl) ?_
  refine W.eq (g2 := F0 m 4 ls []) rfl ?_
  refine lv_aload_n hx hb dX3_init_4 rfl (lv_at hl 0 rfl) ?_
  refine lv_iload_n hx hb dX3_init_5 rfl (lv_at hl 1 rfl) ?_
  refine va_putF (D := (dC, dI)) (ci := 3) (v := .int x) (ty := .int) (C := RX1) (T := TX1) (N := 4) hx hb hts kc_h3_X1_3 tyX1 tyX1_ok nmX1 hown hK hP hD hS 0 rfl rfl 0 (by decide) (hts (.fieldLink RX3 9 "MistHeaps$Heap" "kind" "I") kc_h3_X1_4) (fun _ h9 => h9) rfl hin rfl (by decide +kernel) rfl rfl (Nat.le_of_ble_eq_true rfl) dX3_init_6 (fun H locs hP hD hS => ?_)
  have hP : va_P (dC, dI) vwCl [(zo3iiii a0 x 0 0 0)] H := hP
  have hD : va_D A [(zo3iiii a0 x 0 0 0)] := hD
  refine lv_aload_n hx hb dX3_init_9 rfl (lv_at hl 0 rfl) ?_
  refine lv_iload_n hx hb dX3_init_10 rfl (lv_at hl 2 rfl) ?_
  refine va_put (D := (dC, dI)) (ci := 3) (v := .int y) (ty := .int) (C := RX1) (T := TX1) (N := 4) hx hb hts kc_h3_X1_3 tyX1 tyX1_ok nmX1 hown hK hP hD hS 0 rfl rfl 1 (by decide) (hts (.fieldLink RX3 15 "MistHeaps$Heap" "number" "I") kc_h3_X1_5) (fun _ h9 => h9) rfl (by decide +kernel) rfl rfl (Nat.le_of_ble_eq_true rfl) dX3_init_11 (fun H locs hP hD hS => ?_)
  have hP : va_P (dC, dI) vwCl [(zo3iiii a0 x y 0 0)] H := hP
  have hD : va_D A [(zo3iiii a0 x y 0 0)] := hD
  refine lv_aload_n hx hb dX3_init_14 rfl (lv_at hl 0 rfl) ?_
  refine lv_iload_n hx hb dX3_init_15 rfl (lv_at hl 3 rfl) ?_
  refine va_putF (D := (dC, dI)) (ci := 3) (v := .int z) (ty := .int) (C := RX1) (T := TX1) (N := 4) hx hb hts kc_h3_X1_3 tyX1 tyX1_ok nmX1 hown hK hP hD hS 0 rfl rfl 2 (by decide) (hts (.fieldLink RX3 18 "MistHeaps$Heap" "v" "I") kc_h3_X1_6) (fun _ h9 => h9) rfl hin rfl (by decide +kernel) rfl rfl (Nat.le_of_ble_eq_true rfl) dX3_init_16 (fun H locs hP hD hS => ?_)
  have hP : va_P (dC, dI) vwCl [(zo3iiii a0 x y z 0)] H := hP
  have hD : va_D A [(zo3iiii a0 x y z 0)] := hD
  refine lv_aload_n hx hb dX3_init_19 rfl (lv_at hl 0 rfl) ?_
  refine lv_iload hx hb dX3_init_20 (lv_at hl 4 rfl) ?_
  refine va_put (D := (dC, dI)) (ci := 3) (v := .int u0) (ty := .int) (C := RX1) (T := TX1) (N := 4) hx hb hts kc_h3_X1_3 tyX1 tyX1_ok nmX1 hown hK hP hD hS 0 rfl rfl 3 (by decide) (hts (.fieldLink RX3 21 "MistHeaps$Heap" "cell" "I") kc_h3_X1_7) (fun _ h9 => h9) rfl (by decide +kernel) rfl rfl (Nat.le_of_ble_eq_true rfl) dX3_init_22 (fun H locs hP hD hS => ?_)
  have hP : va_P (dC, dI) vwCl [(zo3iiii a0 x y z u0)] H := hP
  have hD : va_D A [(zo3iiii a0 x y z u0)] := hD
  rw [hQ]
  have hP9 := hP.sub (ws' := [(zo3iiii a0 x y z u0)]) [0] rfl
  have hD9 := hD.sub (ws' := [(zo3iiii a0 x y z u0)]) [0] (by decide) rfl
  have hK9 := hK.sub (tys' := []) [] rfl
  exact W.vret hx hb hr (fun tQ htQ hWQ => ⟨⟨(), rfl, trivial, by rw [htQ]; exact hP9, va_K.moved hWQ.alike hK9, hD9⟩, hS.F htQ⟩) hS.2.2 dX3_init_25

theorem kc_h3_X10_0 : (.methodLink RX3 3 objectInit : Cond) ∈ wsX3_init := kc_of 227 rfl rfl rfl
theorem kc_h3_X10_1 : (.instanceMethod objectInit : Cond) ∈ wsX3_init := kc_of 99 rfl rfl rfl
theorem kc_h3_X10_2 : (.code objectInit ⟨#[0xb1]⟩ 1 none : Cond) ∈ wsX3_init := kc_of 100 rfl rfl rfl
theorem kc_h3_X10_3 : ∀ w ∈ wsX100, w ∈ wsX3_init := fun w h => List.mem_cons_of_mem _ (gin_wsX100 w h)
theorem kc_h3_X10_4 : (.fieldLink RX3 9 "MistHeaps$Heap" "kind" "I" : Cond) ∈ wsX3_init := kc_of 228 rfl rfl rfl
theorem kc_h3_X10_5 : (.fieldLink RX3 15 "MistHeaps$Heap" "number" "I" : Cond) ∈ wsX3_init := kc_of 231 rfl rfl rfl
theorem kc_h3_X10_6 : (.fieldLink RX3 18 "MistHeaps$Heap" "v" "I" : Cond) ∈ wsX3_init := kc_of 236 rfl rfl rfl
theorem kc_h3_X10_7 : (.fieldLink RX3 21 "MistHeaps$Heap" "cell" "I" : Cond) ∈ wsX3_init := kc_of 246 rfl rfl rfl
set_option maxHeartbeats 4000000 in
set_option maxRecDepth 100000 in
theorem c_h3_X10 (l : Launch) (dC : Nat → ClassId) (dI : Nat → Nat → Nat) (a0 : Nat) (x y z u0 : Int32) (sz : Nat) : Met l yX3_init wsX3_init ({ frames := 1, cells := 0, slots := 0, locals := 12 } : Room) (va_Pc [.ref a0, .int x, .int y, .int z, .int u0] (fun U => U.heap.size = sz ∧ va_P (dC, dI) vwCl [(zo12iiii a0 0 0 0 0)] U.heap ∧ va_K (dC, dI) vwCl [] U ∧ va_D (fun _ => True) [(zo12iiii a0 0 0 0 0)])) (va_Qv (fun (u : Unit) => match u with | () => True) (fun (u : Unit) (t : State) => match u with | () => va_P (dC, dI) vwCl [(zo12iiii a0 x y z u0)] t.heap ∧ va_K (dC, dI) vwCl [] t ∧ va_D (va_A [(zo12iiii a0 0 0 0 0)] sz) [(zo12iiii a0 x y z u0)]) (va_A [(zo12iiii a0 0 0 0 0)] sz)) 0 0 (va_A [(zo12iiii a0 0 0 0 0)] sz) := by
  refine met_ofQ (cc := cX3_init) (maxL := 5) (ret := none) (by decide) rfl ?_
  intro p e s m args below meth c s₁ Q B hml hv hQ
  obtain ⟨rfl, hsz, hP, hK, hD0⟩ := hv
  have hx := B.exec
  have hb := B.bytes
  have hr := B.returns
  have hts := atoms_spec (ws := wsX3_init) B.pre
  have hown : s.vm.findClass RX3 = some m.cls := findClass_of_methodNamed B.named
  have hlocks := B.notSynchronized
  have hin : meth.name = "<init>" := (name_of_methodNamed B.named B.method).1
  subst hsz
  have hD := hD0.self (sz := s.heap.size)
  generalize hAe : va_A [(zo12iiii a0 0 0 0 0)] s.heap.size = A at hD hQ ⊢
  have hA : ∀ q : Nat, s.heap.size ≤ q → A q := fun q h => by rw [← hAe]; exact Or.inr h
  have hS : va_S A s.heap s.heap [] := va_S.rf
  have hl := lv_entry [.ref a0, .int x, .int y, .int z, .int u0] (n := 5) (Nat.le_of_ble_eq_true rfl)
  rw [lg_entry_eq]
  generalize (lg_sl [.ref a0, .int x, .int y, .int z, .int u0] ++ List.replicate (5 - (lg_sl [.ref a0, .int x, .int y, .int z, .int u0]).length) Slot.unset).toArray = ls at hl ⊢
  generalize hag : ([.ref a0, .int x, .int y, .int z, .int u0] : List Value).toArray = args at hts hQ ⊢
  have hl : lv_has ls 5 [(0, .ref a0), (1, .int x), (2, .int y), (3, .int z), (4, .int u0)] := hl
  obtain ⟨H, hH⟩ : ∃ H : Heap, H = s.heap := ⟨_, rfl⟩
  rw [← hH] at hP
  rw [← hH]
  have hS : va_S A s.heap H [] := by rw [hH]; exact hS
  obtain ⟨locs, hlo⟩ : ∃ L : List Loc, L = [] := ⟨_, rfl⟩
  rw [← hlo] at hS
  rw [← hlo]
  clear hH hlo
  refine lv_aload_n hx hb dX3_init_0 rfl (lv_at hl 0 rfl) ?_
  refine W.objInit hx hb hown (hts (.methodLink RX3 3 objectInit) kc_h3_X10_0) (hts (.instanceMethod objectInit) kc_h3_X10_1) (hts (.code objectInit ⟨#[0xb1]⟩ 1 none) kc_h3_X10_2) rfl (by rw [hml]; exact hl.1) rfl dX3_init_1 (Nat.le_of_ble_eq_true rfl) (Nat.le_of_ble_eq_true rfl) ?_
  refine W.eq (g2 := F0 m 4 ls []) rfl ?_
  refine lv_aload_n hx hb dX3_init_4 rfl (lv_at hl 0 rfl) ?_
  refine lv_iload_n hx hb dX3_init_5 rfl (lv_at hl 1 rfl) ?_
  refine va_putF (D := (dC, dI)) (ci := 12) (v := .int x) (ty := .int) (C := RX10) (T := TX10) (N := 4) hx hb hts kc_h3_X10_3 tyX10 tyX10_ok nmX10 hown hK hP hD hS 0 rfl rfl 0 (by decide) (hts (.fieldLink RX3 9 "MistHeaps$Heap" "kind" "I") kc_h3_X10_4) (fun _ h9 => h9) rfl hin rfl (by decide +kernel) rfl rfl (Nat.le_of_ble_eq_true rfl) dX3_init_6 (fun H locs hP hD hS => ?_)
  have hP : va_P (dC, dI) vwCl [(zo12iiii a0 x 0 0 0)] H := hP
  have hD : va_D A [(zo12iiii a0 x 0 0 0)] := hD
  refine lv_aload_n hx hb dX3_init_9 rfl (lv_at hl 0 rfl) ?_
  refine lv_iload_n hx hb dX3_init_10 rfl (lv_at hl 2 rfl) ?_
  refine va_put (D := (dC, dI)) (ci := 12) (v := .int y) (ty := .int) (C := RX10) (T := TX10) (N := 4) hx hb hts kc_h3_X10_3 tyX10 tyX10_ok nmX10 hown hK hP hD hS 0 rfl rfl 1 (by decide) (hts (.fieldLink RX3 15 "MistHeaps$Heap" "number" "I") kc_h3_X10_5) (fun _ h9 => h9) rfl (by decide +kernel) rfl rfl (Nat.le_of_ble_eq_true rfl) dX3_init_11 (fun H locs hP hD hS => ?_)
  have hP : va_P (dC, dI) vwCl [(zo12iiii a0 x y 0 0)] H := hP
  have hD : va_D A [(zo12iiii a0 x y 0 0)] := hD
  refine lv_aload_n hx hb dX3_init_14 rfl (lv_at hl 0 rfl) ?_
  refine lv_iload_n hx hb dX3_init_15 rfl (lv_at hl 3 rfl) ?_
  refine va_putF (D := (dC, dI)) (ci := 12) (v := .int z) (ty := .int) (C := RX10) (T := TX10) (N := 4) hx hb hts kc_h3_X10_3 tyX10 tyX10_ok nmX10 hown hK hP hD hS 0 rfl rfl 2 (by decide) (hts (.fieldLink RX3 18 "MistHeaps$Heap" "v" "I") kc_h3_X10_6) (fun _ h9 => h9) rfl hin rfl (by decide +kernel) rfl rfl (Nat.le_of_ble_eq_true rfl) dX3_init_16 (fun H locs hP hD hS => ?_)
  have hP : va_P (dC, dI) vwCl [(zo12iiii a0 x y z 0)] H := hP
  have hD : va_D A [(zo12iiii a0 x y z 0)] := hD
  refine lv_aload_n hx hb dX3_init_19 rfl (lv_at hl 0 rfl) ?_
  refine lv_iload hx hb dX3_init_20 (lv_at hl 4 rfl) ?_
  refine va_put (D := (dC, dI)) (ci := 12) (v := .int u0) (ty := .int) (C := RX10) (T := TX10) (N := 4) hx hb hts kc_h3_X10_3 tyX10 tyX10_ok nmX10 hown hK hP hD hS 0 rfl rfl 3 (by decide) (hts (.fieldLink RX3 21 "MistHeaps$Heap" "cell" "I") kc_h3_X10_7) (fun _ h9 => h9) rfl (by decide +kernel) rfl rfl (Nat.le_of_ble_eq_true rfl) dX3_init_22 (fun H locs hP hD hS => ?_)
  have hP : va_P (dC, dI) vwCl [(zo12iiii a0 x y z u0)] H := hP
  have hD : va_D A [(zo12iiii a0 x y z u0)] := hD
  rw [hQ]
  have hP9 := hP.sub (ws' := [(zo12iiii a0 x y z u0)]) [0] rfl
  have hD9 := hD.sub (ws' := [(zo12iiii a0 x y z u0)]) [0] (by decide) rfl
  have hK9 := hK.sub (tys' := []) [] rfl
  exact W.vret hx hb hr (fun tQ htQ hWQ => ⟨⟨(), rfl, trivial, by rw [htQ]; exact hP9, va_K.moved hWQ.alike hK9, hD9⟩, hS.F htQ⟩) hS.2.2 dX3_init_25

theorem kc_h3_X9_0 : (.methodLink RX3 3 objectInit : Cond) ∈ wsX3_init := kc_of 227 rfl rfl rfl
theorem kc_h3_X9_1 : (.instanceMethod objectInit : Cond) ∈ wsX3_init := kc_of 99 rfl rfl rfl
theorem kc_h3_X9_2 : (.code objectInit ⟨#[0xb1]⟩ 1 none : Cond) ∈ wsX3_init := kc_of 100 rfl rfl rfl
theorem kc_h3_X9_3 : ∀ w ∈ wsX90, w ∈ wsX3_init := fun w h => List.mem_cons_of_mem _ (gin_wsX90 w h)
theorem kc_h3_X9_4 : (.fieldLink RX3 9 "MistHeaps$Heap" "kind" "I" : Cond) ∈ wsX3_init := kc_of 228 rfl rfl rfl
theorem kc_h3_X9_5 : (.fieldLink RX3 15 "MistHeaps$Heap" "number" "I" : Cond) ∈ wsX3_init := kc_of 231 rfl rfl rfl
theorem kc_h3_X9_6 : (.fieldLink RX3 18 "MistHeaps$Heap" "v" "I" : Cond) ∈ wsX3_init := kc_of 236 rfl rfl rfl
theorem kc_h3_X9_7 : (.fieldLink RX3 21 "MistHeaps$Heap" "cell" "I" : Cond) ∈ wsX3_init := kc_of 246 rfl rfl rfl
set_option maxHeartbeats 4000000 in
set_option maxRecDepth 100000 in
theorem c_h3_X9 (l : Launch) (dC : Nat → ClassId) (dI : Nat → Nat → Nat) (a0 : Nat) (x y z u0 : Int32) (sz : Nat) : Met l yX3_init wsX3_init ({ frames := 1, cells := 0, slots := 0, locals := 12 } : Room) (va_Pc [.ref a0, .int x, .int y, .int z, .int u0] (fun U => U.heap.size = sz ∧ va_P (dC, dI) vwCl [(zo11iiii a0 0 0 0 0)] U.heap ∧ va_K (dC, dI) vwCl [] U ∧ va_D (fun _ => True) [(zo11iiii a0 0 0 0 0)])) (va_Qv (fun (u : Unit) => match u with | () => True) (fun (u : Unit) (t : State) => match u with | () => va_P (dC, dI) vwCl [(zo11iiii a0 x y z u0)] t.heap ∧ va_K (dC, dI) vwCl [] t ∧ va_D (va_A [(zo11iiii a0 0 0 0 0)] sz) [(zo11iiii a0 x y z u0)]) (va_A [(zo11iiii a0 0 0 0 0)] sz)) 0 0 (va_A [(zo11iiii a0 0 0 0 0)] sz) := by
  refine met_ofQ (cc := cX3_init) (maxL := 5) (ret := none) (by decide) rfl ?_
  intro p e s m args below meth c s₁ Q B hml hv hQ
  obtain ⟨rfl, hsz, hP, hK, hD0⟩ := hv
  have hx := B.exec
  have hb := B.bytes
  have hr := B.returns
  have hts := atoms_spec (ws := wsX3_init) B.pre
  have hown : s.vm.findClass RX3 = some m.cls := findClass_of_methodNamed B.named
  have hlocks := B.notSynchronized
  have hin : meth.name = "<init>" := (name_of_methodNamed B.named B.method).1
  subst hsz
  have hD := hD0.self (sz := s.heap.size)
  generalize hAe : va_A [(zo11iiii a0 0 0 0 0)] s.heap.size = A at hD hQ ⊢
  have hA : ∀ q : Nat, s.heap.size ≤ q → A q := fun q h => by rw [← hAe]; exact Or.inr h
  have hS : va_S A s.heap s.heap [] := va_S.rf
  have hl := lv_entry [.ref a0, .int x, .int y, .int z, .int u0] (n := 5) (Nat.le_of_ble_eq_true rfl)
  rw [lg_entry_eq]
  generalize (lg_sl [.ref a0, .int x, .int y, .int z, .int u0] ++ List.replicate (5 - (lg_sl [.ref a0, .int x, .int y, .int z, .int u0]).length) Slot.unset).toArray = ls at hl ⊢
  generalize hag : ([.ref a0, .int x, .int y, .int z, .int u0] : List Value).toArray = args at hts hQ ⊢
  have hl : lv_has ls 5 [(0, .ref a0), (1, .int x), (2, .int y), (3, .int z), (4, .int u0)] := hl
  obtain ⟨H, hH⟩ : ∃ H : Heap, H = s.heap := ⟨_, rfl⟩
  rw [← hH] at hP
  rw [← hH]
  have hS : va_S A s.heap H [] := by rw [hH]; exact hS
  obtain ⟨locs, hlo⟩ : ∃ L : List Loc, L = [] := ⟨_, rfl⟩
  rw [← hlo] at hS
  rw [← hlo]
  clear hH hlo
  refine lv_aload_n hx hb dX3_init_0 rfl (lv_at hl 0 rfl) ?_
  refine W.objInit hx hb hown (hts (.methodLink RX3 3 objectInit) kc_h3_X9_0) (hts (.instanceMethod objectInit) kc_h3_X9_1) (hts (.code objectInit ⟨#[0xb1]⟩ 1 none) kc_h3_X9_2) rfl (by rw [hml]; exact hl.1) rfl dX3_init_1 (Nat.le_of_ble_eq_true rfl) (Nat.le_of_ble_eq_true rfl) ?_
  refine W.eq (g2 := F0 m 4 ls []) rfl ?_
  refine lv_aload_n hx hb dX3_init_4 rfl (lv_at hl 0 rfl) ?_
  refine lv_iload_n hx hb dX3_init_5 rfl (lv_at hl 1 rfl) ?_
  refine va_putF (D := (dC, dI)) (ci := 11) (v := .int x) (ty := .int) (C := RX9) (T := TX9) (N := 4) hx hb hts kc_h3_X9_3 tyX9 tyX9_ok nmX9 hown hK hP hD hS 0 rfl rfl 0 (by decide) (hts (.fieldLink RX3 9 "MistHeaps$Heap" "kind" "I") kc_h3_X9_4) (fun _ h9 => h9) rfl hin rfl (by decide +kernel) rfl rfl (Nat.le_of_ble_eq_true rfl) dX3_init_6 (fun H locs hP hD hS => ?_)
  have hP : va_P (dC, dI) vwCl [(zo11iiii a0 x 0 0 0)] H := hP
  have hD : va_D A [(zo11iiii a0 x 0 0 0)] := hD
  refine lv_aload_n hx hb dX3_init_9 rfl (lv_at hl 0 rfl) ?_
  refine lv_iload_n hx hb dX3_init_10 rfl (lv_at hl 2 rfl) ?_
  refine va_put (D := (dC, dI)) (ci := 11) (v := .int y) (ty := .int) (C := RX9) (T := TX9) (N := 4) hx hb hts kc_h3_X9_3 tyX9 tyX9_ok nmX9 hown hK hP hD hS 0 rfl rfl 1 (by decide) (hts (.fieldLink RX3 15 "MistHeaps$Heap" "number" "I") kc_h3_X9_5) (fun _ h9 => h9) rfl (by decide +kernel) rfl rfl (Nat.le_of_ble_eq_true rfl) dX3_init_11 (fun H locs hP hD hS => ?_)
  have hP : va_P (dC, dI) vwCl [(zo11iiii a0 x y 0 0)] H := hP
  have hD : va_D A [(zo11iiii a0 x y 0 0)] := hD
  refine lv_aload_n hx hb dX3_init_14 rfl (lv_at hl 0 rfl) ?_
  refine lv_iload_n hx hb dX3_init_15 rfl (lv_at hl 3 rfl) ?_
  refine va_putF (D := (dC, dI)) (ci := 11) (v := .int z) (ty := .int) (C := RX9) (T := TX9) (N := 4) hx hb hts kc_h3_X9_3 tyX9 tyX9_ok nmX9 hown hK hP hD hS 0 rfl rfl 2 (by decide) (hts (.fieldLink RX3 18 "MistHeaps$Heap" "v" "I") kc_h3_X9_6) (fun _ h9 => h9) rfl hin rfl (by decide +kernel) rfl rfl (Nat.le_of_ble_eq_true rfl) dX3_init_16 (fun H locs hP hD hS => ?_)
  have hP : va_P (dC, dI) vwCl [(zo11iiii a0 x y z 0)] H := hP
  have hD : va_D A [(zo11iiii a0 x y z 0)] := hD
  refine lv_aload_n hx hb dX3_init_19 rfl (lv_at hl 0 rfl) ?_
  refine lv_iload hx hb dX3_init_20 (lv_at hl 4 rfl) ?_
  refine va_put (D := (dC, dI)) (ci := 11) (v := .int u0) (ty := .int) (C := RX9) (T := TX9) (N := 4) hx hb hts kc_h3_X9_3 tyX9 tyX9_ok nmX9 hown hK hP hD hS 0 rfl rfl 3 (by decide) (hts (.fieldLink RX3 21 "MistHeaps$Heap" "cell" "I") kc_h3_X9_7) (fun _ h9 => h9) rfl (by decide +kernel) rfl rfl (Nat.le_of_ble_eq_true rfl) dX3_init_22 (fun H locs hP hD hS => ?_)
  have hP : va_P (dC, dI) vwCl [(zo11iiii a0 x y z u0)] H := hP
  have hD : va_D A [(zo11iiii a0 x y z u0)] := hD
  rw [hQ]
  have hP9 := hP.sub (ws' := [(zo11iiii a0 x y z u0)]) [0] rfl
  have hD9 := hD.sub (ws' := [(zo11iiii a0 x y z u0)]) [0] (by decide) rfl
  have hK9 := hK.sub (tys' := []) [] rfl
  exact W.vret hx hb hr (fun tQ htQ hWQ => ⟨⟨(), rfl, trivial, by rw [htQ]; exact hP9, va_K.moved hWQ.alike hK9, hD9⟩, hS.F htQ⟩) hS.2.2 dX3_init_25

theorem kc_h3_X7_0 : (.methodLink RX3 3 objectInit : Cond) ∈ wsX3_init := kc_of 227 rfl rfl rfl
theorem kc_h3_X7_1 : (.instanceMethod objectInit : Cond) ∈ wsX3_init := kc_of 99 rfl rfl rfl
theorem kc_h3_X7_2 : (.code objectInit ⟨#[0xb1]⟩ 1 none : Cond) ∈ wsX3_init := kc_of 100 rfl rfl rfl
theorem kc_h3_X7_3 : ∀ w ∈ wsX70, w ∈ wsX3_init := fun w h => List.mem_cons_of_mem _ (gin_wsX70 w h)
theorem kc_h3_X7_4 : (.fieldLink RX3 9 "MistHeaps$Heap" "kind" "I" : Cond) ∈ wsX3_init := kc_of 228 rfl rfl rfl
theorem kc_h3_X7_5 : (.fieldLink RX3 15 "MistHeaps$Heap" "number" "I" : Cond) ∈ wsX3_init := kc_of 231 rfl rfl rfl
theorem kc_h3_X7_6 : (.fieldLink RX3 18 "MistHeaps$Heap" "v" "I" : Cond) ∈ wsX3_init := kc_of 236 rfl rfl rfl
theorem kc_h3_X7_7 : (.fieldLink RX3 21 "MistHeaps$Heap" "cell" "I" : Cond) ∈ wsX3_init := kc_of 246 rfl rfl rfl
set_option maxHeartbeats 4000000 in
set_option maxRecDepth 100000 in
theorem c_h3_X7 (l : Launch) (dC : Nat → ClassId) (dI : Nat → Nat → Nat) (a0 : Nat) (x y z u0 : Int32) (sz : Nat) : Met l yX3_init wsX3_init ({ frames := 1, cells := 0, slots := 0, locals := 12 } : Room) (va_Pc [.ref a0, .int x, .int y, .int z, .int u0] (fun U => U.heap.size = sz ∧ va_P (dC, dI) vwCl [(zo9iiii a0 0 0 0 0)] U.heap ∧ va_K (dC, dI) vwCl [] U ∧ va_D (fun _ => True) [(zo9iiii a0 0 0 0 0)])) (va_Qv (fun (u : Unit) => match u with | () => True) (fun (u : Unit) (t : State) => match u with | () => va_P (dC, dI) vwCl [(zo9iiii a0 x y z u0)] t.heap ∧ va_K (dC, dI) vwCl [] t ∧ va_D (va_A [(zo9iiii a0 0 0 0 0)] sz) [(zo9iiii a0 x y z u0)]) (va_A [(zo9iiii a0 0 0 0 0)] sz)) 0 0 (va_A [(zo9iiii a0 0 0 0 0)] sz) := by
  refine met_ofQ (cc := cX3_init) (maxL := 5) (ret := none) (by decide) rfl ?_
  intro p e s m args below meth c s₁ Q B hml hv hQ
  obtain ⟨rfl, hsz, hP, hK, hD0⟩ := hv
  have hx := B.exec
  have hb := B.bytes
  have hr := B.returns
  have hts := atoms_spec (ws := wsX3_init) B.pre
  have hown : s.vm.findClass RX3 = some m.cls := findClass_of_methodNamed B.named
  have hlocks := B.notSynchronized
  have hin : meth.name = "<init>" := (name_of_methodNamed B.named B.method).1
  subst hsz
  have hD := hD0.self (sz := s.heap.size)
  generalize hAe : va_A [(zo9iiii a0 0 0 0 0)] s.heap.size = A at hD hQ ⊢
  have hA : ∀ q : Nat, s.heap.size ≤ q → A q := fun q h => by rw [← hAe]; exact Or.inr h
  have hS : va_S A s.heap s.heap [] := va_S.rf
  have hl := lv_entry [.ref a0, .int x, .int y, .int z, .int u0] (n := 5) (Nat.le_of_ble_eq_true rfl)
  rw [lg_entry_eq]
  generalize (lg_sl [.ref a0, .int x, .int y, .int z, .int u0] ++ List.replicate (5 - (lg_sl [.ref a0, .int x, .int y, .int z, .int u0]).length) Slot.unset).toArray = ls at hl ⊢
  generalize hag : ([.ref a0, .int x, .int y, .int z, .int u0] : List Value).toArray = args at hts hQ ⊢
  have hl : lv_has ls 5 [(0, .ref a0), (1, .int x), (2, .int y), (3, .int z), (4, .int u0)] := hl
  obtain ⟨H, hH⟩ : ∃ H : Heap, H = s.heap := ⟨_, rfl⟩
  rw [← hH] at hP
  rw [← hH]
  have hS : va_S A s.heap H [] := by rw [hH]; exact hS
  obtain ⟨locs, hlo⟩ : ∃ L : List Loc, L = [] := ⟨_, rfl⟩
  rw [← hlo] at hS
  rw [← hlo]
  clear hH hlo
  refine lv_aload_n hx hb dX3_init_0 rfl (lv_at hl 0 rfl) ?_
  refine W.objInit hx hb hown (hts (.methodLink RX3 3 objectInit) kc_h3_X7_0) (hts (.instanceMethod objectInit) kc_h3_X7_1) (hts (.code objectInit ⟨#[0xb1]⟩ 1 none) kc_h3_X7_2) rfl (by rw [hml]; exact hl.1) rfl dX3_init_1 (Nat.le_of_ble_eq_true rfl) (Nat.le_of_ble_eq_true rfl) ?_
  refine W.eq (g2 := F0 m 4 ls []) rfl ?_
  refine lv_aload_n hx hb dX3_init_4 rfl (lv_at hl 0 rfl) ?_
  refine lv_iload_n hx hb dX3_init_5 rfl (lv_at hl 1 rfl) ?_
  refine va_putF (D := (dC, dI)) (ci := 9) (v := .int x) (ty := .int) (C := RX7) (T := TX7) (N := 4) hx hb hts kc_h3_X7_3 tyX7 tyX7_ok nmX7 hown hK hP hD hS 0 rfl rfl 0 (by decide) (hts (.fieldLink RX3 9 "MistHeaps$Heap" "kind" "I") kc_h3_X7_4) (fun _ h9 => h9) rfl hin rfl (by decide +kernel) rfl rfl (Nat.le_of_ble_eq_true rfl) dX3_init_6 (fun H locs hP hD hS => ?_)
  have hP : va_P (dC, dI) vwCl [(zo9iiii a0 x 0 0 0)] H := hP
  have hD : va_D A [(zo9iiii a0 x 0 0 0)] := hD
  refine lv_aload_n hx hb dX3_init_9 rfl (lv_at hl 0 rfl) ?_
  refine lv_iload_n hx hb dX3_init_10 rfl (lv_at hl 2 rfl) ?_
  refine va_put (D := (dC, dI)) (ci := 9) (v := .int y) (ty := .int) (C := RX7) (T := TX7) (N := 4) hx hb hts kc_h3_X7_3 tyX7 tyX7_ok nmX7 hown hK hP hD hS 0 rfl rfl 1 (by decide) (hts (.fieldLink RX3 15 "MistHeaps$Heap" "number" "I") kc_h3_X7_5) (fun _ h9 => h9) rfl (by decide +kernel) rfl rfl (Nat.le_of_ble_eq_true rfl) dX3_init_11 (fun H locs hP hD hS => ?_)
  have hP : va_P (dC, dI) vwCl [(zo9iiii a0 x y 0 0)] H := hP
  have hD : va_D A [(zo9iiii a0 x y 0 0)] := hD
  refine lv_aload_n hx hb dX3_init_14 rfl (lv_at hl 0 rfl) ?_
  refine lv_iload_n hx hb dX3_init_15 rfl (lv_at hl 3 rfl) ?_
  refine va_putF (D := (dC, dI)) (ci := 9) (v := .int z) (ty := .int) (C := RX7) (T := TX7) (N := 4) hx hb hts kc_h3_X7_3 tyX7 tyX7_ok nmX7 hown hK hP hD hS 0 rfl rfl 2 (by decide) (hts (.fieldLink RX3 18 "MistHeaps$Heap" "v" "I") kc_h3_X7_6) (fun _ h9 => h9) rfl hin rfl (by decide +kernel) rfl rfl (Nat.le_of_ble_eq_true rfl) dX3_init_16 (fun H locs hP hD hS => ?_)
  have hP : va_P (dC, dI) vwCl [(zo9iiii a0 x y z 0)] H := hP
  have hD : va_D A [(zo9iiii a0 x y z 0)] := hD
  refine lv_aload_n hx hb dX3_init_19 rfl (lv_at hl 0 rfl) ?_
  refine lv_iload hx hb dX3_init_20 (lv_at hl 4 rfl) ?_
  refine va_put (D := (dC, dI)) (ci := 9) (v := .int u0) (ty := .int) (C := RX7) (T := TX7) (N := 4) hx hb hts kc_h3_X7_3 tyX7 tyX7_ok nmX7 hown hK hP hD hS 0 rfl rfl 3 (by decide) (hts (.fieldLink RX3 21 "MistHeaps$Heap" "cell" "I") kc_h3_X7_7) (fun _ h9 => h9) rfl (by decide +kernel) rfl rfl (Nat.le_of_ble_eq_true rfl) dX3_init_22 (fun H locs hP hD hS => ?_)
  have hP : va_P (dC, dI) vwCl [(zo9iiii a0 x y z u0)] H := hP
  have hD : va_D A [(zo9iiii a0 x y z u0)] := hD
  rw [hQ]
  have hP9 := hP.sub (ws' := [(zo9iiii a0 x y z u0)]) [0] rfl
  have hD9 := hD.sub (ws' := [(zo9iiii a0 x y z u0)]) [0] (by decide) rfl
  have hK9 := hK.sub (tys' := []) [] rfl
  exact W.vret hx hb hr (fun tQ htQ hWQ => ⟨⟨(), rfl, trivial, by rw [htQ]; exact hP9, va_K.moved hWQ.alike hK9, hD9⟩, hS.F htQ⟩) hS.2.2 dX3_init_25

theorem kc_h4_X4_0 : (.initialized RX3 : Cond) ∈ wsX4_init := kc_of 67 rfl rfl rfl
theorem kc_h4_X4_1 : (.methodLink RX4 1 yX3_init : Cond) ∈ wsX4_init := kc_of 562 rfl rfl rfl
theorem kc_h4_X4_2 : (.instanceMethod yX3_init : Cond) ∈ wsX4_init := kc_of 225 rfl rfl rfl
set_option maxHeartbeats 4000000 in
set_option maxRecDepth 100000 in
theorem c_h4_X4 (l : Launch) (dC : Nat → ClassId) (dI : Nat → Nat → Nat) (a0 : Nat) (x y z u0 : Int32) (sz : Nat) : Met l yX4_init wsX4_init ({ frames := 2, cells := 0, slots := 0, locals := 36 } : Room) (va_Pc [.ref a0, .int x, .int y, .int z, .int u0] (fun U => U.heap.size = sz ∧ va_P (dC, dI) vwCl [(zo6iiii a0 0 0 0 0)] U.heap ∧ va_K (dC, dI) vwCl [] U ∧ va_D (fun _ => True) [(zo6iiii a0 0 0 0 0)])) (va_Qv (fun (u : Unit) => match u with | () => True) (fun (u : Unit) (t : State) => match u with | () => va_P (dC, dI) vwCl [(zo6iiii a0 x y z u0)] t.heap ∧ va_K (dC, dI) vwCl [] t ∧ va_D (va_A [(zo6iiii a0 0 0 0 0)] sz) [(zo6iiii a0 x y z u0)]) (va_A [(zo6iiii a0 0 0 0 0)] sz)) 0 0 (va_A [(zo6iiii a0 0 0 0 0)] sz) := by
  refine met_ofQ (cc := cX4_init) (maxL := 5) (ret := none) (by decide) rfl ?_
  intro p e s m args below meth c s₁ Q B hml hv hQ
  obtain ⟨rfl, hsz, hP, hK, hD0⟩ := hv
  have hx := B.exec
  have hb := B.bytes
  have hr := B.returns
  have hts := atoms_spec (ws := wsX4_init) B.pre
  have hown : s.vm.findClass RX4 = some m.cls := findClass_of_methodNamed B.named
  have hlocks := B.notSynchronized
  have hin : meth.name = "<init>" := (name_of_methodNamed B.named B.method).1
  subst hsz
  have hD := hD0.self (sz := s.heap.size)
  generalize hAe : va_A [(zo6iiii a0 0 0 0 0)] s.heap.size = A at hD hQ ⊢
  have hA : ∀ q : Nat, s.heap.size ≤ q → A q := fun q h => by rw [← hAe]; exact Or.inr h
  have hS : va_S A s.heap s.heap [] := va_S.rf
  have hl := lv_entry [.ref a0, .int x, .int y, .int z, .int u0] (n := 5) (Nat.le_of_ble_eq_true rfl)
  rw [lg_entry_eq]
  generalize (lg_sl [.ref a0, .int x, .int y, .int z, .int u0] ++ List.replicate (5 - (lg_sl [.ref a0, .int x, .int y, .int z, .int u0]).length) Slot.unset).toArray = ls at hl ⊢
  generalize hag : ([.ref a0, .int x, .int y, .int z, .int u0] : List Value).toArray = args at hts hQ ⊢
  have hl : lv_has ls 5 [(0, .ref a0), (1, .int x), (2, .int y), (3, .int z), (4, .int u0)] := hl
  obtain ⟨H, hH⟩ : ∃ H : Heap, H = s.heap := ⟨_, rfl⟩
  rw [← hH] at hP
  rw [← hH]
  have hS : va_S A s.heap H [] := by rw [hH]; exact hS
  obtain ⟨locs, hlo⟩ : ∃ L : List Loc, L = [] := ⟨_, rfl⟩
  rw [← hlo] at hS
  rw [← hlo]
  clear hH hlo
  refine lv_aload_n hx hb dX4_init_0 rfl (lv_at hl 0 rfl) ?_
  refine lv_iload_n hx hb dX4_init_1 rfl (lv_at hl 1 rfl) ?_
  refine lv_iload_n hx hb dX4_init_2 rfl (lv_at hl 2 rfl) ?_
  refine lv_iload_n hx hb dX4_init_3 rfl (lv_at hl 3 rfl) ?_
  refine lv_iload hx hb dX4_init_4 (lv_at hl 4 rfl) ?_
  have hPc := hP.sub (ws' := [(zo6iiii a0 0 0 0 0)]) [0] rfl
  have hDc := hD.sub (ws' := [(zo6iiii a0 0 0 0 0)]) [0] (by decide) rfl
  have hKc := hK.sub (tys' := []) [] rfl
  have hFc := va_free (wc := [(zo6iiii a0 0 0 0 0)]) hD hS hA [0] rfl
  refine va_callv (va_runI (As := [.int x, .int y, .int z, .int u0]) (rest := []) ⟨hx, hb, hml, hown, hts⟩ (c_h3_X4 l dC dI a0 x y z u0 H.size) (cwI 4 hts ggX4_init_X3_init rfl rfl rfl (hts (.initialized RX3) kc_h4_X4_0) (hts (.methodLink RX4 1 yX3_init) kc_h4_X4_1) (hts (.instanceMethod yX3_init) kc_h4_X4_2) rfl (by decide +kernel) ⟨Nat.le_of_ble_eq_true rfl, Nat.le_of_ble_eq_true rfl⟩) ⟨fun a U g mk q => by obtain ⟨q0, q1, qP, qK, qD⟩ := q; exact ⟨q0, q1, qP, va_K.moved (u := U) (U := U.calling g mk a) (Vm.Alike.refl U.vm) qK, qD⟩, fun U hU hW => ⟨rfl, by rw [hU], by rw [hU]; exact hPc, va_K.moved hW.alike hKc, hDc.weaken (fun _ _ _ _ => trivial)⟩⟩ rfl rfl hl.1 rfl (lv_room (Nat.le_of_ble_eq_true rfl)) dX4_init_6 ⟨Nat.le_of_ble_eq_true rfl, Nat.le_of_ble_eq_true rfl⟩) hS (fun q _ h => hFc q h) hFc (fun u tC H1 locs htC hvm hw_2 hB hz1 hk1 hS => ?_)
  obtain ⟨⟩ := u
  try dsimp only at hw_2 hB
  obtain ⟨hP1, hK1, hD1⟩ := hB
  rw [htC] at hP1
  have hK1 := va_K.moved hvm.symm hK1
  obtain ⟨hP, hD⟩ := va_join (wr := []) (w1 := [(zo6iiii a0 x y z u0)]) hP hD [0] [] rfl rfl (by decide) (by decide) hk1 hFc hP1 hD1
  have hK := (hK.sub (tys' := []) [] rfl).app hK1
  generalize H1 = H at hP hS ⊢
  have hP : va_P (dC, dI) vwCl [(zo6iiii a0 x y z u0)] H := hP
  have hD : va_D A [(zo6iiii a0 x y z u0)] := hD
  have hK : va_K (dC, dI) vwCl [] s := hK
  rw [hQ]
  have hP9 := hP.sub (ws' := [(zo6iiii a0 x y z u0)]) [0] rfl
  have hD9 := hD.sub (ws' := [(zo6iiii a0 x y z u0)]) [0] (by decide) rfl
  have hK9 := hK.sub (tys' := []) [] rfl
  exact W.vret hx hb hr (fun tQ htQ hWQ => ⟨⟨(), rfl, trivial, by rw [htQ]; exact hP9, va_K.moved hWQ.alike hK9, hD9⟩, hS.F htQ⟩) hS.2.2 dX4_init_9

theorem kc_h4_X10_0 : (.initialized RX3 : Cond) ∈ wsX4_init := kc_of 67 rfl rfl rfl
theorem kc_h4_X10_1 : (.methodLink RX4 1 yX3_init : Cond) ∈ wsX4_init := kc_of 562 rfl rfl rfl
theorem kc_h4_X10_2 : (.instanceMethod yX3_init : Cond) ∈ wsX4_init := kc_of 225 rfl rfl rfl
set_option maxHeartbeats 4000000 in
set_option maxRecDepth 100000 in
theorem c_h4_X10 (l : Launch) (dC : Nat → ClassId) (dI : Nat → Nat → Nat) (a0 : Nat) (x y z u0 : Int32) (sz : Nat) : Met l yX4_init wsX4_init ({ frames := 2, cells := 0, slots := 0, locals := 36 } : Room) (va_Pc [.ref a0, .int x, .int y, .int z, .int u0] (fun U => U.heap.size = sz ∧ va_P (dC, dI) vwCl [(zo12iiii a0 0 0 0 0)] U.heap ∧ va_K (dC, dI) vwCl [] U ∧ va_D (fun _ => True) [(zo12iiii a0 0 0 0 0)])) (va_Qv (fun (u : Unit) => match u with | () => True) (fun (u : Unit) (t : State) => match u with | () => va_P (dC, dI) vwCl [(zo12iiii a0 x y z u0)] t.heap ∧ va_K (dC, dI) vwCl [] t ∧ va_D (va_A [(zo12iiii a0 0 0 0 0)] sz) [(zo12iiii a0 x y z u0)]) (va_A [(zo12iiii a0 0 0 0 0)] sz)) 0 0 (va_A [(zo12iiii a0 0 0 0 0)] sz) := by
  refine met_ofQ (cc := cX4_init) (maxL := 5) (ret := none) (by decide) rfl ?_
  intro p e s m args below meth c s₁ Q B hml hv hQ
  obtain ⟨rfl, hsz, hP, hK, hD0⟩ := hv
  have hx := B.exec
  have hb := B.bytes
  have hr := B.returns
  have hts := atoms_spec (ws := wsX4_init) B.pre
  have hown : s.vm.findClass RX4 = some m.cls := findClass_of_methodNamed B.named
  have hlocks := B.notSynchronized
  have hin : meth.name = "<init>" := (name_of_methodNamed B.named B.method).1
  subst hsz
  have hD := hD0.self (sz := s.heap.size)
  generalize hAe : va_A [(zo12iiii a0 0 0 0 0)] s.heap.size = A at hD hQ ⊢
  have hA : ∀ q : Nat, s.heap.size ≤ q → A q := fun q h => by rw [← hAe]; exact Or.inr h
  have hS : va_S A s.heap s.heap [] := va_S.rf
  have hl := lv_entry [.ref a0, .int x, .int y, .int z, .int u0] (n := 5) (Nat.le_of_ble_eq_true rfl)
  rw [lg_entry_eq]
  generalize (lg_sl [.ref a0, .int x, .int y, .int z, .int u0] ++ List.replicate (5 - (lg_sl [.ref a0, .int x, .int y, .int z, .int u0]).length) Slot.unset).toArray = ls at hl ⊢
  generalize hag : ([.ref a0, .int x, .int y, .int z, .int u0] : List Value).toArray = args at hts hQ ⊢
  have hl : lv_has ls 5 [(0, .ref a0), (1, .int x), (2, .int y), (3, .int z), (4, .int u0)] := hl
  obtain ⟨H, hH⟩ : ∃ H : Heap, H = s.heap := ⟨_, rfl⟩
  rw [← hH] at hP
  rw [← hH]
  have hS : va_S A s.heap H [] := by rw [hH]; exact hS
  obtain ⟨locs, hlo⟩ : ∃ L : List Loc, L = [] := ⟨_, rfl⟩
  rw [← hlo] at hS
  rw [← hlo]
  clear hH hlo
  refine lv_aload_n hx hb dX4_init_0 rfl (lv_at hl 0 rfl) ?_
  refine lv_iload_n hx hb dX4_init_1 rfl (lv_at hl 1 rfl) ?_
  refine lv_iload_n hx hb dX4_init_2 rfl (lv_at hl 2 rfl) ?_
  refine lv_iload_n hx hb dX4_init_3 rfl (lv_at hl 3 rfl) ?_
  refine lv_iload hx hb dX4_init_4 (lv_at hl 4 rfl) ?_
  have hPc := hP.sub (ws' := [(zo12iiii a0 0 0 0 0)]) [0] rfl
  have hDc := hD.sub (ws' := [(zo12iiii a0 0 0 0 0)]) [0] (by decide) rfl
  have hKc := hK.sub (tys' := []) [] rfl
  have hFc := va_free (wc := [(zo12iiii a0 0 0 0 0)]) hD hS hA [0] rfl
  refine va_callv (va_runI (As := [.int x, .int y, .int z, .int u0]) (rest := []) ⟨hx, hb, hml, hown, hts⟩ (c_h3_X10 l dC dI a0 x y z u0 H.size) (cwI 4 hts ggX4_init_X3_init rfl rfl rfl (hts (.initialized RX3) kc_h4_X10_0) (hts (.methodLink RX4 1 yX3_init) kc_h4_X10_1) (hts (.instanceMethod yX3_init) kc_h4_X10_2) rfl (by decide +kernel) ⟨Nat.le_of_ble_eq_true rfl, Nat.le_of_ble_eq_true rfl⟩) ⟨fun a U g mk q => by obtain ⟨q0, q1, qP, qK, qD⟩ := q; exact ⟨q0, q1, qP, va_K.moved (u := U) (U := U.calling g mk a) (Vm.Alike.refl U.vm) qK, qD⟩, fun U hU hW => ⟨rfl, by rw [hU], by rw [hU]; exact hPc, va_K.moved hW.alike hKc, hDc.weaken (fun _ _ _ _ => trivial)⟩⟩ rfl rfl hl.1 rfl (lv_room (Nat.le_of_ble_eq_true rfl)) dX4_init_6 ⟨Nat.le_of_ble_eq_true rfl, Nat.le_of_ble_eq_true rfl⟩) hS (fun q _ h => hFc q h) hFc (fun u tC H1 locs htC hvm hw_2 hB hz1 hk1 hS => ?_)
  obtain ⟨⟩ := u
  try dsimp only at hw_2 hB
  obtain ⟨hP1, hK1, hD1⟩ := hB
  rw [htC] at hP1
  have hK1 := va_K.moved hvm.symm hK1
  obtain ⟨hP, hD⟩ := va_join (wr := []) (w1 := [(zo12iiii a0 x y z u0)]) hP hD [0] [] rfl rfl (by decide) (by decide) hk1 hFc hP1 hD1
  have hK := (hK.sub (tys' := []) [] rfl).app hK1
  generalize H1 = H at hP hS ⊢
  have hP : va_P (dC, dI) vwCl [(zo12iiii a0 x y z u0)] H := hP
  have hD : va_D A [(zo12iiii a0 x y z u0)] := hD
  have hK : va_K (dC, dI) vwCl [] s := hK
  rw [hQ]
  have hP9 := hP.sub (ws' := [(zo12iiii a0 x y z u0)]) [0] rfl
  have hD9 := hD.sub (ws' := [(zo12iiii a0 x y z u0)]) [0] (by decide) rfl
  have hK9 := hK.sub (tys' := []) [] rfl
  exact W.vret hx hb hr (fun tQ htQ hWQ => ⟨⟨(), rfl, trivial, by rw [htQ]; exact hP9, va_K.moved hWQ.alike hK9, hD9⟩, hS.F htQ⟩) hS.2.2 dX4_init_9

theorem kc_h6_X6_0 : (.initialized RX3 : Cond) ∈ wsX6_init := kc_of 67 rfl rfl rfl
theorem kc_h6_X6_1 : (.methodLink RX6 1 yX3_init : Cond) ∈ wsX6_init := kc_of 573 rfl rfl rfl
theorem kc_h6_X6_2 : (.instanceMethod yX3_init : Cond) ∈ wsX6_init := kc_of 225 rfl rfl rfl
set_option maxHeartbeats 4000000 in
set_option maxRecDepth 100000 in
theorem c_h6_X6 (l : Launch) (dC : Nat → ClassId) (dI : Nat → Nat → Nat) (a0 : Nat) (x y z u0 : Int32) (sz : Nat) : Met l yX6_init wsX6_init ({ frames := 2, cells := 0, slots := 0, locals := 36 } : Room) (va_Pc [.ref a0, .int x, .int y, .int z, .int u0] (fun U => U.heap.size = sz ∧ va_P (dC, dI) vwCl [(zo8iiii a0 0 0 0 0)] U.heap ∧ va_K (dC, dI) vwCl [] U ∧ va_D (fun _ => True) [(zo8iiii a0 0 0 0 0)])) (va_Qv (fun (u : Unit) => match u with | () => True) (fun (u : Unit) (t : State) => match u with | () => va_P (dC, dI) vwCl [(zo8iiii a0 x y z u0)] t.heap ∧ va_K (dC, dI) vwCl [] t ∧ va_D (va_A [(zo8iiii a0 0 0 0 0)] sz) [(zo8iiii a0 x y z u0)]) (va_A [(zo8iiii a0 0 0 0 0)] sz)) 0 0 (va_A [(zo8iiii a0 0 0 0 0)] sz) := by
  refine met_ofQ (cc := cX6_init) (maxL := 5) (ret := none) (by decide) rfl ?_
  intro p e s m args below meth c s₁ Q B hml hv hQ
  obtain ⟨rfl, hsz, hP, hK, hD0⟩ := hv
  have hx := B.exec
  have hb := B.bytes
  have hr := B.returns
  have hts := atoms_spec (ws := wsX6_init) B.pre
  have hown : s.vm.findClass RX6 = some m.cls := findClass_of_methodNamed B.named
  have hlocks := B.notSynchronized
  have hin : meth.name = "<init>" := (name_of_methodNamed B.named B.method).1
  subst hsz
  have hD := hD0.self (sz := s.heap.size)
  generalize hAe : va_A [(zo8iiii a0 0 0 0 0)] s.heap.size = A at hD hQ ⊢
  have hA : ∀ q : Nat, s.heap.size ≤ q → A q := fun q h => by rw [← hAe]; exact Or.inr h
  have hS : va_S A s.heap s.heap [] := va_S.rf
  have hl := lv_entry [.ref a0, .int x, .int y, .int z, .int u0] (n := 5) (Nat.le_of_ble_eq_true rfl)
  rw [lg_entry_eq]
  generalize (lg_sl [.ref a0, .int x, .int y, .int z, .int u0] ++ List.replicate (5 - (lg_sl [.ref a0, .int x, .int y, .int z, .int u0]).length) Slot.unset).toArray = ls at hl ⊢
  generalize hag : ([.ref a0, .int x, .int y, .int z, .int u0] : List Value).toArray = args at hts hQ ⊢
  have hl : lv_has ls 5 [(0, .ref a0), (1, .int x), (2, .int y), (3, .int z), (4, .int u0)] := hl
  obtain ⟨H, hH⟩ : ∃ H : Heap, H = s.heap := ⟨_, rfl⟩
  rw [← hH] at hP
  rw [← hH]
  have hS : va_S A s.heap H [] := by rw [hH]; exact hS
  obtain ⟨locs, hlo⟩ : ∃ L : List Loc, L = [] := ⟨_, rfl⟩
  rw [← hlo] at hS
  rw [← hlo]
  clear hH hlo
  refine lv_aload_n hx hb dX6_init_0 rfl (lv_at hl 0 rfl) ?_
  refine lv_iload_n hx hb dX6_init_1 rfl (lv_at hl 1 rfl) ?_
  refine lv_iload_n hx hb dX6_init_2 rfl (lv_at hl 2 rfl) ?_
  refine lv_iload_n hx hb dX6_init_3 rfl (lv_at hl 3 rfl) ?_
  refine lv_iload hx hb dX6_init_4 (lv_at hl 4 rfl) ?_
  have hPc := hP.sub (ws' := [(zo8iiii a0 0 0 0 0)]) [0] rfl
  have hDc := hD.sub (ws' := [(zo8iiii a0 0 0 0 0)]) [0] (by decide) rfl
  have hKc := hK.sub (tys' := []) [] rfl
  have hFc := va_free (wc := [(zo8iiii a0 0 0 0 0)]) hD hS hA [0] rfl
  refine va_callv (va_runI (As := [.int x, .int y, .int z, .int u0]) (rest := []) ⟨hx, hb, hml, hown, hts⟩ (c_h3_X6 l dC dI a0 x y z u0 H.size) (cwI 4 hts ggX6_init_X3_init rfl rfl rfl (hts (.initialized RX3) kc_h6_X6_0) (hts (.methodLink RX6 1 yX3_init) kc_h6_X6_1) (hts (.instanceMethod yX3_init) kc_h6_X6_2) rfl (by decide +kernel) ⟨Nat.le_of_ble_eq_true rfl, Nat.le_of_ble_eq_true rfl⟩) ⟨fun a U g mk q => by obtain ⟨q0, q1, qP, qK, qD⟩ := q; exact ⟨q0, q1, qP, va_K.moved (u := U) (U := U.calling g mk a) (Vm.Alike.refl U.vm) qK, qD⟩, fun U hU hW => ⟨rfl, by rw [hU], by rw [hU]; exact hPc, va_K.moved hW.alike hKc, hDc.weaken (fun _ _ _ _ => trivial)⟩⟩ rfl rfl hl.1 rfl (lv_room (Nat.le_of_ble_eq_true rfl)) dX6_init_6 ⟨Nat.le_of_ble_eq_true rfl, Nat.le_of_ble_eq_true rfl⟩) hS (fun q _ h => hFc q h) hFc (fun u tC H1 locs htC hvm hw_2 hB hz1 hk1 hS => ?_)
  obtain ⟨⟩ := u
  try dsimp only at hw_2 hB
  obtain ⟨hP1, hK1, hD1⟩ := hB
  rw [htC] at hP1
  have hK1 := va_K.moved hvm.symm hK1
  obtain ⟨hP, hD⟩ := va_join (wr := []) (w1 := [(zo8iiii a0 x y z u0)]) hP hD [0] [] rfl rfl (by decide) (by decide) hk1 hFc hP1 hD1
  have hK := (hK.sub (tys' := []) [] rfl).app hK1
  generalize H1 = H at hP hS ⊢
  have hP : va_P (dC, dI) vwCl [(zo8iiii a0 x y z u0)] H := hP
  have hD : va_D A [(zo8iiii a0 x y z u0)] := hD
  have hK : va_K (dC, dI) vwCl [] s := hK
  rw [hQ]
  have hP9 := hP.sub (ws' := [(zo8iiii a0 x y z u0)]) [0] rfl
  have hD9 := hD.sub (ws' := [(zo8iiii a0 x y z u0)]) [0] (by decide) rfl
  have hK9 := hK.sub (tys' := []) [] rfl
  exact W.vret hx hb hr (fun tQ htQ hWQ => ⟨⟨(), rfl, trivial, by rw [htQ]; exact hP9, va_K.moved hWQ.alike hK9, hD9⟩, hS.F htQ⟩) hS.2.2 dX6_init_9

theorem kc_h6_X9_0 : (.initialized RX3 : Cond) ∈ wsX6_init := kc_of 67 rfl rfl rfl
theorem kc_h6_X9_1 : (.methodLink RX6 1 yX3_init : Cond) ∈ wsX6_init := kc_of 573 rfl rfl rfl
theorem kc_h6_X9_2 : (.instanceMethod yX3_init : Cond) ∈ wsX6_init := kc_of 225 rfl rfl rfl
set_option maxHeartbeats 4000000 in
set_option maxRecDepth 100000 in
theorem c_h6_X9 (l : Launch) (dC : Nat → ClassId) (dI : Nat → Nat → Nat) (a0 : Nat) (x y z u0 : Int32) (sz : Nat) : Met l yX6_init wsX6_init ({ frames := 2, cells := 0, slots := 0, locals := 36 } : Room) (va_Pc [.ref a0, .int x, .int y, .int z, .int u0] (fun U => U.heap.size = sz ∧ va_P (dC, dI) vwCl [(zo11iiii a0 0 0 0 0)] U.heap ∧ va_K (dC, dI) vwCl [] U ∧ va_D (fun _ => True) [(zo11iiii a0 0 0 0 0)])) (va_Qv (fun (u : Unit) => match u with | () => True) (fun (u : Unit) (t : State) => match u with | () => va_P (dC, dI) vwCl [(zo11iiii a0 x y z u0)] t.heap ∧ va_K (dC, dI) vwCl [] t ∧ va_D (va_A [(zo11iiii a0 0 0 0 0)] sz) [(zo11iiii a0 x y z u0)]) (va_A [(zo11iiii a0 0 0 0 0)] sz)) 0 0 (va_A [(zo11iiii a0 0 0 0 0)] sz) := by
  refine met_ofQ (cc := cX6_init) (maxL := 5) (ret := none) (by decide) rfl ?_
  intro p e s m args below meth c s₁ Q B hml hv hQ
  obtain ⟨rfl, hsz, hP, hK, hD0⟩ := hv
  have hx := B.exec
  have hb := B.bytes
  have hr := B.returns
  have hts := atoms_spec (ws := wsX6_init) B.pre
  have hown : s.vm.findClass RX6 = some m.cls := findClass_of_methodNamed B.named
  have hlocks := B.notSynchronized
  have hin : meth.name = "<init>" := (name_of_methodNamed B.named B.method).1
  subst hsz
  have hD := hD0.self (sz := s.heap.size)
  generalize hAe : va_A [(zo11iiii a0 0 0 0 0)] s.heap.size = A at hD hQ ⊢
  have hA : ∀ q : Nat, s.heap.size ≤ q → A q := fun q h => by rw [← hAe]; exact Or.inr h
  have hS : va_S A s.heap s.heap [] := va_S.rf
  have hl := lv_entry [.ref a0, .int x, .int y, .int z, .int u0] (n := 5) (Nat.le_of_ble_eq_true rfl)
  rw [lg_entry_eq]
  generalize (lg_sl [.ref a0, .int x, .int y, .int z, .int u0] ++ List.replicate (5 - (lg_sl [.ref a0, .int x, .int y, .int z, .int u0]).length) Slot.unset).toArray = ls at hl ⊢
  generalize hag : ([.ref a0, .int x, .int y, .int z, .int u0] : List Value).toArray = args at hts hQ ⊢
  have hl : lv_has ls 5 [(0, .ref a0), (1, .int x), (2, .int y), (3, .int z), (4, .int u0)] := hl
  obtain ⟨H, hH⟩ : ∃ H : Heap, H = s.heap := ⟨_, rfl⟩
  rw [← hH] at hP
  rw [← hH]
  have hS : va_S A s.heap H [] := by rw [hH]; exact hS
  obtain ⟨locs, hlo⟩ : ∃ L : List Loc, L = [] := ⟨_, rfl⟩
  rw [← hlo] at hS
  rw [← hlo]
  clear hH hlo
  refine lv_aload_n hx hb dX6_init_0 rfl (lv_at hl 0 rfl) ?_
  refine lv_iload_n hx hb dX6_init_1 rfl (lv_at hl 1 rfl) ?_
  refine lv_iload_n hx hb dX6_init_2 rfl (lv_at hl 2 rfl) ?_
  refine lv_iload_n hx hb dX6_init_3 rfl (lv_at hl 3 rfl) ?_
  refine lv_iload hx hb dX6_init_4 (lv_at hl 4 rfl) ?_
  have hPc := hP.sub (ws' := [(zo11iiii a0 0 0 0 0)]) [0] rfl
  have hDc := hD.sub (ws' := [(zo11iiii a0 0 0 0 0)]) [0] (by decide) rfl
  have hKc := hK.sub (tys' := []) [] rfl
  have hFc := va_free (wc := [(zo11iiii a0 0 0 0 0)]) hD hS hA [0] rfl
  refine va_callv (va_runI (As := [.int x, .int y, .int z, .int u0]) (rest := []) ⟨hx, hb, hml, hown, hts⟩ (c_h3_X9 l dC dI a0 x y z u0 H.size) (cwI 4 hts ggX6_init_X3_init rfl rfl rfl (hts (.initialized RX3) kc_h6_X9_0) (hts (.methodLink RX6 1 yX3_init) kc_h6_X9_1) (hts (.instanceMethod yX3_init) kc_h6_X9_2) rfl (by decide +kernel) ⟨Nat.le_of_ble_eq_true rfl, Nat.le_of_ble_eq_true rfl⟩) ⟨fun a U g mk q => by obtain ⟨q0, q1, qP, qK, qD⟩ := q; exact ⟨q0, q1, qP, va_K.moved (u := U) (U := U.calling g mk a) (Vm.Alike.refl U.vm) qK, qD⟩, fun U hU hW => ⟨rfl, by rw [hU], by rw [hU]; exact hPc, va_K.moved hW.alike hKc, hDc.weaken (fun _ _ _ _ => trivial)⟩⟩ rfl rfl hl.1 rfl (lv_room (Nat.le_of_ble_eq_true rfl)) dX6_init_6 ⟨Nat.le_of_ble_eq_true rfl, Nat.le_of_ble_eq_true rfl⟩) hS (fun q _ h => hFc q h) hFc (fun u tC H1 locs htC hvm hw_2 hB hz1 hk1 hS => ?_)
  obtain ⟨⟩ := u
  try dsimp only at hw_2 hB
  obtain ⟨hP1, hK1, hD1⟩ := hB
  rw [htC] at hP1
  have hK1 := va_K.moved hvm.symm hK1
  obtain ⟨hP, hD⟩ := va_join (wr := []) (w1 := [(zo11iiii a0 x y z u0)]) hP hD [0] [] rfl rfl (by decide) (by decide) hk1 hFc hP1 hD1
  have hK := (hK.sub (tys' := []) [] rfl).app hK1
  generalize H1 = H at hP hS ⊢
  have hP : va_P (dC, dI) vwCl [(zo11iiii a0 x y z u0)] H := hP
  have hD : va_D A [(zo11iiii a0 x y z u0)] := hD
  have hK : va_K (dC, dI) vwCl [] s := hK
  rw [hQ]
  have hP9 := hP.sub (ws' := [(zo11iiii a0 x y z u0)]) [0] rfl
  have hD9 := hD.sub (ws' := [(zo11iiii a0 x y z u0)]) [0] (by decide) rfl
  have hK9 := hK.sub (tys' := []) [] rfl
  exact W.vret hx hb hr (fun tQ htQ hWQ => ⟨⟨(), rfl, trivial, by rw [htQ]; exact hP9, va_K.moved hWQ.alike hK9, hD9⟩, hS.F htQ⟩) hS.2.2 dX6_init_9

theorem kc_h1_X1_0 : (.initialized RX3 : Cond) ∈ wsX1_init := kc_of 67 rfl rfl rfl
theorem kc_h1_X1_1 : (.methodLink RX1 1 yX3_init : Cond) ∈ wsX1_init := kc_of 584 rfl rfl rfl
theorem kc_h1_X1_2 : (.instanceMethod yX3_init : Cond) ∈ wsX1_init := kc_of 225 rfl rfl rfl
set_option maxHeartbeats 4000000 in
set_option maxRecDepth 100000 in
theorem c_h1_X1 (l : Launch) (dC : Nat → ClassId) (dI : Nat → Nat → Nat) (a0 : Nat) (x y z u0 : Int32) (sz : Nat) : Met l yX1_init wsX1_init ({ frames := 2, cells := 0, slots := 0, locals := 36 } : Room) (va_Pc [.ref a0, .int x, .int y, .int z, .int u0] (fun U => U.heap.size = sz ∧ va_P (dC, dI) vwCl [(zo3iiii a0 0 0 0 0)] U.heap ∧ va_K (dC, dI) vwCl [] U ∧ va_D (fun _ => True) [(zo3iiii a0 0 0 0 0)])) (va_Qv (fun (u : Unit) => match u with | () => True) (fun (u : Unit) (t : State) => match u with | () => va_P (dC, dI) vwCl [(zo3iiii a0 x y z u0)] t.heap ∧ va_K (dC, dI) vwCl [] t ∧ va_D (va_A [(zo3iiii a0 0 0 0 0)] sz) [(zo3iiii a0 x y z u0)]) (va_A [(zo3iiii a0 0 0 0 0)] sz)) 0 0 (va_A [(zo3iiii a0 0 0 0 0)] sz) := by
  refine met_ofQ (cc := cX1_init) (maxL := 5) (ret := none) (by decide) rfl ?_
  intro p e s m args below meth c s₁ Q B hml hv hQ
  obtain ⟨rfl, hsz, hP, hK, hD0⟩ := hv
  have hx := B.exec
  have hb := B.bytes
  have hr := B.returns
  have hts := atoms_spec (ws := wsX1_init) B.pre
  have hown : s.vm.findClass RX1 = some m.cls := findClass_of_methodNamed B.named
  have hlocks := B.notSynchronized
  have hin : meth.name = "<init>" := (name_of_methodNamed B.named B.method).1
  subst hsz
  have hD := hD0.self (sz := s.heap.size)
  generalize hAe : va_A [(zo3iiii a0 0 0 0 0)] s.heap.size = A at hD hQ ⊢
  have hA : ∀ q : Nat, s.heap.size ≤ q → A q := fun q h => by rw [← hAe]; exact Or.inr h
  have hS : va_S A s.heap s.heap [] := va_S.rf
  have hl := lv_entry [.ref a0, .int x, .int y, .int z, .int u0] (n := 5) (Nat.le_of_ble_eq_true rfl)
  rw [lg_entry_eq]
  generalize (lg_sl [.ref a0, .int x, .int y, .int z, .int u0] ++ List.replicate (5 - (lg_sl [.ref a0, .int x, .int y, .int z, .int u0]).length) Slot.unset).toArray = ls at hl ⊢
  generalize hag : ([.ref a0, .int x, .int y, .int z, .int u0] : List Value).toArray = args at hts hQ ⊢
  have hl : lv_has ls 5 [(0, .ref a0), (1, .int x), (2, .int y), (3, .int z), (4, .int u0)] := hl
  obtain ⟨H, hH⟩ : ∃ H : Heap, H = s.heap := ⟨_, rfl⟩
  rw [← hH] at hP
  rw [← hH]
  have hS : va_S A s.heap H [] := by rw [hH]; exact hS
  obtain ⟨locs, hlo⟩ : ∃ L : List Loc, L = [] := ⟨_, rfl⟩
  rw [← hlo] at hS
  rw [← hlo]
  clear hH hlo
  refine lv_aload_n hx hb dX1_init_0 rfl (lv_at hl 0 rfl) ?_
  refine lv_iload_n hx hb dX1_init_1 rfl (lv_at hl 1 rfl) ?_
  refine lv_iload_n hx hb dX1_init_2 rfl (lv_at hl 2 rfl) ?_
  refine lv_iload_n hx hb dX1_init_3 rfl (lv_at hl 3 rfl) ?_
  refine lv_iload hx hb dX1_init_4 (lv_at hl 4 rfl) ?_
  have hPc := hP.sub (ws' := [(zo3iiii a0 0 0 0 0)]) [0] rfl
  have hDc := hD.sub (ws' := [(zo3iiii a0 0 0 0 0)]) [0] (by decide) rfl
  have hKc := hK.sub (tys' := []) [] rfl
  have hFc := va_free (wc := [(zo3iiii a0 0 0 0 0)]) hD hS hA [0] rfl
  refine va_callv (va_runI (As := [.int x, .int y, .int z, .int u0]) (rest := []) ⟨hx, hb, hml, hown, hts⟩ (c_h3_X1 l dC dI a0 x y z u0 H.size) (cwI 4 hts ggX1_init_X3_init rfl rfl rfl (hts (.initialized RX3) kc_h1_X1_0) (hts (.methodLink RX1 1 yX3_init) kc_h1_X1_1) (hts (.instanceMethod yX3_init) kc_h1_X1_2) rfl (by decide +kernel) ⟨Nat.le_of_ble_eq_true rfl, Nat.le_of_ble_eq_true rfl⟩) ⟨fun a U g mk q => by obtain ⟨q0, q1, qP, qK, qD⟩ := q; exact ⟨q0, q1, qP, va_K.moved (u := U) (U := U.calling g mk a) (Vm.Alike.refl U.vm) qK, qD⟩, fun U hU hW => ⟨rfl, by rw [hU], by rw [hU]; exact hPc, va_K.moved hW.alike hKc, hDc.weaken (fun _ _ _ _ => trivial)⟩⟩ rfl rfl hl.1 rfl (lv_room (Nat.le_of_ble_eq_true rfl)) dX1_init_6 ⟨Nat.le_of_ble_eq_true rfl, Nat.le_of_ble_eq_true rfl⟩) hS (fun q _ h => hFc q h) hFc (fun u tC H1 locs htC hvm hw_2 hB hz1 hk1 hS => ?_)
  obtain ⟨⟩ := u
  try dsimp only at hw_2 hB
  obtain ⟨hP1, hK1, hD1⟩ := hB
  rw [htC] at hP1
  have hK1 := va_K.moved hvm.symm hK1
  obtain ⟨hP, hD⟩ := va_join (wr := []) (w1 := [(zo3iiii a0 x y z u0)]) hP hD [0] [] rfl rfl (by decide) (by decide) hk1 hFc hP1 hD1
  have hK := (hK.sub (tys' := []) [] rfl).app hK1
  generalize H1 = H at hP hS ⊢
  have hP : va_P (dC, dI) vwCl [(zo3iiii a0 x y z u0)] H := hP
  have hD : va_D A [(zo3iiii a0 x y z u0)] := hD
  have hK : va_K (dC, dI) vwCl [] s := hK
  rw [hQ]
  have hP9 := hP.sub (ws' := [(zo3iiii a0 x y z u0)]) [0] rfl
  have hD9 := hD.sub (ws' := [(zo3iiii a0 x y z u0)]) [0] (by decide) rfl
  have hK9 := hK.sub (tys' := []) [] rfl
  exact W.vret hx hb hr (fun tQ htQ hWQ => ⟨⟨(), rfl, trivial, by rw [htQ]; exact hP9, va_K.moved hWQ.alike hK9, hD9⟩, hS.F htQ⟩) hS.2.2 dX1_init_9

theorem kc_h1_X7_0 : (.initialized RX3 : Cond) ∈ wsX1_init := kc_of 67 rfl rfl rfl
theorem kc_h1_X7_1 : (.methodLink RX1 1 yX3_init : Cond) ∈ wsX1_init := kc_of 584 rfl rfl rfl
theorem kc_h1_X7_2 : (.instanceMethod yX3_init : Cond) ∈ wsX1_init := kc_of 225 rfl rfl rfl
set_option maxHeartbeats 4000000 in
set_option maxRecDepth 100000 in
theorem c_h1_X7 (l : Launch) (dC : Nat → ClassId) (dI : Nat → Nat → Nat) (a0 : Nat) (x y z u0 : Int32) (sz : Nat) : Met l yX1_init wsX1_init ({ frames := 2, cells := 0, slots := 0, locals := 36 } : Room) (va_Pc [.ref a0, .int x, .int y, .int z, .int u0] (fun U => U.heap.size = sz ∧ va_P (dC, dI) vwCl [(zo9iiii a0 0 0 0 0)] U.heap ∧ va_K (dC, dI) vwCl [] U ∧ va_D (fun _ => True) [(zo9iiii a0 0 0 0 0)])) (va_Qv (fun (u : Unit) => match u with | () => True) (fun (u : Unit) (t : State) => match u with | () => va_P (dC, dI) vwCl [(zo9iiii a0 x y z u0)] t.heap ∧ va_K (dC, dI) vwCl [] t ∧ va_D (va_A [(zo9iiii a0 0 0 0 0)] sz) [(zo9iiii a0 x y z u0)]) (va_A [(zo9iiii a0 0 0 0 0)] sz)) 0 0 (va_A [(zo9iiii a0 0 0 0 0)] sz) := by
  refine met_ofQ (cc := cX1_init) (maxL := 5) (ret := none) (by decide) rfl ?_
  intro p e s m args below meth c s₁ Q B hml hv hQ
  obtain ⟨rfl, hsz, hP, hK, hD0⟩ := hv
  have hx := B.exec
  have hb := B.bytes
  have hr := B.returns
  have hts := atoms_spec (ws := wsX1_init) B.pre
  have hown : s.vm.findClass RX1 = some m.cls := findClass_of_methodNamed B.named
  have hlocks := B.notSynchronized
  have hin : meth.name = "<init>" := (name_of_methodNamed B.named B.method).1
  subst hsz
  have hD := hD0.self (sz := s.heap.size)
  generalize hAe : va_A [(zo9iiii a0 0 0 0 0)] s.heap.size = A at hD hQ ⊢
  have hA : ∀ q : Nat, s.heap.size ≤ q → A q := fun q h => by rw [← hAe]; exact Or.inr h
  have hS : va_S A s.heap s.heap [] := va_S.rf
  have hl := lv_entry [.ref a0, .int x, .int y, .int z, .int u0] (n := 5) (Nat.le_of_ble_eq_true rfl)
  rw [lg_entry_eq]
  generalize (lg_sl [.ref a0, .int x, .int y, .int z, .int u0] ++ List.replicate (5 - (lg_sl [.ref a0, .int x, .int y, .int z, .int u0]).length) Slot.unset).toArray = ls at hl ⊢
  generalize hag : ([.ref a0, .int x, .int y, .int z, .int u0] : List Value).toArray = args at hts hQ ⊢
  have hl : lv_has ls 5 [(0, .ref a0), (1, .int x), (2, .int y), (3, .int z), (4, .int u0)] := hl
  obtain ⟨H, hH⟩ : ∃ H : Heap, H = s.heap := ⟨_, rfl⟩
  rw [← hH] at hP
  rw [← hH]
  have hS : va_S A s.heap H [] := by rw [hH]; exact hS
  obtain ⟨locs, hlo⟩ : ∃ L : List Loc, L = [] := ⟨_, rfl⟩
  rw [← hlo] at hS
  rw [← hlo]
  clear hH hlo
  refine lv_aload_n hx hb dX1_init_0 rfl (lv_at hl 0 rfl) ?_
  refine lv_iload_n hx hb dX1_init_1 rfl (lv_at hl 1 rfl) ?_
  refine lv_iload_n hx hb dX1_init_2 rfl (lv_at hl 2 rfl) ?_
  refine lv_iload_n hx hb dX1_init_3 rfl (lv_at hl 3 rfl) ?_
  refine lv_iload hx hb dX1_init_4 (lv_at hl 4 rfl) ?_
  have hPc := hP.sub (ws' := [(zo9iiii a0 0 0 0 0)]) [0] rfl
  have hDc := hD.sub (ws' := [(zo9iiii a0 0 0 0 0)]) [0] (by decide) rfl
  have hKc := hK.sub (tys' := []) [] rfl
  have hFc := va_free (wc := [(zo9iiii a0 0 0 0 0)]) hD hS hA [0] rfl
  refine va_callv (va_runI (As := [.int x, .int y, .int z, .int u0]) (rest := []) ⟨hx, hb, hml, hown, hts⟩ (c_h3_X7 l dC dI a0 x y z u0 H.size) (cwI 4 hts ggX1_init_X3_init rfl rfl rfl (hts (.initialized RX3) kc_h1_X7_0) (hts (.methodLink RX1 1 yX3_init) kc_h1_X7_1) (hts (.instanceMethod yX3_init) kc_h1_X7_2) rfl (by decide +kernel) ⟨Nat.le_of_ble_eq_true rfl, Nat.le_of_ble_eq_true rfl⟩) ⟨fun a U g mk q => by obtain ⟨q0, q1, qP, qK, qD⟩ := q; exact ⟨q0, q1, qP, va_K.moved (u := U) (U := U.calling g mk a) (Vm.Alike.refl U.vm) qK, qD⟩, fun U hU hW => ⟨rfl, by rw [hU], by rw [hU]; exact hPc, va_K.moved hW.alike hKc, hDc.weaken (fun _ _ _ _ => trivial)⟩⟩ rfl rfl hl.1 rfl (lv_room (Nat.le_of_ble_eq_true rfl)) dX1_init_6 ⟨Nat.le_of_ble_eq_true rfl, Nat.le_of_ble_eq_true rfl⟩) hS (fun q _ h => hFc q h) hFc (fun u tC H1 locs htC hvm hw_2 hB hz1 hk1 hS => ?_)
  obtain ⟨⟩ := u
  try dsimp only at hw_2 hB
  obtain ⟨hP1, hK1, hD1⟩ := hB
  rw [htC] at hP1
  have hK1 := va_K.moved hvm.symm hK1
  obtain ⟨hP, hD⟩ := va_join (wr := []) (w1 := [(zo9iiii a0 x y z u0)]) hP hD [0] [] rfl rfl (by decide) (by decide) hk1 hFc hP1 hD1
  have hK := (hK.sub (tys' := []) [] rfl).app hK1
  generalize H1 = H at hP hS ⊢
  have hP : va_P (dC, dI) vwCl [(zo9iiii a0 x y z u0)] H := hP
  have hD : va_D A [(zo9iiii a0 x y z u0)] := hD
  have hK : va_K (dC, dI) vwCl [] s := hK
  rw [hQ]
  have hP9 := hP.sub (ws' := [(zo9iiii a0 x y z u0)]) [0] rfl
  have hD9 := hD.sub (ws' := [(zo9iiii a0 x y z u0)]) [0] (by decide) rfl
  have hK9 := hK.sub (tys' := []) [] rfl
  exact W.vret hx hb hr (fun tQ htQ hWQ => ⟨⟨(), rfl, trivial, by rw [htQ]; exact hP9, va_K.moved hWQ.alike hK9, hD9⟩, hS.F htQ⟩) hS.2.2 dX1_init_9

theorem kc_h10_X10_0 : (.initialized RX4 : Cond) ∈ wsX10_init := kc_of 81 rfl rfl rfl
theorem kc_h10_X10_1 : (.methodLink RX10 3 yX4_init : Cond) ∈ wsX10_init := kc_of 595 rfl rfl rfl
theorem kc_h10_X10_2 : (.instanceMethod yX4_init : Cond) ∈ wsX10_init := kc_of 560 rfl rfl rfl
set_option maxHeartbeats 4000000 in
set_option maxRecDepth 100000 in
theorem c_h10_X10 (l : Launch) (dC : Nat → ClassId) (dI : Nat → Nat → Nat) (a0 : Nat) (x y z u0 : Int32) (sz : Nat) : Met l yX10_init wsX10_init ({ frames := 3, cells := 0, slots := 0, locals := 60 } : Room) (va_Pc [.ref a0, .int x, .int y, .int z, .int u0] (fun U => U.heap.size = sz ∧ va_P (dC, dI) vwCl [(zo12iiii a0 0 0 0 0)] U.heap ∧ va_K (dC, dI) vwCl [] U ∧ va_D (fun _ => True) [(zo12iiii a0 0 0 0 0)])) (va_Qv (fun (u : Unit) => match u with | () => True) (fun (u : Unit) (t : State) => match u with | () => va_P (dC, dI) vwCl [(zo12iiii a0 x y z u0)] t.heap ∧ va_K (dC, dI) vwCl [] t ∧ va_D (va_A [(zo12iiii a0 0 0 0 0)] sz) [(zo12iiii a0 x y z u0)]) (va_A [(zo12iiii a0 0 0 0 0)] sz)) 0 0 (va_A [(zo12iiii a0 0 0 0 0)] sz) := by
  refine met_ofQ (cc := cX10_init) (maxL := 5) (ret := none) (by decide) rfl ?_
  intro p e s m args below meth c s₁ Q B hml hv hQ
  obtain ⟨rfl, hsz, hP, hK, hD0⟩ := hv
  have hx := B.exec
  have hb := B.bytes
  have hr := B.returns
  have hts := atoms_spec (ws := wsX10_init) B.pre
  have hown : s.vm.findClass RX10 = some m.cls := findClass_of_methodNamed B.named
  have hlocks := B.notSynchronized
  have hin : meth.name = "<init>" := (name_of_methodNamed B.named B.method).1
  subst hsz
  have hD := hD0.self (sz := s.heap.size)
  generalize hAe : va_A [(zo12iiii a0 0 0 0 0)] s.heap.size = A at hD hQ ⊢
  have hA : ∀ q : Nat, s.heap.size ≤ q → A q := fun q h => by rw [← hAe]; exact Or.inr h
  have hS : va_S A s.heap s.heap [] := va_S.rf
  have hl := lv_entry [.ref a0, .int x, .int y, .int z, .int u0] (n := 5) (Nat.le_of_ble_eq_true rfl)
  rw [lg_entry_eq]
  generalize (lg_sl [.ref a0, .int x, .int y, .int z, .int u0] ++ List.replicate (5 - (lg_sl [.ref a0, .int x, .int y, .int z, .int u0]).length) Slot.unset).toArray = ls at hl ⊢
  generalize hag : ([.ref a0, .int x, .int y, .int z, .int u0] : List Value).toArray = args at hts hQ ⊢
  have hl : lv_has ls 5 [(0, .ref a0), (1, .int x), (2, .int y), (3, .int z), (4, .int u0)] := hl
  obtain ⟨H, hH⟩ : ∃ H : Heap, H = s.heap := ⟨_, rfl⟩
  rw [← hH] at hP
  rw [← hH]
  have hS : va_S A s.heap H [] := by rw [hH]; exact hS
  obtain ⟨locs, hlo⟩ : ∃ L : List Loc, L = [] := ⟨_, rfl⟩
  rw [← hlo] at hS
  rw [← hlo]
  clear hH hlo
  refine lv_aload_n hx hb dX10_init_0 rfl (lv_at hl 0 rfl) ?_
  refine lv_iload_n hx hb dX10_init_1 rfl (lv_at hl 1 rfl) ?_
  refine lv_iload_n hx hb dX10_init_2 rfl (lv_at hl 2 rfl) ?_
  refine lv_iload_n hx hb dX10_init_3 rfl (lv_at hl 3 rfl) ?_
  refine lv_iload hx hb dX10_init_4 (lv_at hl 4 rfl) ?_
  have hPc := hP.sub (ws' := [(zo12iiii a0 0 0 0 0)]) [0] rfl
  have hDc := hD.sub (ws' := [(zo12iiii a0 0 0 0 0)]) [0] (by decide) rfl
  have hKc := hK.sub (tys' := []) [] rfl
  have hFc := va_free (wc := [(zo12iiii a0 0 0 0 0)]) hD hS hA [0] rfl
  refine va_callv (va_runI (As := [.int x, .int y, .int z, .int u0]) (rest := []) ⟨hx, hb, hml, hown, hts⟩ (c_h4_X10 l dC dI a0 x y z u0 H.size) (cwI 4 hts ggX10_init_X4_init rfl rfl rfl (hts (.initialized RX4) kc_h10_X10_0) (hts (.methodLink RX10 3 yX4_init) kc_h10_X10_1) (hts (.instanceMethod yX4_init) kc_h10_X10_2) rfl (by decide +kernel) ⟨Nat.le_of_ble_eq_true rfl, Nat.le_of_ble_eq_true rfl⟩) ⟨fun a U g mk q => by obtain ⟨q0, q1, qP, qK, qD⟩ := q; exact ⟨q0, q1, qP, va_K.moved (u := U) (U := U.calling g mk a) (Vm.Alike.refl U.vm) qK, qD⟩, fun U hU hW => ⟨rfl, by rw [hU], by rw [hU]; exact hPc, va_K.moved hW.alike hKc, hDc.weaken (fun _ _ _ _ => trivial)⟩⟩ rfl rfl hl.1 rfl (lv_room (Nat.le_of_ble_eq_true rfl)) dX10_init_6 ⟨Nat.le_of_ble_eq_true rfl, Nat.le_of_ble_eq_true rfl⟩) hS (fun q _ h => hFc q h) hFc (fun u tC H1 locs htC hvm hw_2 hB hz1 hk1 hS => ?_)
  obtain ⟨⟩ := u
  try dsimp only at hw_2 hB
  obtain ⟨hP1, hK1, hD1⟩ := hB
  rw [htC] at hP1
  have hK1 := va_K.moved hvm.symm hK1
  obtain ⟨hP, hD⟩ := va_join (wr := []) (w1 := [(zo12iiii a0 x y z u0)]) hP hD [0] [] rfl rfl (by decide) (by decide) hk1 hFc hP1 hD1
  have hK := (hK.sub (tys' := []) [] rfl).app hK1
  generalize H1 = H at hP hS ⊢
  have hP : va_P (dC, dI) vwCl [(zo12iiii a0 x y z u0)] H := hP
  have hD : va_D A [(zo12iiii a0 x y z u0)] := hD
  have hK : va_K (dC, dI) vwCl [] s := hK
  rw [hQ]
  have hP9 := hP.sub (ws' := [(zo12iiii a0 x y z u0)]) [0] rfl
  have hD9 := hD.sub (ws' := [(zo12iiii a0 x y z u0)]) [0] (by decide) rfl
  have hK9 := hK.sub (tys' := []) [] rfl
  exact W.vret hx hb hr (fun tQ htQ hWQ => ⟨⟨(), rfl, trivial, by rw [htQ]; exact hP9, va_K.moved hWQ.alike hK9, hD9⟩, hS.F htQ⟩) hS.2.2 dX10_init_9

theorem kc_h9_X9_0 : (.initialized RX6 : Cond) ∈ wsX9_init := kc_of 82 rfl rfl rfl
theorem kc_h9_X9_1 : (.methodLink RX9 1 yX6_init : Cond) ∈ wsX9_init := kc_of 606 rfl rfl rfl
theorem kc_h9_X9_2 : (.instanceMethod yX6_init : Cond) ∈ wsX9_init := kc_of 571 rfl rfl rfl
set_option maxHeartbeats 4000000 in
set_option maxRecDepth 100000 in
theorem c_h9_X9 (l : Launch) (dC : Nat → ClassId) (dI : Nat → Nat → Nat) (a0 : Nat) (x y z u0 : Int32) (sz : Nat) : Met l yX9_init wsX9_init ({ frames := 3, cells := 0, slots := 0, locals := 60 } : Room) (va_Pc [.ref a0, .int x, .int y, .int z, .int u0] (fun U => U.heap.size = sz ∧ va_P (dC, dI) vwCl [(zo11iiii a0 0 0 0 0)] U.heap ∧ va_K (dC, dI) vwCl [] U ∧ va_D (fun _ => True) [(zo11iiii a0 0 0 0 0)])) (va_Qv (fun (u : Unit) => match u with | () => True) (fun (u : Unit) (t : State) => match u with | () => va_P (dC, dI) vwCl [(zo11iiii a0 x y z u0)] t.heap ∧ va_K (dC, dI) vwCl [] t ∧ va_D (va_A [(zo11iiii a0 0 0 0 0)] sz) [(zo11iiii a0 x y z u0)]) (va_A [(zo11iiii a0 0 0 0 0)] sz)) 0 0 (va_A [(zo11iiii a0 0 0 0 0)] sz) := by
  refine met_ofQ (cc := cX9_init) (maxL := 5) (ret := none) (by decide) rfl ?_
  intro p e s m args below meth c s₁ Q B hml hv hQ
  obtain ⟨rfl, hsz, hP, hK, hD0⟩ := hv
  have hx := B.exec
  have hb := B.bytes
  have hr := B.returns
  have hts := atoms_spec (ws := wsX9_init) B.pre
  have hown : s.vm.findClass RX9 = some m.cls := findClass_of_methodNamed B.named
  have hlocks := B.notSynchronized
  have hin : meth.name = "<init>" := (name_of_methodNamed B.named B.method).1
  subst hsz
  have hD := hD0.self (sz := s.heap.size)
  generalize hAe : va_A [(zo11iiii a0 0 0 0 0)] s.heap.size = A at hD hQ ⊢
  have hA : ∀ q : Nat, s.heap.size ≤ q → A q := fun q h => by rw [← hAe]; exact Or.inr h
  have hS : va_S A s.heap s.heap [] := va_S.rf
  have hl := lv_entry [.ref a0, .int x, .int y, .int z, .int u0] (n := 5) (Nat.le_of_ble_eq_true rfl)
  rw [lg_entry_eq]
  generalize (lg_sl [.ref a0, .int x, .int y, .int z, .int u0] ++ List.replicate (5 - (lg_sl [.ref a0, .int x, .int y, .int z, .int u0]).length) Slot.unset).toArray = ls at hl ⊢
  generalize hag : ([.ref a0, .int x, .int y, .int z, .int u0] : List Value).toArray = args at hts hQ ⊢
  have hl : lv_has ls 5 [(0, .ref a0), (1, .int x), (2, .int y), (3, .int z), (4, .int u0)] := hl
  obtain ⟨H, hH⟩ : ∃ H : Heap, H = s.heap := ⟨_, rfl⟩
  rw [← hH] at hP
  rw [← hH]
  have hS : va_S A s.heap H [] := by rw [hH]; exact hS
  obtain ⟨locs, hlo⟩ : ∃ L : List Loc, L = [] := ⟨_, rfl⟩
  rw [← hlo] at hS
  rw [← hlo]
  clear hH hlo
  refine lv_aload_n hx hb dX9_init_0 rfl (lv_at hl 0 rfl) ?_
  refine lv_iload_n hx hb dX9_init_1 rfl (lv_at hl 1 rfl) ?_
  refine lv_iload_n hx hb dX9_init_2 rfl (lv_at hl 2 rfl) ?_
  refine lv_iload_n hx hb dX9_init_3 rfl (lv_at hl 3 rfl) ?_
  refine lv_iload hx hb dX9_init_4 (lv_at hl 4 rfl) ?_
  have hPc := hP.sub (ws' := [(zo11iiii a0 0 0 0 0)]) [0] rfl
  have hDc := hD.sub (ws' := [(zo11iiii a0 0 0 0 0)]) [0] (by decide) rfl
  have hKc := hK.sub (tys' := []) [] rfl
  have hFc := va_free (wc := [(zo11iiii a0 0 0 0 0)]) hD hS hA [0] rfl
  refine va_callv (va_runI (As := [.int x, .int y, .int z, .int u0]) (rest := []) ⟨hx, hb, hml, hown, hts⟩ (c_h6_X9 l dC dI a0 x y z u0 H.size) (cwI 4 hts ggX9_init_X6_init rfl rfl rfl (hts (.initialized RX6) kc_h9_X9_0) (hts (.methodLink RX9 1 yX6_init) kc_h9_X9_1) (hts (.instanceMethod yX6_init) kc_h9_X9_2) rfl (by decide +kernel) ⟨Nat.le_of_ble_eq_true rfl, Nat.le_of_ble_eq_true rfl⟩) ⟨fun a U g mk q => by obtain ⟨q0, q1, qP, qK, qD⟩ := q; exact ⟨q0, q1, qP, va_K.moved (u := U) (U := U.calling g mk a) (Vm.Alike.refl U.vm) qK, qD⟩, fun U hU hW => ⟨rfl, by rw [hU], by rw [hU]; exact hPc, va_K.moved hW.alike hKc, hDc.weaken (fun _ _ _ _ => trivial)⟩⟩ rfl rfl hl.1 rfl (lv_room (Nat.le_of_ble_eq_true rfl)) dX9_init_6 ⟨Nat.le_of_ble_eq_true rfl, Nat.le_of_ble_eq_true rfl⟩) hS (fun q _ h => hFc q h) hFc (fun u tC H1 locs htC hvm hw_2 hB hz1 hk1 hS => ?_)
  obtain ⟨⟩ := u
  try dsimp only at hw_2 hB
  obtain ⟨hP1, hK1, hD1⟩ := hB
  rw [htC] at hP1
  have hK1 := va_K.moved hvm.symm hK1
  obtain ⟨hP, hD⟩ := va_join (wr := []) (w1 := [(zo11iiii a0 x y z u0)]) hP hD [0] [] rfl rfl (by decide) (by decide) hk1 hFc hP1 hD1
  have hK := (hK.sub (tys' := []) [] rfl).app hK1
  generalize H1 = H at hP hS ⊢
  have hP : va_P (dC, dI) vwCl [(zo11iiii a0 x y z u0)] H := hP
  have hD : va_D A [(zo11iiii a0 x y z u0)] := hD
  have hK : va_K (dC, dI) vwCl [] s := hK
  rw [hQ]
  have hP9 := hP.sub (ws' := [(zo11iiii a0 x y z u0)]) [0] rfl
  have hD9 := hD.sub (ws' := [(zo11iiii a0 x y z u0)]) [0] (by decide) rfl
  have hK9 := hK.sub (tys' := []) [] rfl
  exact W.vret hx hb hr (fun tQ htQ hWQ => ⟨⟨(), rfl, trivial, by rw [htQ]; exact hP9, va_K.moved hWQ.alike hK9, hD9⟩, hS.F htQ⟩) hS.2.2 dX9_init_9

theorem kc_h7_X7_0 : (.initialized RX1 : Cond) ∈ wsX7_init := kc_of 83 rfl rfl rfl
theorem kc_h7_X7_1 : (.methodLink RX7 1 yX1_init : Cond) ∈ wsX7_init := kc_of 617 rfl rfl rfl
theorem kc_h7_X7_2 : (.instanceMethod yX1_init : Cond) ∈ wsX7_init := kc_of 582 rfl rfl rfl
set_option maxHeartbeats 4000000 in
set_option maxRecDepth 100000 in
theorem c_h7_X7 (l : Launch) (dC : Nat → ClassId) (dI : Nat → Nat → Nat) (a0 : Nat) (x y z u0 : Int32) (sz : Nat) : Met l yX7_init wsX7_init ({ frames := 3, cells := 0, slots := 0, locals := 60 } : Room) (va_Pc [.ref a0, .int x, .int y, .int z, .int u0] (fun U => U.heap.size = sz ∧ va_P (dC, dI) vwCl [(zo9iiii a0 0 0 0 0)] U.heap ∧ va_K (dC, dI) vwCl [] U ∧ va_D (fun _ => True) [(zo9iiii a0 0 0 0 0)])) (va_Qv (fun (u : Unit) => match u with | () => True) (fun (u : Unit) (t : State) => match u with | () => va_P (dC, dI) vwCl [(zo9iiii a0 x y z u0)] t.heap ∧ va_K (dC, dI) vwCl [] t ∧ va_D (va_A [(zo9iiii a0 0 0 0 0)] sz) [(zo9iiii a0 x y z u0)]) (va_A [(zo9iiii a0 0 0 0 0)] sz)) 0 0 (va_A [(zo9iiii a0 0 0 0 0)] sz) := by
  refine met_ofQ (cc := cX7_init) (maxL := 5) (ret := none) (by decide) rfl ?_
  intro p e s m args below meth c s₁ Q B hml hv hQ
  obtain ⟨rfl, hsz, hP, hK, hD0⟩ := hv
  have hx := B.exec
  have hb := B.bytes
  have hr := B.returns
  have hts := atoms_spec (ws := wsX7_init) B.pre
  have hown : s.vm.findClass RX7 = some m.cls := findClass_of_methodNamed B.named
  have hlocks := B.notSynchronized
  have hin : meth.name = "<init>" := (name_of_methodNamed B.named B.method).1
  subst hsz
  have hD := hD0.self (sz := s.heap.size)
  generalize hAe : va_A [(zo9iiii a0 0 0 0 0)] s.heap.size = A at hD hQ ⊢
  have hA : ∀ q : Nat, s.heap.size ≤ q → A q := fun q h => by rw [← hAe]; exact Or.inr h
  have hS : va_S A s.heap s.heap [] := va_S.rf
  have hl := lv_entry [.ref a0, .int x, .int y, .int z, .int u0] (n := 5) (Nat.le_of_ble_eq_true rfl)
  rw [lg_entry_eq]
  generalize (lg_sl [.ref a0, .int x, .int y, .int z, .int u0] ++ List.replicate (5 - (lg_sl [.ref a0, .int x, .int y, .int z, .int u0]).length) Slot.unset).toArray = ls at hl ⊢
  generalize hag : ([.ref a0, .int x, .int y, .int z, .int u0] : List Value).toArray = args at hts hQ ⊢
  have hl : lv_has ls 5 [(0, .ref a0), (1, .int x), (2, .int y), (3, .int z), (4, .int u0)] := hl
  obtain ⟨H, hH⟩ : ∃ H : Heap, H = s.heap := ⟨_, rfl⟩
  rw [← hH] at hP
  rw [← hH]
  have hS : va_S A s.heap H [] := by rw [hH]; exact hS
  obtain ⟨locs, hlo⟩ : ∃ L : List Loc, L = [] := ⟨_, rfl⟩
  rw [← hlo] at hS
  rw [← hlo]
  clear hH hlo
  refine lv_aload_n hx hb dX7_init_0 rfl (lv_at hl 0 rfl) ?_
  refine lv_iload_n hx hb dX7_init_1 rfl (lv_at hl 1 rfl) ?_
  refine lv_iload_n hx hb dX7_init_2 rfl (lv_at hl 2 rfl) ?_
  refine lv_iload_n hx hb dX7_init_3 rfl (lv_at hl 3 rfl) ?_
  refine lv_iload hx hb dX7_init_4 (lv_at hl 4 rfl) ?_
  have hPc := hP.sub (ws' := [(zo9iiii a0 0 0 0 0)]) [0] rfl
  have hDc := hD.sub (ws' := [(zo9iiii a0 0 0 0 0)]) [0] (by decide) rfl
  have hKc := hK.sub (tys' := []) [] rfl
  have hFc := va_free (wc := [(zo9iiii a0 0 0 0 0)]) hD hS hA [0] rfl
  refine va_callv (va_runI (As := [.int x, .int y, .int z, .int u0]) (rest := []) ⟨hx, hb, hml, hown, hts⟩ (c_h1_X7 l dC dI a0 x y z u0 H.size) (cwI 4 hts ggX7_init_X1_init rfl rfl rfl (hts (.initialized RX1) kc_h7_X7_0) (hts (.methodLink RX7 1 yX1_init) kc_h7_X7_1) (hts (.instanceMethod yX1_init) kc_h7_X7_2) rfl (by decide +kernel) ⟨Nat.le_of_ble_eq_true rfl, Nat.le_of_ble_eq_true rfl⟩) ⟨fun a U g mk q => by obtain ⟨q0, q1, qP, qK, qD⟩ := q; exact ⟨q0, q1, qP, va_K.moved (u := U) (U := U.calling g mk a) (Vm.Alike.refl U.vm) qK, qD⟩, fun U hU hW => ⟨rfl, by rw [hU], by rw [hU]; exact hPc, va_K.moved hW.alike hKc, hDc.weaken (fun _ _ _ _ => trivial)⟩⟩ rfl rfl hl.1 rfl (lv_room (Nat.le_of_ble_eq_true rfl)) dX7_init_6 ⟨Nat.le_of_ble_eq_true rfl, Nat.le_of_ble_eq_true rfl⟩) hS (fun q _ h => hFc q h) hFc (fun u tC H1 locs htC hvm hw_2 hB hz1 hk1 hS => ?_)
  obtain ⟨⟩ := u
  try dsimp only at hw_2 hB
  obtain ⟨hP1, hK1, hD1⟩ := hB
  rw [htC] at hP1
  have hK1 := va_K.moved hvm.symm hK1
  obtain ⟨hP, hD⟩ := va_join (wr := []) (w1 := [(zo9iiii a0 x y z u0)]) hP hD [0] [] rfl rfl (by decide) (by decide) hk1 hFc hP1 hD1
  have hK := (hK.sub (tys' := []) [] rfl).app hK1
  generalize H1 = H at hP hS ⊢
  have hP : va_P (dC, dI) vwCl [(zo9iiii a0 x y z u0)] H := hP
  have hD : va_D A [(zo9iiii a0 x y z u0)] := hD
  have hK : va_K (dC, dI) vwCl [] s := hK
  rw [hQ]
  have hP9 := hP.sub (ws' := [(zo9iiii a0 x y z u0)]) [0] rfl
  have hD9 := hD.sub (ws' := [(zo9iiii a0 x y z u0)]) [0] (by decide) rfl
  have hK9 := hK.sub (tys' := []) [] rfl
  exact W.vret hx hb hr (fun tQ htQ hWQ => ⟨⟨(), rfl, trivial, by rw [htQ]; exact hP9, va_K.moved hWQ.alike hK9, hD9⟩, hS.F htQ⟩) hS.2.2 dX7_init_9

theorem kc_goingsInit_0 : (.methodLink RX2 3 objectInit : Cond) ∈ wsX2_init := kc_of 221 rfl rfl rfl
theorem kc_goingsInit_1 : (.instanceMethod objectInit : Cond) ∈ wsX2_init := kc_of 99 rfl rfl rfl
theorem kc_goingsInit_2 : (.code objectInit ⟨#[0xb1]⟩ 1 none : Cond) ∈ wsX2_init := kc_of 100 rfl rfl rfl
theorem kc_goingsInit_3 : (.arrayClass .int : Cond) ∈ wsX2_init := kc_of 149 rfl rfl rfl
theorem kc_goingsInit_4 : ∀ w ∈ wsX20, w ∈ wsX2_init := fun w h => List.mem_cons_of_mem _ (gin_wsX20 w h)
theorem kc_goingsInit_5 : (.fieldLink RX2 9 "MistHeaps$Goings" "reach" "[I" : Cond) ∈ wsX2_init := kc_of 261 rfl rfl rfl
theorem kc_goingsInit_6 : (.fieldLink RX2 15 "MistHeaps$Goings" "onward" "[I" : Cond) ∈ wsX2_init := kc_of 262 rfl rfl rfl
theorem kc_goingsInit_7 : ∀ w ∈ wsX30, w ∈ wsX2_init := fun w h => List.mem_cons_of_mem _ (gin_wsX30 w h)
theorem kc_goingsInit_8 : (.classLink RX2 18 RX3 : Cond) ∈ wsX2_init := kc_of 222 rfl rfl rfl
theorem kc_goingsInit_9 : (.instantiable RX3 4 : Cond) ∈ wsX2_init := kc_of 223 rfl rfl rfl
theorem kc_goingsInit_10 : (.initialized RX3 : Cond) ∈ wsX2_init := kc_of 67 rfl rfl rfl
theorem kc_goingsInit_11 : (.methodLink RX2 20 yX3_init : Cond) ∈ wsX2_init := kc_of 224 rfl rfl rfl
theorem kc_goingsInit_12 : (.instanceMethod yX3_init : Cond) ∈ wsX2_init := kc_of 225 rfl rfl rfl
theorem kc_goingsInit_13 : (.fieldLink RX2 23 "MistHeaps$Goings" "spare" "LMistHeaps$Heap;" : Cond) ∈ wsX2_init := kc_of 264 rfl rfl rfl
set_option maxHeartbeats 4000000 in
set_option maxRecDepth 100000 in
theorem c_goingsInit (l : Launch) (dC : Nat → ClassId) (dI : Nat → Nat → Nat) (a0 : Nat) (sz : Nat) : Met l yX2_init wsX2_init ({ frames := 2, cells := 3, slots := 20, locals := 36 } : Room) (va_Pc [.ref a0] (fun U => U.heap.size = sz ∧ va_P (dC, dI) vwCl [(zo4nnin a0 0)] U.heap ∧ va_K (dC, dI) vwCl [] U ∧ va_D (fun _ => True) [(zo4nnin a0 0)])) (va_Qv (fun (u : Unit) => match u with | () => True) (fun (u : Unit) (t : State) => match u with | () => ∃ gR : Nat, ∃ gO : Nat, ∃ gS : Nat, ∃ cR : ClassId, ∃ cO : ClassId, va_P (dC, dI) vwCl [(zo4rrir a0 gR gO 0 gS), (zaI gR cR 8 (fun _ => 0)), (zaI gO cO 8 (fun _ => 0)), (zo5iiii gS 0 0 0 0)] t.heap ∧ va_K (dC, dI) vwCl [(cR, .int), (cO, .int)] t ∧ va_D (va_A [(zo4nnin a0 0)] sz) [(zo4rrir a0 gR gO 0 gS), (zaI gR cR 8 (fun _ => 0)), (zaI gO cO 8 (fun _ => 0)), (zo5iiii gS 0 0 0 0)]) (va_A [(zo4nnin a0 0)] sz)) 3 20 (va_A [(zo4nnin a0 0)] sz) := by
  refine met_ofQ (cc := cX2_init) (maxL := 1) (ret := none) (by decide) rfl ?_
  intro p e s m args below meth c s₁ Q B hml hv hQ
  obtain ⟨rfl, hsz, hP, hK, hD0⟩ := hv
  have hx := B.exec
  have hb := B.bytes
  have hr := B.returns
  have hts := atoms_spec (ws := wsX2_init) B.pre
  have hown : s.vm.findClass RX2 = some m.cls := findClass_of_methodNamed B.named
  have hlocks := B.notSynchronized
  have hin : meth.name = "<init>" := (name_of_methodNamed B.named B.method).1
  subst hsz
  have hD := hD0.self (sz := s.heap.size)
  generalize hAe : va_A [(zo4nnin a0 0)] s.heap.size = A at hD hQ ⊢
  have hA : ∀ q : Nat, s.heap.size ≤ q → A q := fun q h => by rw [← hAe]; exact Or.inr h
  have hS : va_S A s.heap s.heap [] := va_S.rf
  have hl := lv_entry [.ref a0] (n := 1) (Nat.le_of_ble_eq_true rfl)
  rw [lg_entry_eq]
  generalize (lg_sl [.ref a0] ++ List.replicate (1 - (lg_sl [.ref a0]).length) Slot.unset).toArray = ls at hl ⊢
  generalize hag : ([.ref a0] : List Value).toArray = args at hts hQ ⊢
  have hl : lv_has ls 1 [(0, .ref a0)] := hl
  obtain ⟨H, hH⟩ : ∃ H : Heap, H = s.heap := ⟨_, rfl⟩
  rw [← hH] at hP
  rw [← hH]
  have hS : va_S A s.heap H [] := by rw [hH]; exact hS
  obtain ⟨locs, hlo⟩ : ∃ L : List Loc, L = [] := ⟨_, rfl⟩
  rw [← hlo] at hS
  rw [← hlo]
  clear hH hlo
  refine lv_aload_n hx hb dX2_init_0 rfl (lv_at hl 0 rfl) ?_
  refine W.objInit hx hb hown (hts (.methodLink RX2 3 objectInit) kc_goingsInit_0) (hts (.instanceMethod objectInit) kc_goingsInit_1) (hts (.code objectInit ⟨#[0xb1]⟩ 1 none) kc_goingsInit_2) rfl (by rw [hml]; exact hl.1) rfl dX2_init_1 (Nat.le_of_ble_eq_true rfl) (Nat.le_of_ble_eq_true rfl) ?_
  refine W.eq (g2 := F0 m 4 ls []) rfl ?_
  refine lv_aload_n hx hb dX2_init_4 rfl (lv_at hl 0 rfl) ?_
  refine lv_bipush (v := 8) hx hb dX2_init_5 (by decide) ?_
  refine va_newa (atype := .int) (ty := .int) (N' := 8) (a0 := (8, .inl (fun _ => 0))) hx hb (hts (.arrayClass .int) kc_goingsInit_3) rfl hK hP hD hS hA (fun _ => rfl) (by decide) (by decide) (by decide) (Nat.le_of_ble_eq_true rfl) (Nat.le_of_ble_eq_true rfl) dX2_init_7 (fun q_1 ca_2 H hK hP hD hS => ?_)
  have hP : va_P (dC, dI) vwCl [(zo4nnin a0 0), (zaI q_1 ca_2 8 (fun _ => 0))] H := hP
  have hD : va_D A [(zo4nnin a0 0), (zaI q_1 ca_2 8 (fun _ => 0))] := hD
  have hK : va_K (dC, dI) vwCl [(ca_2, .int)] s := hK
  refine W.widen (k := 1) (n := 8) (by omega) (by omega) ?_
  refine va_putF (D := (dC, dI)) (ci := 4) (v := .ref q_1) (ty := .array .int) (C := RX2) (T := TX2) (N := 4) hx hb hts kc_goingsInit_4 tyX2 tyX2_ok nmX2 hown hK hP hD hS 0 rfl rfl 0 (by decide) (hts (.fieldLink RX2 9 "MistHeaps$Goings" "reach" "[I") kc_goingsInit_5) (fun _ h9 => h9) rfl hin rfl (by decide +kernel) rfl rfl (Nat.le_of_ble_eq_true rfl) dX2_init_9 (fun H locs hP hD hS => ?_)
  have hP : va_P (dC, dI) vwCl [(zo4rnin a0 q_1 0), (zaI q_1 ca_2 8 (fun _ => 0))] H := hP
  have hD : va_D A [(zo4rnin a0 q_1 0), (zaI q_1 ca_2 8 (fun _ => 0))] := hD
  refine lv_aload_n hx hb dX2_init_12 rfl (lv_at hl 0 rfl) ?_
  refine lv_bipush (v := 8) hx hb dX2_init_13 (by decide) ?_
  refine va_newa (atype := .int) (ty := .int) (N' := 8) (a0 := (8, .inl (fun _ => 0))) hx hb (hts (.arrayClass .int) kc_goingsInit_3) rfl hK hP hD hS hA (fun _ => rfl) (by decide) (by decide) (by decide) (Nat.le_of_ble_eq_true rfl) (Nat.le_of_ble_eq_true rfl) dX2_init_15 (fun q_3 ca_4 H hK hP hD hS => ?_)
  have hP : va_P (dC, dI) vwCl [(zo4rnin a0 q_1 0), (zaI q_1 ca_2 8 (fun _ => 0)), (zaI q_3 ca_4 8 (fun _ => 0))] H := hP
  have hD : va_D A [(zo4rnin a0 q_1 0), (zaI q_1 ca_2 8 (fun _ => 0)), (zaI q_3 ca_4 8 (fun _ => 0))] := hD
  have hK : va_K (dC, dI) vwCl [(ca_2, .int), (ca_4, .int)] s := hK
  refine W.widen (k := 2) (n := 16) (by omega) (by omega) ?_
  refine va_putF (D := (dC, dI)) (ci := 4) (v := .ref q_3) (ty := .array .int) (C := RX2) (T := TX2) (N := 4) hx hb hts kc_goingsInit_4 tyX2 tyX2_ok nmX2 hown hK hP hD hS 0 rfl rfl 1 (by decide) (hts (.fieldLink RX2 15 "MistHeaps$Goings" "onward" "[I") kc_goingsInit_6) (fun _ h9 => h9) rfl hin rfl (by decide +kernel) rfl rfl (Nat.le_of_ble_eq_true rfl) dX2_init_17 (fun H locs hP hD hS => ?_)
  have hP : va_P (dC, dI) vwCl [(zo4rrin a0 q_1 q_3 0), (zaI q_1 ca_2 8 (fun _ => 0)), (zaI q_3 ca_4 8 (fun _ => 0))] H := hP
  have hD : va_D A [(zo4rrin a0 q_1 q_3 0), (zaI q_1 ca_2 8 (fun _ => 0)), (zaI q_3 ca_4 8 (fun _ => 0))] := hD
  refine lv_aload_n hx hb dX2_init_20 rfl (lv_at hl 0 rfl) ?_
  refine va_new (ci := 5) (fs := [.int 0, .int 0, .int 0, .int 0]) (C := RX3) (T := TX3) (N := 4) hx hb hts kc_goingsInit_7 tyX3 tyX3_ok hown (hts (.classLink RX2 18 RX3) kc_goingsInit_8) (hts (.instantiable RX3 4) kc_goingsInit_9) (hts (.initialized RX3) kc_goingsInit_10) hK hP hD hS hA rfl (fun j hj => by rcases (show j = 0 ∨ j = 1 ∨ j = 2 ∨ j = 3 by omega) with rfl | rfl | rfl | rfl <;> rfl) (Nat.le_of_ble_eq_true rfl) (Nat.le_of_ble_eq_true rfl) dX2_init_21 (fun q_5 H hP hD hS => ?_)
  have hP : va_P (dC, dI) vwCl [(zo4rrin a0 q_1 q_3 0), (zaI q_1 ca_2 8 (fun _ => 0)), (zaI q_3 ca_4 8 (fun _ => 0)), (zo5iiii q_5 0 0 0 0)] H := hP
  have hD : va_D A [(zo4rrin a0 q_1 q_3 0), (zaI q_1 ca_2 8 (fun _ => 0)), (zaI q_3 ca_4 8 (fun _ => 0)), (zo5iiii q_5 0 0 0 0)] := hD
  refine W.widen (k := 3) (n := 20) (by omega) (by omega) ?_
  refine lv_dup hx hb dX2_init_24 rfl ?_
  refine lv_iconst (v := 0) hx hb dX2_init_25 (by decide) ?_
  refine lv_iconst (v := 0) hx hb dX2_init_26 (by decide) ?_
  refine lv_iconst (v := 0) hx hb dX2_init_27 (by decide) ?_
  refine lv_iconst (v := 0) hx hb dX2_init_28 (by decide) ?_
  have hPc := hP.sub (ws' := [(zo5iiii q_5 0 0 0 0)]) [3] rfl
  have hDc := hD.sub (ws' := [(zo5iiii q_5 0 0 0 0)]) [3] (by decide) rfl
  have hKc := hK.sub (tys' := []) [] rfl
  have hFc := va_free (wc := [(zo5iiii q_5 0 0 0 0)]) hD hS hA [3] rfl
  refine va_callv (va_runI (As := [.int 0, .int 0, .int 0, .int 0]) (rest := [.ref q_5, .ref a0]) ⟨hx, hb, hml, hown, hts⟩ (c_h3_X3 l dC dI q_5 0 0 0 0 H.size) (cwI 4 hts ggX2_init_X3_init rfl rfl rfl (hts (.initialized RX3) kc_goingsInit_10) (hts (.methodLink RX2 20 yX3_init) kc_goingsInit_11) (hts (.instanceMethod yX3_init) kc_goingsInit_12) rfl (by decide +kernel) ⟨Nat.le_of_ble_eq_true rfl, Nat.le_of_ble_eq_true rfl⟩) ⟨fun a U g mk q => by obtain ⟨q0, q1, qP, qK, qD⟩ := q; exact ⟨q0, q1, qP, va_K.moved (u := U) (U := U.calling g mk a) (Vm.Alike.refl U.vm) qK, qD⟩, fun U hU hW => ⟨rfl, by rw [hU], by rw [hU]; exact hPc, va_K.moved hW.alike hKc, hDc.weaken (fun _ _ _ _ => trivial)⟩⟩ rfl rfl hl.1 rfl (lv_room (Nat.le_of_ble_eq_true rfl)) dX2_init_29 ⟨Nat.le_of_ble_eq_true rfl, Nat.le_of_ble_eq_true rfl⟩) hS (fun q _ h => hFc q h) hFc (fun u tC H1 locs htC hvm hw_7 hB hz1 hk1 hS => ?_)
  obtain ⟨⟩ := u
  try dsimp only at hw_7 hB
  obtain ⟨hP1, hK1, hD1⟩ := hB
  rw [htC] at hP1
  have hK1 := va_K.moved hvm.symm hK1
  obtain ⟨hP, hD⟩ := va_join (wr := [(zo4rrin a0 q_1 q_3 0), (zaI q_1 ca_2 8 (fun _ => 0)), (zaI q_3 ca_4 8 (fun _ => 0))]) (w1 := [(zo5iiii q_5 0 0 0 0)]) hP hD [3] [0, 1, 2] rfl rfl (by decide) (by decide) hk1 hFc hP1 hD1
  have hK := (hK.sub (tys' := [(ca_2, .int), (ca_4, .int)]) [0, 1] rfl).app hK1
  generalize H1 = H at hP hS ⊢
  have hP : va_P (dC, dI) vwCl [(zo4rrin a0 q_1 q_3 0), (zaI q_1 ca_2 8 (fun _ => 0)), (zaI q_3 ca_4 8 (fun _ => 0)), (zo5iiii q_5 0 0 0 0)] H := hP
  have hD : va_D A [(zo4rrin a0 q_1 q_3 0), (zaI q_1 ca_2 8 (fun _ => 0)), (zaI q_3 ca_4 8 (fun _ => 0)), (zo5iiii q_5 0 0 0 0)] := hD
  have hK : va_K (dC, dI) vwCl [(ca_2, .int), (ca_4, .int)] s := hK
  refine va_putF (D := (dC, dI)) (ci := 4) (v := .ref q_5) (ty := .object "MistHeaps$Heap") (C := RX2) (T := TX2) (N := 4) hx hb hts kc_goingsInit_4 tyX2 tyX2_ok nmX2 hown hK hP hD hS 0 rfl rfl 3 (by decide) (hts (.fieldLink RX2 23 "MistHeaps$Goings" "spare" "LMistHeaps$Heap;") kc_goingsInit_13) (fun _ h9 => h9) rfl hin rfl (by decide +kernel) rfl rfl (Nat.le_of_ble_eq_true rfl) dX2_init_32 (fun H locs hP hD hS => ?_)
  have hP : va_P (dC, dI) vwCl [(zo4rrir a0 q_1 q_3 0 q_5), (zaI q_1 ca_2 8 (fun _ => 0)), (zaI q_3 ca_4 8 (fun _ => 0)), (zo5iiii q_5 0 0 0 0)] H := hP
  have hD : va_D A [(zo4rrir a0 q_1 q_3 0 q_5), (zaI q_1 ca_2 8 (fun _ => 0)), (zaI q_3 ca_4 8 (fun _ => 0)), (zo5iiii q_5 0 0 0 0)] := hD
  rw [hQ]
  have hP9 := hP.sub (ws' := [(zo4rrir a0 q_1 q_3 0 q_5), (zaI q_1 ca_2 8 (fun _ => 0)), (zaI q_3 ca_4 8 (fun _ => 0)), (zo5iiii q_5 0 0 0 0)]) [0, 1, 2, 3] rfl
  have hD9 := hD.sub (ws' := [(zo4rrir a0 q_1 q_3 0 q_5), (zaI q_1 ca_2 8 (fun _ => 0)), (zaI q_3 ca_4 8 (fun _ => 0)), (zo5iiii q_5 0 0 0 0)]) [0, 1, 2, 3] (by decide) rfl
  have hK9 := hK.sub (tys' := [(ca_2, .int), (ca_4, .int)]) [0, 1] rfl
  exact W.vret hx hb hr (fun tQ htQ hWQ => ⟨⟨(), rfl, trivial, q_1, q_3, q_5, ca_2, ca_4, by rw [htQ]; exact hP9, va_K.moved hWQ.alike hK9, hD9⟩, hS.F htQ⟩) hS.2.2 dX2_init_35

theorem kc_chancesInit_0 : (.methodLink RX0 3 objectInit : Cond) ∈ wsX0_init := kc_of 279 rfl rfl rfl
theorem kc_chancesInit_1 : (.instanceMethod objectInit : Cond) ∈ wsX0_init := kc_of 99 rfl rfl rfl
theorem kc_chancesInit_2 : (.code objectInit ⟨#[0xb1]⟩ 1 none : Cond) ∈ wsX0_init := kc_of 100 rfl rfl rfl
theorem kc_chancesInit_3 : (.arrayClass .int : Cond) ∈ wsX0_init := kc_of 149 rfl rfl rfl
theorem kc_chancesInit_4 : ∀ w ∈ wsX00, w ∈ wsX0_init := fun w h => List.mem_cons_of_mem _ (gin_wsX00 w h)
theorem kc_chancesInit_5 : (.fieldLink RX0 9 "MistHeaps$Chances" "drifts" "[I" : Cond) ∈ wsX0_init := kc_of 287 rfl rfl rfl
theorem kc_chancesInit_6 : (.arrayClass .long : Cond) ∈ wsX0_init := kc_of 301 rfl rfl rfl
theorem kc_chancesInit_7 : (.classLink RX0 15 "[[J" : Cond) ∈ wsX0_init := kc_of 280 rfl rfl rfl
theorem kc_chancesInit_8 : (.fieldLink RX0 17 "MistHeaps$Chances" "times" "[[J" : Cond) ∈ wsX0_init := kc_of 288 rfl rfl rfl
theorem kc_chancesInit_9 : (.classLink RX0 20 "[[I" : Cond) ∈ wsX0_init := kc_of 282 rfl rfl rfl
theorem kc_chancesInit_10 : (.fieldLink RX0 22 "MistHeaps$Chances" "hits" "[[I" : Cond) ∈ wsX0_init := kc_of 289 rfl rfl rfl
set_option maxHeartbeats 4000000 in
set_option maxRecDepth 100000 in
theorem c_chancesInit (l : Launch) (dC : Nat → ClassId) (dI : Nat → Nat → Nat) (bS : Nat) (a0 : Nat) (sz : Nat) : Met l yX0_init wsX0_init ({ frames := 1, cells := 14, slots := 443, locals := 12 } : Room) (va_Pc [.ref a0] (fun U => U.heap.size = sz ∧ va_P (dC, dI) vwCl [(zo2linnn a0 0 0)] U.heap ∧ va_K (dC, dI) vwCl [] U ∧ va_D (fun _ => True) [(zo2linnn a0 0 0)] ∧ Gc bS (va_A [(zo2linnn a0 0 0)] sz) U)) (va_Qv (fun (u : Unit) => match u with | () => True) (fun (u : Unit) (t : State) => match u with | () => ∃ dr : Nat, ∃ tO : Nat, ∃ hO : Nat, ∃ rt : Nat → Nat, ∃ rh : Nat → Nat, ∃ cD : ClassId, ∃ cTO : ClassId, ∃ cHO : ClassId, ∃ cT : ClassId, ∃ cH : ClassId, va_P (dC, dI) vwCl [(zo2lirrr a0 0 0 dr tO hO), (zaI dr cD 36 (fun _ => 0)), (zaR tO cTO 3 (fun i => if i < 3 then some (rt i) else none)), (zaL (rt 0) cT 36 (fun _ => 0)), (zaL (rt 1) cT 36 (fun _ => 0)), (zaL (rt 2) cT 36 (fun _ => 0)), (zaR hO cHO 8 (fun i => if i < 8 then some (rh i) else none)), (zaI (rh 0) cH 36 (fun _ => 0)), (zaI (rh 1) cH 36 (fun _ => 0)), (zaI (rh 2) cH 36 (fun _ => 0)), (zaI (rh 3) cH 36 (fun _ => 0)), (zaI (rh 4) cH 36 (fun _ => 0)), (zaI (rh 5) cH 36 (fun _ => 0)), (zaI (rh 6) cH 36 (fun _ => 0)), (zaI (rh 7) cH 36 (fun _ => 0))] t.heap ∧ va_K (dC, dI) vwCl [(cD, .int), (cTO, .array .long), (cT, .long), (cT, .long), (cT, .long), (cHO, .array .int), (cH, .int), (cH, .int), (cH, .int), (cH, .int), (cH, .int), (cH, .int), (cH, .int), (cH, .int)] t ∧ va_D (va_A [(zo2linnn a0 0 0)] sz) [(zo2lirrr a0 0 0 dr tO hO), (zaI dr cD 36 (fun _ => 0)), (zaR tO cTO 3 (fun i => if i < 3 then some (rt i) else none)), (zaL (rt 0) cT 36 (fun _ => 0)), (zaL (rt 1) cT 36 (fun _ => 0)), (zaL (rt 2) cT 36 (fun _ => 0)), (zaR hO cHO 8 (fun i => if i < 8 then some (rh i) else none)), (zaI (rh 0) cH 36 (fun _ => 0)), (zaI (rh 1) cH 36 (fun _ => 0)), (zaI (rh 2) cH 36 (fun _ => 0)), (zaI (rh 3) cH 36 (fun _ => 0)), (zaI (rh 4) cH 36 (fun _ => 0)), (zaI (rh 5) cH 36 (fun _ => 0)), (zaI (rh 6) cH 36 (fun _ => 0)), (zaI (rh 7) cH 36 (fun _ => 0))]) (va_A [(zo2linnn a0 0 0)] sz)) 14 443 (va_A [(zo2linnn a0 0 0)] sz) := by
  refine met_ofQ (cc := cX0_init) (maxL := 1) (ret := none) (by decide) rfl ?_
  intro p e s m args below meth c s₁ Q B hml hv hQ
  obtain ⟨rfl, hsz, hP, hK, hD0, hC⟩ := hv
  have hx := B.exec
  have hb := B.bytes
  have hr := B.returns
  have hts := atoms_spec (ws := wsX0_init) B.pre
  have hown : s.vm.findClass RX0 = some m.cls := findClass_of_methodNamed B.named
  have hlocks := B.notSynchronized
  have hin : meth.name = "<init>" := (name_of_methodNamed B.named B.method).1
  subst hsz
  have hD := hD0.self (sz := s.heap.size)
  generalize hAe : va_A [(zo2linnn a0 0 0)] s.heap.size = A at hD hQ hC ⊢
  have hA : ∀ q : Nat, s.heap.size ≤ q → A q := fun q h => by rw [← hAe]; exact Or.inr h
  have hS : va_S A s.heap s.heap [] := va_S.rf
  have hl := lv_entry [.ref a0] (n := 1) (Nat.le_of_ble_eq_true rfl)
  rw [lg_entry_eq]
  generalize (lg_sl [.ref a0] ++ List.replicate (1 - (lg_sl [.ref a0]).length) Slot.unset).toArray = ls at hl ⊢
  generalize hag : ([.ref a0] : List Value).toArray = args at hts hQ ⊢
  have hl : lv_has ls 1 [(0, .ref a0)] := hl
  obtain ⟨H, hH⟩ : ∃ H : Heap, H = s.heap := ⟨_, rfl⟩
  rw [← hH] at hP
  rw [← hH]
  have hS : va_S A s.heap H [] := by rw [hH]; exact hS
  obtain ⟨locs, hlo⟩ : ∃ L : List Loc, L = [] := ⟨_, rfl⟩
  rw [← hlo] at hS
  rw [← hlo]
  clear hH hlo
  refine lv_aload_n hx hb dX0_init_0 rfl (lv_at hl 0 rfl) ?_
  refine W.objInit hx hb hown (hts (.methodLink RX0 3 objectInit) kc_chancesInit_0) (hts (.instanceMethod objectInit) kc_chancesInit_1) (hts (.code objectInit ⟨#[0xb1]⟩ 1 none) kc_chancesInit_2) rfl (by rw [hml]; exact hl.1) rfl dX0_init_1 (Nat.le_of_ble_eq_true rfl) (Nat.le_of_ble_eq_true rfl) ?_
  refine W.eq (g2 := F0 m 4 ls []) rfl ?_
  refine lv_aload_n hx hb dX0_init_4 rfl (lv_at hl 0 rfl) ?_
  refine lv_bipush (v := 36) hx hb dX0_init_5 (by decide) ?_
  refine va_newa (atype := .int) (ty := .int) (N' := 36) (a0 := (36, .inl (fun _ => 0))) hx hb (hts (.arrayClass .int) kc_chancesInit_3) rfl hK hP hD hS hA (fun _ => rfl) (by decide) (by decide) (by decide) (Nat.le_of_ble_eq_true rfl) (Nat.le_of_ble_eq_true rfl) dX0_init_7 (fun q_1 ca_2 H hK hP hD hS => ?_)
  have hP : va_P (dC, dI) vwCl [(zo2linnn a0 0 0), (zaI q_1 ca_2 36 (fun _ => 0))] H := hP
  have hD : va_D A [(zo2linnn a0 0 0), (zaI q_1 ca_2 36 (fun _ => 0))] := hD
  have hK : va_K (dC, dI) vwCl [(ca_2, .int)] s := hK
  refine W.widen (k := 1) (n := 36) (by omega) (by omega) ?_
  refine va_putF (D := (dC, dI)) (ci := 2) (v := .ref q_1) (ty := .array .int) (C := RX0) (T := TX0) (N := 5) hx hb hts kc_chancesInit_4 tyX0 tyX0_ok nmX0 hown hK hP hD hS 0 rfl rfl 2 (by decide) (hts (.fieldLink RX0 9 "MistHeaps$Chances" "drifts" "[I") kc_chancesInit_5) (fun _ h9 => h9) rfl hin rfl (by decide +kernel) rfl rfl (Nat.le_of_ble_eq_true rfl) dX0_init_9 (fun H locs hP hD hS => ?_)
  have hP : va_P (dC, dI) vwCl [(zo2lirnn a0 0 0 q_1), (zaI q_1 ca_2 36 (fun _ => 0))] H := hP
  have hD : va_D A [(zo2lirnn a0 0 0 q_1), (zaI q_1 ca_2 36 (fun _ => 0))] := hD
  refine lv_aload_n hx hb dX0_init_12 rfl (lv_at hl 0 rfl) ?_
  refine lv_iconst (v := 3) hx hb dX0_init_13 (by decide) ?_
  refine lv_bipush (v := 36) hx hb dX0_init_14 (by decide) ?_
  obtain ⟨cy_6, hcy_6, gcy_6⟩ := arr_known (hts (.arrayClass .long) kc_chancesInit_6)
  refine va_mna (X := [(zo2lirnn a0 0 0 q_1), (zaI q_1 ca_2 36 (fun _ => 0))]) (L := []) (f := fun _ => .inl (cy_6, (36, .inr (.inl (fun _ => 0))))) (ty := .long) (cy := cy_6) (z := (36, .inr (.inl (fun _ => 0)))) (N' := 3) (K' := 36) hx hb hown (by rw [show "[" ++ (FieldType.array .long).toString = "[[J" from by decide]; exact (hts (.classLink RX0 15 "[[J") kc_chancesInit_7)) hC.2.1 (hts (.arrayClass .long) kc_chancesInit_6) hcy_6 hK hP hD hS hA (by decide) (by decide) (by decide) (by decide) (by decide) (by decide) (by decide) rfl rfl (Nat.le_of_ble_eq_true rfl) (Nat.le_of_ble_eq_true rfl) (fun cq => arrV_new cq 36 (defaultValue .long)) dX0_init_16 (fun q_3 r_4 ca_5 H _ _ hK hP hD hS => ?_)
  rw [mna_rows] at hP hD
  have hP : va_P (dC, dI) vwCl [(zo2lirnn a0 0 0 q_1), (zaI q_1 ca_2 36 (fun _ => 0)), (zaR q_3 ca_5 3 (fun i => if i < 3 then some (r_4 i) else none)), (zaL (r_4 0) cy_6 36 (fun _ => 0)), (zaL (r_4 1) cy_6 36 (fun _ => 0)), (zaL (r_4 2) cy_6 36 (fun _ => 0))] H := hP
  have hD : va_D A [(zo2lirnn a0 0 0 q_1), (zaI q_1 ca_2 36 (fun _ => 0)), (zaR q_3 ca_5 3 (fun i => if i < 3 then some (r_4 i) else none)), (zaL (r_4 0) cy_6 36 (fun _ => 0)), (zaL (r_4 1) cy_6 36 (fun _ => 0)), (zaL (r_4 2) cy_6 36 (fun _ => 0))] := hD
  have hK : va_K (dC, dI) vwCl [(ca_2, .int), (ca_5, .array .long), (cy_6, .long), (cy_6, .long), (cy_6, .long)] s := hK.app (K_rep hK gcy_6 hcy_6 3)
  refine W.widen (k := 5) (n := 147) (by omega) (by omega) ?_
  refine va_putF (D := (dC, dI)) (ci := 2) (v := .ref q_3) (ty := .array (.array .long)) (C := RX0) (T := TX0) (N := 5) hx hb hts kc_chancesInit_4 tyX0 tyX0_ok nmX0 hown hK hP hD hS 0 rfl rfl 3 (by decide) (hts (.fieldLink RX0 17 "MistHeaps$Chances" "times" "[[J") kc_chancesInit_8) (fun _ h9 => h9) rfl hin rfl (by decide +kernel) rfl rfl (Nat.le_of_ble_eq_true rfl) dX0_init_20 (fun H locs hP hD hS => ?_)
  have hP : va_P (dC, dI) vwCl [(zo2lirrn a0 0 0 q_1 q_3), (zaI q_1 ca_2 36 (fun _ => 0)), (zaR q_3 ca_5 3 (fun i => if i < 3 then some (r_4 i) else none)), (zaL (r_4 0) cy_6 36 (fun _ => 0)), (zaL (r_4 1) cy_6 36 (fun _ => 0)), (zaL (r_4 2) cy_6 36 (fun _ => 0))] H := hP
  have hD : va_D A [(zo2lirrn a0 0 0 q_1 q_3), (zaI q_1 ca_2 36 (fun _ => 0)), (zaR q_3 ca_5 3 (fun i => if i < 3 then some (r_4 i) else none)), (zaL (r_4 0) cy_6 36 (fun _ => 0)), (zaL (r_4 1) cy_6 36 (fun _ => 0)), (zaL (r_4 2) cy_6 36 (fun _ => 0))] := hD
  refine lv_aload_n hx hb dX0_init_23 rfl (lv_at hl 0 rfl) ?_
  refine lv_bipush (v := 8) hx hb dX0_init_24 (by decide) ?_
  refine lv_bipush (v := 36) hx hb dX0_init_26 (by decide) ?_
  obtain ⟨cy_10, hcy_10, gcy_10⟩ := arr_known (hts (.arrayClass .int) kc_chancesInit_3)
  refine va_mna (X := [(zo2lirrn a0 0 0 q_1 q_3), (zaI q_1 ca_2 36 (fun _ => 0)), (zaR q_3 ca_5 3 (fun i => if i < 3 then some (r_4 i) else none)), (zaL (r_4 0) cy_6 36 (fun _ => 0)), (zaL (r_4 1) cy_6 36 (fun _ => 0)), (zaL (r_4 2) cy_6 36 (fun _ => 0))]) (L := []) (f := fun _ => .inl (cy_10, (36, .inl (fun _ => 0)))) (ty := .int) (cy := cy_10) (z := (36, .inl (fun _ => 0))) (N' := 8) (K' := 36) hx hb hown (by rw [show "[" ++ (FieldType.array .int).toString = "[[I" from by decide]; exact (hts (.classLink RX0 20 "[[I") kc_chancesInit_9)) hC.2.2.1 (hts (.arrayClass .int) kc_chancesInit_3) hcy_10 hK hP hD hS hA (by decide) (by decide) (by decide) (by decide) (by decide) (by decide) (by decide) rfl rfl (Nat.le_of_ble_eq_true rfl) (Nat.le_of_ble_eq_true rfl) (fun cq => arrV_new cq 36 (defaultValue .int)) dX0_init_28 (fun q_7 r_8 ca_9 H _ _ hK hP hD hS => ?_)
  rw [mna_rows] at hP hD
  have hP : va_P (dC, dI) vwCl [(zo2lirrn a0 0 0 q_1 q_3), (zaI q_1 ca_2 36 (fun _ => 0)), (zaR q_3 ca_5 3 (fun i => if i < 3 then some (r_4 i) else none)), (zaL (r_4 0) cy_6 36 (fun _ => 0)), (zaL (r_4 1) cy_6 36 (fun _ => 0)), (zaL (r_4 2) cy_6 36 (fun _ => 0)), (zaR q_7 ca_9 8 (fun i => if i < 8 then some (r_8 i) else none)), (zaI (r_8 0) cy_10 36 (fun _ => 0)), (zaI (r_8 1) cy_10 36 (fun _ => 0)), (zaI (r_8 2) cy_10 36 (fun _ => 0)), (zaI (r_8 3) cy_10 36 (fun _ => 0)), (zaI (r_8 4) cy_10 36 (fun _ => 0)), (zaI (r_8 5) cy_10 36 (fun _ => 0)), (zaI (r_8 6) cy_10 36 (fun _ => 0)), (zaI (r_8 7) cy_10 36 (fun _ => 0))] H := hP
  have hD : va_D A [(zo2lirrn a0 0 0 q_1 q_3), (zaI q_1 ca_2 36 (fun _ => 0)), (zaR q_3 ca_5 3 (fun i => if i < 3 then some (r_4 i) else none)), (zaL (r_4 0) cy_6 36 (fun _ => 0)), (zaL (r_4 1) cy_6 36 (fun _ => 0)), (zaL (r_4 2) cy_6 36 (fun _ => 0)), (zaR q_7 ca_9 8 (fun i => if i < 8 then some (r_8 i) else none)), (zaI (r_8 0) cy_10 36 (fun _ => 0)), (zaI (r_8 1) cy_10 36 (fun _ => 0)), (zaI (r_8 2) cy_10 36 (fun _ => 0)), (zaI (r_8 3) cy_10 36 (fun _ => 0)), (zaI (r_8 4) cy_10 36 (fun _ => 0)), (zaI (r_8 5) cy_10 36 (fun _ => 0)), (zaI (r_8 6) cy_10 36 (fun _ => 0)), (zaI (r_8 7) cy_10 36 (fun _ => 0))] := hD
  have hK : va_K (dC, dI) vwCl [(ca_2, .int), (ca_5, .array .long), (cy_6, .long), (cy_6, .long), (cy_6, .long), (ca_9, .array .int), (cy_10, .int), (cy_10, .int), (cy_10, .int), (cy_10, .int), (cy_10, .int), (cy_10, .int), (cy_10, .int), (cy_10, .int)] s := hK.app (K_rep hK gcy_10 hcy_10 8)
  refine W.widen (k := 14) (n := 443) (by omega) (by omega) ?_
  refine va_putF (D := (dC, dI)) (ci := 2) (v := .ref q_7) (ty := .array (.array .int)) (C := RX0) (T := TX0) (N := 5) hx hb hts kc_chancesInit_4 tyX0 tyX0_ok nmX0 hown hK hP hD hS 0 rfl rfl 4 (by decide) (hts (.fieldLink RX0 22 "MistHeaps$Chances" "hits" "[[I") kc_chancesInit_10) (fun _ h9 => h9) rfl hin rfl (by decide +kernel) rfl rfl (Nat.le_of_ble_eq_true rfl) dX0_init_32 (fun H locs hP hD hS => ?_)
  have hP : va_P (dC, dI) vwCl [(zo2lirrr a0 0 0 q_1 q_3 q_7), (zaI q_1 ca_2 36 (fun _ => 0)), (zaR q_3 ca_5 3 (fun i => if i < 3 then some (r_4 i) else none)), (zaL (r_4 0) cy_6 36 (fun _ => 0)), (zaL (r_4 1) cy_6 36 (fun _ => 0)), (zaL (r_4 2) cy_6 36 (fun _ => 0)), (zaR q_7 ca_9 8 (fun i => if i < 8 then some (r_8 i) else none)), (zaI (r_8 0) cy_10 36 (fun _ => 0)), (zaI (r_8 1) cy_10 36 (fun _ => 0)), (zaI (r_8 2) cy_10 36 (fun _ => 0)), (zaI (r_8 3) cy_10 36 (fun _ => 0)), (zaI (r_8 4) cy_10 36 (fun _ => 0)), (zaI (r_8 5) cy_10 36 (fun _ => 0)), (zaI (r_8 6) cy_10 36 (fun _ => 0)), (zaI (r_8 7) cy_10 36 (fun _ => 0))] H := hP
  have hD : va_D A [(zo2lirrr a0 0 0 q_1 q_3 q_7), (zaI q_1 ca_2 36 (fun _ => 0)), (zaR q_3 ca_5 3 (fun i => if i < 3 then some (r_4 i) else none)), (zaL (r_4 0) cy_6 36 (fun _ => 0)), (zaL (r_4 1) cy_6 36 (fun _ => 0)), (zaL (r_4 2) cy_6 36 (fun _ => 0)), (zaR q_7 ca_9 8 (fun i => if i < 8 then some (r_8 i) else none)), (zaI (r_8 0) cy_10 36 (fun _ => 0)), (zaI (r_8 1) cy_10 36 (fun _ => 0)), (zaI (r_8 2) cy_10 36 (fun _ => 0)), (zaI (r_8 3) cy_10 36 (fun _ => 0)), (zaI (r_8 4) cy_10 36 (fun _ => 0)), (zaI (r_8 5) cy_10 36 (fun _ => 0)), (zaI (r_8 6) cy_10 36 (fun _ => 0)), (zaI (r_8 7) cy_10 36 (fun _ => 0))] := hD
  rw [hQ]
  have hP9 := hP.sub (ws' := [(zo2lirrr a0 0 0 q_1 q_3 q_7), (zaI q_1 ca_2 36 (fun _ => 0)), (zaR q_3 ca_5 3 (fun i => if i < 3 then some (r_4 i) else none)), (zaL (r_4 0) cy_6 36 (fun _ => 0)), (zaL (r_4 1) cy_6 36 (fun _ => 0)), (zaL (r_4 2) cy_6 36 (fun _ => 0)), (zaR q_7 ca_9 8 (fun i => if i < 8 then some (r_8 i) else none)), (zaI (r_8 0) cy_10 36 (fun _ => 0)), (zaI (r_8 1) cy_10 36 (fun _ => 0)), (zaI (r_8 2) cy_10 36 (fun _ => 0)), (zaI (r_8 3) cy_10 36 (fun _ => 0)), (zaI (r_8 4) cy_10 36 (fun _ => 0)), (zaI (r_8 5) cy_10 36 (fun _ => 0)), (zaI (r_8 6) cy_10 36 (fun _ => 0)), (zaI (r_8 7) cy_10 36 (fun _ => 0))]) [0, 1, 2, 3, 4, 5, 6, 7, 8, 9, 10, 11, 12, 13, 14] rfl
  have hD9 := hD.sub (ws' := [(zo2lirrr a0 0 0 q_1 q_3 q_7), (zaI q_1 ca_2 36 (fun _ => 0)), (zaR q_3 ca_5 3 (fun i => if i < 3 then some (r_4 i) else none)), (zaL (r_4 0) cy_6 36 (fun _ => 0)), (zaL (r_4 1) cy_6 36 (fun _ => 0)), (zaL (r_4 2) cy_6 36 (fun _ => 0)), (zaR q_7 ca_9 8 (fun i => if i < 8 then some (r_8 i) else none)), (zaI (r_8 0) cy_10 36 (fun _ => 0)), (zaI (r_8 1) cy_10 36 (fun _ => 0)), (zaI (r_8 2) cy_10 36 (fun _ => 0)), (zaI (r_8 3) cy_10 36 (fun _ => 0)), (zaI (r_8 4) cy_10 36 (fun _ => 0)), (zaI (r_8 5) cy_10 36 (fun _ => 0)), (zaI (r_8 6) cy_10 36 (fun _ => 0)), (zaI (r_8 7) cy_10 36 (fun _ => 0))]) [0, 1, 2, 3, 4, 5, 6, 7, 8, 9, 10, 11, 12, 13, 14] (by decide) rfl
  have hK9 := hK.sub (tys' := [(ca_2, .int), (ca_5, .array .long), (cy_6, .long), (cy_6, .long), (cy_6, .long), (ca_9, .array .int), (cy_10, .int), (cy_10, .int), (cy_10, .int), (cy_10, .int), (cy_10, .int), (cy_10, .int), (cy_10, .int), (cy_10, .int)]) [0, 1, 2, 3, 4, 5, 6, 7, 8, 9, 10, 11, 12, 13] rfl
  exact W.vret hx hb hr (fun tQ htQ hWQ => ⟨⟨(), rfl, trivial, q_1, q_3, q_7, r_4, r_8, ca_2, ca_5, ca_9, cy_6, cy_10, by rw [htQ]; exact hP9, va_K.moved hWQ.alike hK9, hD9⟩, hS.F htQ⟩) hS.2.2 dX0_init_35

theorem kc_acInit_0 : (.methodLink RJxa1e45 1 objectInit : Cond) ∈ wsJxa1e45_init_da8c8 := kc_of 313 rfl rfl rfl
theorem kc_acInit_1 : (.instanceMethod objectInit : Cond) ∈ wsJxa1e45_init_da8c8 := kc_of 99 rfl rfl rfl
theorem kc_acInit_2 : (.code objectInit ⟨#[0xb1]⟩ 1 none : Cond) ∈ wsJxa1e45_init_da8c8 := kc_of 100 rfl rfl rfl
set_option maxHeartbeats 4000000 in
set_option maxRecDepth 100000 in
theorem c_acInit (l : Launch) (dC : Nat → ClassId) (dI : Nat → Nat → Nat) (a0 : Nat) (sz : Nat) : Met l yJxa1e45_init_da8c8 wsJxa1e45_init_da8c8 ({ frames := 1, cells := 0, slots := 0, locals := 12 } : Room) (va_Pc [.ref a0] (fun U => U.heap.size = sz ∧ va_P (dC, dI) vwCl [(zo1ini a0 0 0)] U.heap ∧ va_K (dC, dI) vwCl [] U ∧ va_D (fun _ => True) [(zo1ini a0 0 0)])) (va_Qv (fun (u : Unit) => match u with | () => True) (fun (u : Unit) (t : State) => match u with | () => va_P (dC, dI) vwCl [(zo1ini a0 0 0)] t.heap ∧ va_K (dC, dI) vwCl [] t ∧ va_D (va_A [(zo1ini a0 0 0)] sz) [(zo1ini a0 0 0)]) (va_A [(zo1ini a0 0 0)] sz)) 0 0 (va_A [(zo1ini a0 0 0)] sz) := by
  refine met_ofQ (cc := cJxa1e45_init_da8c8) (maxL := 1) (ret := none) (by decide) rfl ?_
  intro p e s m args below meth c s₁ Q B hml hv hQ
  obtain ⟨rfl, hsz, hP, hK, hD0⟩ := hv
  have hx := B.exec
  have hb := B.bytes
  have hr := B.returns
  have hts := atoms_spec (ws := wsJxa1e45_init_da8c8) B.pre
  have hown : s.vm.findClass RJxa1e45 = some m.cls := findClass_of_methodNamed B.named
  have hlocks := B.notSynchronized
  have hin : meth.name = "<init>" := (name_of_methodNamed B.named B.method).1
  subst hsz
  have hD := hD0.self (sz := s.heap.size)
  generalize hAe : va_A [(zo1ini a0 0 0)] s.heap.size = A at hD hQ ⊢
  have hA : ∀ q : Nat, s.heap.size ≤ q → A q := fun q h => by rw [← hAe]; exact Or.inr h
  have hS : va_S A s.heap s.heap [] := va_S.rf
  have hl := lv_entry [.ref a0] (n := 1) (Nat.le_of_ble_eq_true rfl)
  rw [lg_entry_eq]
  generalize (lg_sl [.ref a0] ++ List.replicate (1 - (lg_sl [.ref a0]).length) Slot.unset).toArray = ls at hl ⊢
  generalize hag : ([.ref a0] : List Value).toArray = args at hts hQ ⊢
  have hl : lv_has ls 1 [(0, .ref a0)] := hl
  obtain ⟨H, hH⟩ : ∃ H : Heap, H = s.heap := ⟨_, rfl⟩
  rw [← hH] at hP
  rw [← hH]
  have hS : va_S A s.heap H [] := by rw [hH]; exact hS
  obtain ⟨locs, hlo⟩ : ∃ L : List Loc, L = [] := ⟨_, rfl⟩
  rw [← hlo] at hS
  rw [← hlo]
  clear hH hlo
  refine lv_aload_n hx hb dJxa1e45_init_da8c8_0 rfl (lv_at hl 0 rfl) ?_
  refine W.objInit hx hb hown (hts (.methodLink RJxa1e45 1 objectInit) kc_acInit_0) (hts (.instanceMethod objectInit) kc_acInit_1) (hts (.code objectInit ⟨#[0xb1]⟩ 1 none) kc_acInit_2) rfl (by rw [hml]; exact hl.1) rfl dJxa1e45_init_da8c8_1 (Nat.le_of_ble_eq_true rfl) (Nat.le_of_ble_eq_true rfl) ?_
  refine W.eq (g2 := F0 m 4 ls []) rfl ?_
  rw [hQ]
  have hP9 := hP.sub (ws' := [(zo1ini a0 0 0)]) [0] rfl
  have hD9 := hD.sub (ws' := [(zo1ini a0 0 0)]) [0] (by decide) rfl
  have hK9 := hK.sub (tys' := []) [] rfl
  exact W.vret hx hb hr (fun tQ htQ hWQ => ⟨⟨(), rfl, trivial, by rw [htQ]; exact hP9, va_K.moved hWQ.alike hK9, hD9⟩, hS.F htQ⟩) hS.2.2 dJxa1e45_init_da8c8_4

theorem kc_alInit_0 : (.initialized RJxa1e45 : Cond) ∈ wsJxc12de_init_da8c8 := kc_of 69 rfl rfl rfl
theorem kc_alInit_1 : (.methodLink RJxc12de 1 yJxa1e45_init_da8c8 : Cond) ∈ wsJxc12de_init_da8c8 := kc_of 310 rfl rfl rfl
theorem kc_alInit_2 : (.instanceMethod yJxa1e45_init_da8c8 : Cond) ∈ wsJxc12de_init_da8c8 := kc_of 311 rfl rfl rfl
theorem kc_alInit_3 : ∀ w ∈ wsJx4a65c0, w ∈ wsJxc12de_init_da8c8 := fun w h => List.mem_cons_of_mem _ (gin_wsJx4a65c0 w h)
theorem kc_alInit_4 : (.fieldLink RJxc12de 7 "java/util/AbstractList" "modCount" "I" : Cond) ∈ wsJxc12de_init_da8c8 := kc_of 318 rfl rfl rfl
set_option maxHeartbeats 4000000 in
set_option maxRecDepth 100000 in
theorem c_alInit (l : Launch) (dC : Nat → ClassId) (dI : Nat → Nat → Nat) (a0 : Nat) (sz : Nat) : Met l yJxc12de_init_da8c8 wsJxc12de_init_da8c8 ({ frames := 2, cells := 0, slots := 0, locals := 32 } : Room) (va_Pc [.ref a0] (fun U => U.heap.size = sz ∧ va_P (dC, dI) vwCl [(zo1ini a0 0 0)] U.heap ∧ va_K (dC, dI) vwCl [] U ∧ va_D (fun _ => True) [(zo1ini a0 0 0)])) (va_Qv (fun (u : Unit) => match u with | () => True) (fun (u : Unit) (t : State) => match u with | () => va_P (dC, dI) vwCl [(zo1ini a0 0 0)] t.heap ∧ va_K (dC, dI) vwCl [] t ∧ va_D (va_A [(zo1ini a0 0 0)] sz) [(zo1ini a0 0 0)]) (va_A [(zo1ini a0 0 0)] sz)) 0 0 (va_A [(zo1ini a0 0 0)] sz) := by
  refine met_ofQ (cc := cJxc12de_init_da8c8) (maxL := 1) (ret := none) (by decide) rfl ?_
  intro p e s m args below meth c s₁ Q B hml hv hQ
  obtain ⟨rfl, hsz, hP, hK, hD0⟩ := hv
  have hx := B.exec
  have hb := B.bytes
  have hr := B.returns
  have hts := atoms_spec (ws := wsJxc12de_init_da8c8) B.pre
  have hown : s.vm.findClass RJxc12de = some m.cls := findClass_of_methodNamed B.named
  have hlocks := B.notSynchronized
  have hin : meth.name = "<init>" := (name_of_methodNamed B.named B.method).1
  subst hsz
  have hD := hD0.self (sz := s.heap.size)
  generalize hAe : va_A [(zo1ini a0 0 0)] s.heap.size = A at hD hQ ⊢
  have hA : ∀ q : Nat, s.heap.size ≤ q → A q := fun q h => by rw [← hAe]; exact Or.inr h
  have hS : va_S A s.heap s.heap [] := va_S.rf
  have hl := lv_entry [.ref a0] (n := 1) (Nat.le_of_ble_eq_true rfl)
  rw [lg_entry_eq]
  generalize (lg_sl [.ref a0] ++ List.replicate (1 - (lg_sl [.ref a0]).length) Slot.unset).toArray = ls at hl ⊢
  generalize hag : ([.ref a0] : List Value).toArray = args at hts hQ ⊢
  have hl : lv_has ls 1 [(0, .ref a0)] := hl
  obtain ⟨H, hH⟩ : ∃ H : Heap, H = s.heap := ⟨_, rfl⟩
  rw [← hH] at hP
  rw [← hH]
  have hS : va_S A s.heap H [] := by rw [hH]; exact hS
  obtain ⟨locs, hlo⟩ : ∃ L : List Loc, L = [] := ⟨_, rfl⟩
  rw [← hlo] at hS
  rw [← hlo]
  clear hH hlo
  refine lv_aload_n hx hb dJxc12de_init_da8c8_0 rfl (lv_at hl 0 rfl) ?_
  have hPc := hP.sub (ws' := [(zo1ini a0 0 0)]) [0] rfl
  have hDc := hD.sub (ws' := [(zo1ini a0 0 0)]) [0] (by decide) rfl
  have hKc := hK.sub (tys' := []) [] rfl
  have hFc := va_free (wc := [(zo1ini a0 0 0)]) hD hS hA [0] rfl
  refine va_callv (va_runI (As := []) (rest := []) ⟨hx, hb, hml, hown, hts⟩ (c_acInit l dC dI a0 H.size) (cwI 0 hts ggJxc12de_init_da8c8_Jxa1e45_init_da8c8 rfl rfl rfl (hts (.initialized RJxa1e45) kc_alInit_0) (hts (.methodLink RJxc12de 1 yJxa1e45_init_da8c8) kc_alInit_1) (hts (.instanceMethod yJxa1e45_init_da8c8) kc_alInit_2) rfl (by decide +kernel) ⟨Nat.le_of_ble_eq_true rfl, Nat.le_of_ble_eq_true rfl⟩) ⟨fun a U g mk q => by obtain ⟨q0, q1, qP, qK, qD⟩ := q; exact ⟨q0, q1, qP, va_K.moved (u := U) (U := U.calling g mk a) (Vm.Alike.refl U.vm) qK, qD⟩, fun U hU hW => ⟨rfl, by rw [hU], by rw [hU]; exact hPc, va_K.moved hW.alike hKc, hDc.weaken (fun _ _ _ _ => trivial)⟩⟩ rfl rfl hl.1 rfl (lv_room (Nat.le_of_ble_eq_true rfl)) dJxc12de_init_da8c8_1 ⟨Nat.le_of_ble_eq_true rfl, Nat.le_of_ble_eq_true rfl⟩) hS (fun q _ h => hFc q h) hFc (fun u tC H1 locs htC hvm hw_2 hB hz1 hk1 hS => ?_)
  obtain ⟨⟩ := u
  try dsimp only at hw_2 hB
  obtain ⟨hP1, hK1, hD1⟩ := hB
  rw [htC] at hP1
  have hK1 := va_K.moved hvm.symm hK1
  obtain ⟨hP, hD⟩ := va_join (wr := []) (w1 := [(zo1ini a0 0 0)]) hP hD [0] [] rfl rfl (by decide) (by decide) hk1 hFc hP1 hD1
  have hK := (hK.sub (tys' := []) [] rfl).app hK1
  generalize H1 = H at hP hS ⊢
  have hP : va_P (dC, dI) vwCl [(zo1ini a0 0 0)] H := hP
  have hD : va_D A [(zo1ini a0 0 0)] := hD
  have hK : va_K (dC, dI) vwCl [] s := hK
  refine lv_aload_n hx hb dJxc12de_init_da8c8_4 rfl (lv_at hl 0 rfl) ?_
  refine lv_iconst (v := 0) hx hb dJxc12de_init_da8c8_5 (by decide) ?_
  refine va_put (D := (dC, dI)) (ci := 1) (v := .int 0) (ty := .int) (C := RJx4a65c) (T := TJx4a65c) (N := 3) hx hb hts kc_alInit_3 tyJx4a65c tyJx4a65c_ok nmJx4a65c hown hK hP hD hS 0 rfl rfl 0 (by decide) (hts (.fieldLink RJxc12de 7 "java/util/AbstractList" "modCount" "I") kc_alInit_4) (fun _ h9 => h9) rfl (by decide +kernel) rfl rfl (Nat.le_of_ble_eq_true rfl) dJxc12de_init_da8c8_6 (fun H locs hP hD hS => ?_)
  have hP : va_P (dC, dI) vwCl [(zo1ini a0 0 0)] H := hP
  have hD : va_D A [(zo1ini a0 0 0)] := hD
  rw [hQ]
  have hP9 := hP.sub (ws' := [(zo1ini a0 0 0)]) [0] rfl
  have hD9 := hD.sub (ws' := [(zo1ini a0 0 0)]) [0] (by decide) rfl
  have hK9 := hK.sub (tys' := []) [] rfl
  exact W.vret hx hb hr (fun tQ htQ hWQ => ⟨⟨(), rfl, trivial, by rw [htQ]; exact hP9, va_K.moved hWQ.alike hK9, hD9⟩, hS.F htQ⟩) hS.2.2 dJxc12de_init_da8c8_9

theorem kc_listInit_0 : (.initialized RJxc12de : Cond) ∈ wsJx4a65c_init_da8c8 := kc_of 70 rfl rfl rfl
theorem kc_listInit_1 : (.methodLink RJx4a65c 1 yJxc12de_init_da8c8 : Cond) ∈ wsJx4a65c_init_da8c8 := kc_of 307 rfl rfl rfl
theorem kc_listInit_2 : (.instanceMethod yJxc12de_init_da8c8 : Cond) ∈ wsJx4a65c_init_da8c8 := kc_of 308 rfl rfl rfl
theorem kc_listInit_3 : (.fieldLink RJx4a65c 39 "java/util/ArrayList" "DEFAULTCAPACITY_EMPTY_ELEMENTDATA" "[Ljava/lang/Object;" : Cond) ∈ wsJx4a65c_init_da8c8 := kc_of 314 rfl rfl rfl
theorem kc_listInit_4 : ∀ w ∈ wsJx4a65c0, w ∈ wsJx4a65c_init_da8c8 := fun w h => List.mem_cons_of_mem _ (gin_wsJx4a65c0 w h)
theorem kc_listInit_5 : (.fieldLink RJx4a65c 9 "java/util/ArrayList" "elementData" "[Ljava/lang/Object;" : Cond) ∈ wsJx4a65c_init_da8c8 := kc_of 316 rfl rfl rfl
set_option maxHeartbeats 4000000 in
set_option maxRecDepth 100000 in
theorem c_listInit (l : Launch) (dC : Nat → ClassId) (dI : Nat → Nat → Nat) (bS : Nat) (a0 : Nat) (sz : Nat) : Met l yJx4a65c_init_da8c8 wsJx4a65c_init_da8c8 ({ frames := 3, cells := 0, slots := 0, locals := 52 } : Room) (va_Pc [.ref a0] (fun U => U.heap.size = sz ∧ va_P (dC, dI) vwCl [(zo1ini a0 0 0)] U.heap ∧ va_K (dC, dI) vwCl [] U ∧ va_D (fun _ => True) [(zo1ini a0 0 0)] ∧ Gc bS (va_A [(zo1ini a0 0 0)] sz) U)) (va_Qv (fun (u : Unit) => match u with | () => True) (fun (u : Unit) (t : State) => match u with | () => va_P (dC, dI) vwCl [(zo1iri a0 0 bS 0)] t.heap ∧ va_K (dC, dI) vwCl [] t ∧ va_D (va_A [(zo1ini a0 0 0)] sz) [(zo1iri a0 0 bS 0)]) (va_A [(zo1ini a0 0 0)] sz)) 0 0 (va_A [(zo1ini a0 0 0)] sz) := by
  refine met_ofQ (cc := cJx4a65c_init_da8c8) (maxL := 1) (ret := none) (by decide) rfl ?_
  intro p e s m args below meth c s₁ Q B hml hv hQ
  obtain ⟨rfl, hsz, hP, hK, hD0, hC⟩ := hv
  have hx := B.exec
  have hb := B.bytes
  have hr := B.returns
  have hts := atoms_spec (ws := wsJx4a65c_init_da8c8) B.pre
  have hown : s.vm.findClass RJx4a65c = some m.cls := findClass_of_methodNamed B.named
  have hlocks := B.notSynchronized
  have hin : meth.name = "<init>" := (name_of_methodNamed B.named B.method).1
  subst hsz
  have hD := hD0.self (sz := s.heap.size)
  generalize hAe : va_A [(zo1ini a0 0 0)] s.heap.size = A at hD hQ hC ⊢
  have hA : ∀ q : Nat, s.heap.size ≤ q → A q := fun q h => by rw [← hAe]; exact Or.inr h
  have hS : va_S A s.heap s.heap [] := va_S.rf
  have hl := lv_entry [.ref a0] (n := 1) (Nat.le_of_ble_eq_true rfl)
  rw [lg_entry_eq]
  generalize (lg_sl [.ref a0] ++ List.replicate (1 - (lg_sl [.ref a0]).length) Slot.unset).toArray = ls at hl ⊢
  generalize hag : ([.ref a0] : List Value).toArray = args at hts hQ ⊢
  have hl : lv_has ls 1 [(0, .ref a0)] := hl
  obtain ⟨H, hH⟩ : ∃ H : Heap, H = s.heap := ⟨_, rfl⟩
  rw [← hH] at hP
  rw [← hH]
  have hS : va_S A s.heap H [] := by rw [hH]; exact hS
  obtain ⟨locs, hlo⟩ : ∃ L : List Loc, L = [] := ⟨_, rfl⟩
  rw [← hlo] at hS
  rw [← hlo]
  clear hH hlo
  refine lv_aload_n hx hb dJx4a65c_init_da8c8_0 rfl (lv_at hl 0 rfl) ?_
  have hPc := hP.sub (ws' := [(zo1ini a0 0 0)]) [0] rfl
  have hDc := hD.sub (ws' := [(zo1ini a0 0 0)]) [0] (by decide) rfl
  have hKc := hK.sub (tys' := []) [] rfl
  have hFc := va_free (wc := [(zo1ini a0 0 0)]) hD hS hA [0] rfl
  refine va_callv (va_runI (As := []) (rest := []) ⟨hx, hb, hml, hown, hts⟩ (c_alInit l dC dI a0 H.size) (cwI 0 hts ggJx4a65c_init_da8c8_Jxc12de_init_da8c8 rfl rfl rfl (hts (.initialized RJxc12de) kc_listInit_0) (hts (.methodLink RJx4a65c 1 yJxc12de_init_da8c8) kc_listInit_1) (hts (.instanceMethod yJxc12de_init_da8c8) kc_listInit_2) rfl (by decide +kernel) ⟨Nat.le_of_ble_eq_true rfl, Nat.le_of_ble_eq_true rfl⟩) ⟨fun a U g mk q => by obtain ⟨q0, q1, qP, qK, qD⟩ := q; exact ⟨q0, q1, qP, va_K.moved (u := U) (U := U.calling g mk a) (Vm.Alike.refl U.vm) qK, qD⟩, fun U hU hW => ⟨rfl, by rw [hU], by rw [hU]; exact hPc, va_K.moved hW.alike hKc, hDc.weaken (fun _ _ _ _ => trivial)⟩⟩ rfl rfl hl.1 rfl (lv_room (Nat.le_of_ble_eq_true rfl)) dJx4a65c_init_da8c8_1 ⟨Nat.le_of_ble_eq_true rfl, Nat.le_of_ble_eq_true rfl⟩) hS (fun q _ h => hFc q h) hFc (fun u tC H1 locs htC hvm hw_2 hB hz1 hk1 hS => ?_)
  obtain ⟨⟩ := u
  try dsimp only at hw_2 hB
  obtain ⟨hP1, hK1, hD1⟩ := hB
  rw [htC] at hP1
  have hK1 := va_K.moved hvm.symm hK1
  obtain ⟨hP, hD⟩ := va_join (wr := []) (w1 := [(zo1ini a0 0 0)]) hP hD [0] [] rfl rfl (by decide) (by decide) hk1 hFc hP1 hD1
  have hK := (hK.sub (tys' := []) [] rfl).app hK1
  generalize H1 = H at hP hS ⊢
  have hP : va_P (dC, dI) vwCl [(zo1ini a0 0 0)] H := hP
  have hD : va_D A [(zo1ini a0 0 0)] := hD
  have hK : va_K (dC, dI) vwCl [] s := hK
  refine lv_aload_n hx hb dJx4a65c_init_da8c8_4 rfl (lv_at hl 0 rfl) ?_
  refine va_gets (C := "java/util/ArrayList") (n := "DEFAULTCAPACITY_EMPTY_ELEMENTDATA") (d := "[Ljava/lang/Object;") (v := .ref bS) hx hb hC.2.2.2.2 hS hown (hts (.fieldLink RJx4a65c 39 "java/util/ArrayList" "DEFAULTCAPACITY_EMPTY_ELEMENTDATA" "[Ljava/lang/Object;") kc_listInit_3) (fun _ h9 => h9) dJx4a65c_init_da8c8_5 ?_
  refine va_put (D := (dC, dI)) (ci := 1) (v := .ref bS) (ty := .array (.object "java/lang/Object")) (C := RJx4a65c) (T := TJx4a65c) (N := 3) hx hb hts kc_listInit_4 tyJx4a65c tyJx4a65c_ok nmJx4a65c hown hK hP hD hS 0 rfl rfl 1 (by decide) (hts (.fieldLink RJx4a65c 9 "java/util/ArrayList" "elementData" "[Ljava/lang/Object;") kc_listInit_5) (fun _ h9 => h9) rfl (by decide +kernel) rfl rfl (Nat.le_of_ble_eq_true rfl) dJx4a65c_init_da8c8_8 (fun H locs hP hD hS => ?_)
  have hP : va_P (dC, dI) vwCl [(zo1iri a0 0 bS 0)] H := hP
  have hD : va_D A [(zo1iri a0 0 bS 0)] := hD
  rw [hQ]
  have hP9 := hP.sub (ws' := [(zo1iri a0 0 bS 0)]) [0] rfl
  have hD9 := hD.sub (ws' := [(zo1iri a0 0 bS 0)]) [0] (by decide) rfl
  have hK9 := hK.sub (tys' := []) [] rfl
  exact W.vret hx hb hr (fun tQ htQ hWQ => ⟨⟨(), rfl, trivial, by rw [htQ]; exact hP9, va_K.moved hWQ.alike hK9, hD9⟩, hS.F htQ⟩) hS.2.2 dJx4a65c_init_da8c8_11
