theorem gX3_doSees_X3_begin : GoodIn wsX3_doSees (va_wsS RX3 34 yX3_begin wsX3_begin) := goodIn_app (ggh_of [1026, 929, 67] rfl rfl rfl) ggX3_doSees_X3_begin
theorem ggX3_doGoes_X3_begin : GoodIn wsX3_doGoes wsX3_begin := gga_of 930 rfl rfl rfl
theorem gX3_doGoes_X3_begin : GoodIn wsX3_doGoes (va_wsS RX3 34 yX3_begin wsX3_begin) := goodIn_app (ggh_of [1026, 929, 67] rfl rfl rfl) ggX3_doGoes_X3_begin
theorem ggX3_doGoes_X3_doSees : GoodIn wsX3_doGoes wsX3_doSees := gga_of 1025 rfl rfl rfl
theorem gX3_doGoes_X3_doSees : GoodIn wsX3_doGoes (wsV RX3 38 RX3 yX3_doSees wsX3_doSees) := goodIn_app (ggh_of [1050, 920, 921, 67] rfl rfl rfl) ggX3_doGoes_X3_doSees
theorem ggX3_doLooks_X3_begin : GoodIn wsX3_doLooks wsX3_begin := gga_of 930 rfl rfl rfl
theorem gX3_doLooks_X3_begin : GoodIn wsX3_doLooks (va_wsS RX3 34 yX3_begin wsX3_begin) := goodIn_app (ggh_of [1026, 929, 67] rfl rfl rfl) ggX3_doLooks_X3_begin
theorem ggX3_doLooks_X3_doGoes : GoodIn wsX3_doLooks wsX3_doGoes := gga_of 1049 rfl rfl rfl
theorem gX3_doLooks_X3_doGoes : GoodIn wsX3_doLooks (wsV RX3 42 RX3 yX3_doGoes wsX3_doGoes) := goodIn_app (ggh_of [1078, 1028, 1029, 67] rfl rfl rfl) ggX3_doLooks_X3_doGoes
theorem gX4_doSees_X3_doSees_s21 : GoodIn wsX4_doSees (va_wsSU RX4 21 yX3_doSees wsX3_doSees) := goodIn_app (ggh_of [1013, 922, 567, 920, 67] rfl rfl rfl) ggX4_doSees_X3_doSees
theorem ggX3_doGoes_X4_doSees : GoodIn wsX3_doGoes wsX4_doSees := gga_of 926 rfl rfl rfl
theorem gX3_doGoes_X4_doSees_u38X4 : GoodIn wsX3_doGoes (va_wsO RX3 38 RX4 "MistHeaps$Heap" ⟨"MistHeaps$Heap", "doSees", "(ILjava/util/ArrayList;)I"⟩ yX4_doSees wsX4_doSees) := goodIn_app (ggh_of [1050, 922, 920, 924, 925, 81] rfl rfl rfl) ggX3_doGoes_X4_doSees
theorem gX3_doLooks_X3_doGoes_u42X4 : GoodIn wsX3_doLooks (va_wsU RX3 42 RX4 "MistHeaps$Heap" ⟨"MistHeaps$Heap", "doGoes", "(ILjava/util/ArrayList;)I"⟩ yX3_doGoes wsX3_doGoes) := goodIn_app (ggh_of [1078, 1030, 1032, 1028, 67] rfl rfl rfl) ggX3_doLooks_X3_doGoes
theorem gX3_doGoes_X3_doSees_u38X6 : GoodIn wsX3_doGoes (va_wsU RX3 38 RX6 "MistHeaps$Heap" ⟨"MistHeaps$Heap", "doSees", "(ILjava/util/ArrayList;)I"⟩ yX3_doSees wsX3_doSees) := goodIn_app (ggh_of [1050, 922, 1014, 920, 67] rfl rfl rfl) ggX3_doGoes_X3_doSees
theorem gX6_doGoes_X3_doGoes_s17 : GoodIn wsX6_doGoes (va_wsSU RX6 17 yX3_doGoes wsX3_doGoes) := goodIn_app (ggh_of [1038, 1030, 578, 1028, 67] rfl rfl rfl) ggX6_doGoes_X3_doGoes
theorem ggX3_doLooks_X6_doGoes : GoodIn wsX3_doLooks wsX6_doGoes := gga_of 1035 rfl rfl rfl
theorem gX3_doLooks_X6_doGoes_u42X6 : GoodIn wsX3_doLooks (va_wsO RX3 42 RX6 "MistHeaps$Heap" ⟨"MistHeaps$Heap", "doGoes", "(ILjava/util/ArrayList;)I"⟩ yX6_doGoes wsX6_doGoes) := goodIn_app (ggh_of [1078, 1030, 1028, 1033, 1034, 82] rfl rfl rfl) ggX3_doLooks_X6_doGoes
theorem gX3_doGoes_X3_doSees_u38X1 : GoodIn wsX3_doGoes (va_wsU RX3 38 RX1 "MistHeaps$Heap" ⟨"MistHeaps$Heap", "doSees", "(ILjava/util/ArrayList;)I"⟩ yX3_doSees wsX3_doSees) := goodIn_app (ggh_of [1050, 922, 923, 920, 67] rfl rfl rfl) ggX3_doGoes_X3_doSees
theorem gX3_doLooks_X3_doGoes_u42X1 : GoodIn wsX3_doLooks (va_wsU RX3 42 RX1 "MistHeaps$Heap" ⟨"MistHeaps$Heap", "doGoes", "(ILjava/util/ArrayList;)I"⟩ yX3_doGoes wsX3_doGoes) := goodIn_app (ggh_of [1078, 1030, 1031, 1028, 67] rfl rfl rfl) ggX3_doLooks_X3_doGoes
theorem gX1_doLooks_X3_doLooks_s13 : GoodIn wsX1_doLooks (va_wsSU RX1 13 yX3_doLooks wsX3_doLooks) := goodIn_app (ggh_of [1060, 1054, 589, 1052, 67] rfl rfl rfl) ggX1_doLooks_X3_doLooks
theorem gX3_doGoes_X4_doSees_u38X10 : GoodIn wsX3_doGoes (va_wsO RX3 38 RX10 "MistHeaps$Heap" ⟨"MistHeaps$Heap", "doSees", "(ILjava/util/ArrayList;)I"⟩ yX4_doSees wsX4_doSees) := goodIn_app (ggh_of [1050, 922, 920, 1024, 925, 81] rfl rfl rfl) ggX3_doGoes_X4_doSees
theorem gX3_doLooks_X3_doGoes_u42X10 : GoodIn wsX3_doLooks (va_wsU RX3 42 RX10 "MistHeaps$Heap" ⟨"MistHeaps$Heap", "doGoes", "(ILjava/util/ArrayList;)I"⟩ yX3_doGoes wsX3_doGoes) := goodIn_app (ggh_of [1078, 1030, 1048, 1028, 67] rfl rfl rfl) ggX3_doLooks_X3_doGoes
theorem ggX10_doLooks_X4_doSees : GoodIn wsX10_doLooks wsX4_doSees := gga_of 926 rfl rfl rfl
theorem gX10_doLooks_X4_doSees_u44X10 : GoodIn wsX10_doLooks (va_wsU RX10 44 RX10 "MistHeaps$High" ⟨"MistHeaps$Turning", "doSees", "(ILjava/util/ArrayList;)I"⟩ yX4_doSees wsX4_doSees) := goodIn_app (ggh_of [1073, 1074, 1076, 925, 81] rfl rfl rfl) ggX10_doLooks_X4_doSees
theorem ggX3_doGoes_X9_doSees : GoodIn wsX3_doGoes wsX9_doSees := gga_of 1018 rfl rfl rfl
theorem gX3_doGoes_X9_doSees_u38X9 : GoodIn wsX3_doGoes (va_wsO RX3 38 RX9 "MistHeaps$Heap" ⟨"MistHeaps$Heap", "doSees", "(ILjava/util/ArrayList;)I"⟩ yX9_doSees wsX9_doSees) := goodIn_app (ggh_of [1050, 922, 920, 1016, 1017, 85] rfl rfl rfl) ggX3_doGoes_X9_doSees
theorem gX3_doLooks_X6_doGoes_u42X9 : GoodIn wsX3_doLooks (va_wsO RX3 42 RX9 "MistHeaps$Heap" ⟨"MistHeaps$Heap", "doGoes", "(ILjava/util/ArrayList;)I"⟩ yX6_doGoes wsX6_doGoes) := goodIn_app (ggh_of [1078, 1030, 1028, 1047, 1034, 82] rfl rfl rfl) ggX3_doLooks_X6_doGoes
theorem gX3_doGoes_X3_doSees_u38X7 : GoodIn wsX3_doGoes (va_wsU RX3 38 RX7 "MistHeaps$Heap" ⟨"MistHeaps$Heap", "doSees", "(ILjava/util/ArrayList;)I"⟩ yX3_doSees wsX3_doSees) := goodIn_app (ggh_of [1050, 922, 1015, 920, 67] rfl rfl rfl) ggX3_doGoes_X3_doSees
theorem ggX3_doLooks_X7_doGoes : GoodIn wsX3_doLooks wsX7_doGoes := gga_of 1041 rfl rfl rfl
theorem gX3_doLooks_X7_doGoes_u42X7 : GoodIn wsX3_doLooks (va_wsO RX3 42 RX7 "MistHeaps$Heap" ⟨"MistHeaps$Heap", "doGoes", "(ILjava/util/ArrayList;)I"⟩ yX7_doGoes wsX7_doGoes) := goodIn_app (ggh_of [1078, 1030, 1028, 1039, 1040, 86] rfl rfl rfl) ggX3_doLooks_X7_doGoes
noncomputable def dk16bacts_cX3_doSees_0 : List (Nat × Instr × Nat) := [(0, .iconst 1, 1), (1, .aload_n 2, 1), (2, .invokestatic 34, 3), (5, .iload_n 1, 1), (6, .aload_n 0, 1), (7, .getfield 15, 3), (10, .iadd, 1), (11, .ireturn, 1)]
set_option maxRecDepth 100000 in
theorem dk16bacts_cX3_doSees_0_a : dkA cX3_doSees dk16bacts_cX3_doSees_0 = true := by decide +kernel
theorem dX3_doSees_0 : decode cX3_doSees 0 = .ok (.iconst 1, 1) := dkAt dk16bacts_cX3_doSees_0_a 0 rfl
theorem dX3_doSees_1 : decode cX3_doSees 1 = .ok (.aload_n 2, 1) := dkAt dk16bacts_cX3_doSees_0_a 1 rfl
theorem dX3_doSees_2 : decode cX3_doSees 2 = .ok (.invokestatic 34, 3) := dkAt dk16bacts_cX3_doSees_0_a 2 rfl
theorem dX3_doSees_5 : decode cX3_doSees 5 = .ok (.iload_n 1, 1) := dkAt dk16bacts_cX3_doSees_0_a 3 rfl
theorem dX3_doSees_6 : decode cX3_doSees 6 = .ok (.aload_n 0, 1) := dkAt dk16bacts_cX3_doSees_0_a 4 rfl
theorem dX3_doSees_7 : decode cX3_doSees 7 = .ok (.getfield 15, 3) := dkAt dk16bacts_cX3_doSees_0_a 5 rfl
theorem dX3_doSees_10 : decode cX3_doSees 10 = .ok (.iadd, 1) := dkAt dk16bacts_cX3_doSees_0_a 6 rfl
theorem dX3_doSees_11 : decode cX3_doSees 11 = .ok (.ireturn, 1) := dkAt dk16bacts_cX3_doSees_0_a 7 rfl
noncomputable def dk16bacts_cX3_doGoes_0 : List (Nat × Instr × Nat) := [(0, .iconst 2, 1), (1, .aload_n 2, 1), (2, .invokestatic 34, 3), (5, .aload_n 0, 1), (6, .iload_n 1, 1), (7, .aload_n 2, 1), (8, .invokevirtual 38, 3), (11, .aload_n 0, 1), (12, .getfield 18, 3), (15, .isub, 1), (16, .ireturn, 1)]
set_option maxRecDepth 100000 in
theorem dk16bacts_cX3_doGoes_0_a : dkA cX3_doGoes dk16bacts_cX3_doGoes_0 = true := by decide +kernel
theorem dX3_doGoes_0 : decode cX3_doGoes 0 = .ok (.iconst 2, 1) := dkAt dk16bacts_cX3_doGoes_0_a 0 rfl
theorem dX3_doGoes_1 : decode cX3_doGoes 1 = .ok (.aload_n 2, 1) := dkAt dk16bacts_cX3_doGoes_0_a 1 rfl
theorem dX3_doGoes_2 : decode cX3_doGoes 2 = .ok (.invokestatic 34, 3) := dkAt dk16bacts_cX3_doGoes_0_a 2 rfl
theorem dX3_doGoes_5 : decode cX3_doGoes 5 = .ok (.aload_n 0, 1) := dkAt dk16bacts_cX3_doGoes_0_a 3 rfl
theorem dX3_doGoes_6 : decode cX3_doGoes 6 = .ok (.iload_n 1, 1) := dkAt dk16bacts_cX3_doGoes_0_a 4 rfl
theorem dX3_doGoes_7 : decode cX3_doGoes 7 = .ok (.aload_n 2, 1) := dkAt dk16bacts_cX3_doGoes_0_a 5 rfl
theorem dX3_doGoes_8 : decode cX3_doGoes 8 = .ok (.invokevirtual 38, 3) := dkAt dk16bacts_cX3_doGoes_0_a 6 rfl
theorem dX3_doGoes_11 : decode cX3_doGoes 11 = .ok (.aload_n 0, 1) := dkAt dk16bacts_cX3_doGoes_0_a 7 rfl
theorem dX3_doGoes_12 : decode cX3_doGoes 12 = .ok (.getfield 18, 3) := dkAt dk16bacts_cX3_doGoes_0_a 8 rfl
theorem dX3_doGoes_15 : decode cX3_doGoes 15 = .ok (.isub, 1) := dkAt dk16bacts_cX3_doGoes_0_a 9 rfl
theorem dX3_doGoes_16 : decode cX3_doGoes 16 = .ok (.ireturn, 1) := dkAt dk16bacts_cX3_doGoes_0_a 10 rfl
noncomputable def dk16bacts_cX3_doLooks_0 : List (Nat × Instr × Nat) := [(0, .iconst 3, 1), (1, .aload_n 2, 1), (2, .invokestatic 34, 3), (5, .aload_n 0, 1), (6, .iload_n 1, 1), (7, .aload_n 2, 1), (8, .invokevirtual 42, 3), (11, .iconst 2, 1), (12, .imul, 1), (13, .ireturn, 1)]
set_option maxRecDepth 100000 in
theorem dk16bacts_cX3_doLooks_0_a : dkA cX3_doLooks dk16bacts_cX3_doLooks_0 = true := by decide +kernel
theorem dX3_doLooks_0 : decode cX3_doLooks 0 = .ok (.iconst 3, 1) := dkAt dk16bacts_cX3_doLooks_0_a 0 rfl
theorem dX3_doLooks_1 : decode cX3_doLooks 1 = .ok (.aload_n 2, 1) := dkAt dk16bacts_cX3_doLooks_0_a 1 rfl
theorem dX3_doLooks_2 : decode cX3_doLooks 2 = .ok (.invokestatic 34, 3) := dkAt dk16bacts_cX3_doLooks_0_a 2 rfl
theorem dX3_doLooks_5 : decode cX3_doLooks 5 = .ok (.aload_n 0, 1) := dkAt dk16bacts_cX3_doLooks_0_a 3 rfl
theorem dX3_doLooks_6 : decode cX3_doLooks 6 = .ok (.iload_n 1, 1) := dkAt dk16bacts_cX3_doLooks_0_a 4 rfl
theorem dX3_doLooks_7 : decode cX3_doLooks 7 = .ok (.aload_n 2, 1) := dkAt dk16bacts_cX3_doLooks_0_a 5 rfl
theorem dX3_doLooks_8 : decode cX3_doLooks 8 = .ok (.invokevirtual 42, 3) := dkAt dk16bacts_cX3_doLooks_0_a 6 rfl
theorem dX3_doLooks_11 : decode cX3_doLooks 11 = .ok (.iconst 2, 1) := dkAt dk16bacts_cX3_doLooks_0_a 7 rfl
theorem dX3_doLooks_12 : decode cX3_doLooks 12 = .ok (.imul, 1) := dkAt dk16bacts_cX3_doLooks_0_a 8 rfl
theorem dX3_doLooks_13 : decode cX3_doLooks 13 = .ok (.ireturn, 1) := dkAt dk16bacts_cX3_doLooks_0_a 9 rfl
noncomputable def dk16bacts_cX4_doSees_0 : List (Nat × Instr × Nat) := [(0, .bipush 11, 2), (2, .aload_n 2, 1), (3, .invokestatic 17, 3), (6, .aload_n 0, 1), (7, .iload_n 1, 1), (8, .iconst 3, 1), (9, .imul, 1), (10, .aload_n 2, 1), (11, .invokespecial 21, 3), (14, .ireturn, 1)]
set_option maxRecDepth 100000 in
theorem dk16bacts_cX4_doSees_0_a : dkA cX4_doSees dk16bacts_cX4_doSees_0 = true := by decide +kernel
theorem dX4_doSees_0 : decode cX4_doSees 0 = .ok (.bipush 11, 2) := dkAt dk16bacts_cX4_doSees_0_a 0 rfl
theorem dX4_doSees_2 : decode cX4_doSees 2 = .ok (.aload_n 2, 1) := dkAt dk16bacts_cX4_doSees_0_a 1 rfl
theorem dX4_doSees_3 : decode cX4_doSees 3 = .ok (.invokestatic 17, 3) := dkAt dk16bacts_cX4_doSees_0_a 2 rfl
theorem dX4_doSees_6 : decode cX4_doSees 6 = .ok (.aload_n 0, 1) := dkAt dk16bacts_cX4_doSees_0_a 3 rfl
theorem dX4_doSees_7 : decode cX4_doSees 7 = .ok (.iload_n 1, 1) := dkAt dk16bacts_cX4_doSees_0_a 4 rfl
theorem dX4_doSees_8 : decode cX4_doSees 8 = .ok (.iconst 3, 1) := dkAt dk16bacts_cX4_doSees_0_a 5 rfl
theorem dX4_doSees_9 : decode cX4_doSees 9 = .ok (.imul, 1) := dkAt dk16bacts_cX4_doSees_0_a 6 rfl
theorem dX4_doSees_10 : decode cX4_doSees 10 = .ok (.aload_n 2, 1) := dkAt dk16bacts_cX4_doSees_0_a 7 rfl
theorem dX4_doSees_11 : decode cX4_doSees 11 = .ok (.invokespecial 21, 3) := dkAt dk16bacts_cX4_doSees_0_a 8 rfl
theorem dX4_doSees_14 : decode cX4_doSees 14 = .ok (.ireturn, 1) := dkAt dk16bacts_cX4_doSees_0_a 9 rfl
noncomputable def dk16bacts_cX6_doGoes_0 : List (Nat × Instr × Nat) := [(0, .bipush 21, 2), (2, .aload_n 2, 1), (3, .invokestatic 11, 3), (6, .aload_n 0, 1), (7, .iload_n 1, 1), (8, .aload_n 2, 1), (9, .invokespecial 17, 3), (12, .ineg, 1), (13, .ireturn, 1)]
set_option maxRecDepth 100000 in
theorem dk16bacts_cX6_doGoes_0_a : dkA cX6_doGoes dk16bacts_cX6_doGoes_0 = true := by decide +kernel
theorem dX6_doGoes_0 : decode cX6_doGoes 0 = .ok (.bipush 21, 2) := dkAt dk16bacts_cX6_doGoes_0_a 0 rfl
theorem dX6_doGoes_2 : decode cX6_doGoes 2 = .ok (.aload_n 2, 1) := dkAt dk16bacts_cX6_doGoes_0_a 1 rfl
theorem dX6_doGoes_3 : decode cX6_doGoes 3 = .ok (.invokestatic 11, 3) := dkAt dk16bacts_cX6_doGoes_0_a 2 rfl
theorem dX6_doGoes_6 : decode cX6_doGoes 6 = .ok (.aload_n 0, 1) := dkAt dk16bacts_cX6_doGoes_0_a 3 rfl
theorem dX6_doGoes_7 : decode cX6_doGoes 7 = .ok (.iload_n 1, 1) := dkAt dk16bacts_cX6_doGoes_0_a 4 rfl
theorem dX6_doGoes_8 : decode cX6_doGoes 8 = .ok (.aload_n 2, 1) := dkAt dk16bacts_cX6_doGoes_0_a 5 rfl
theorem dX6_doGoes_9 : decode cX6_doGoes 9 = .ok (.invokespecial 17, 3) := dkAt dk16bacts_cX6_doGoes_0_a 6 rfl
theorem dX6_doGoes_12 : decode cX6_doGoes 12 = .ok (.ineg, 1) := dkAt dk16bacts_cX6_doGoes_0_a 7 rfl
theorem dX6_doGoes_13 : decode cX6_doGoes 13 = .ok (.ireturn, 1) := dkAt dk16bacts_cX6_doGoes_0_a 8 rfl
noncomputable def dk16bacts_cX1_doLooks_0 : List (Nat × Instr × Nat) := [(0, .bipush 31, 2), (2, .aload_n 2, 1), (3, .invokestatic 7, 3), (6, .aload_n 0, 1), (7, .iload_n 1, 1), (8, .aload_n 2, 1), (9, .invokespecial 13, 3), (12, .bipush 7, 2), (14, .ixor, 1), (15, .ireturn, 1)]
set_option maxRecDepth 100000 in
theorem dk16bacts_cX1_doLooks_0_a : dkA cX1_doLooks dk16bacts_cX1_doLooks_0 = true := by decide +kernel
theorem dX1_doLooks_0 : decode cX1_doLooks 0 = .ok (.bipush 31, 2) := dkAt dk16bacts_cX1_doLooks_0_a 0 rfl
theorem dX1_doLooks_2 : decode cX1_doLooks 2 = .ok (.aload_n 2, 1) := dkAt dk16bacts_cX1_doLooks_0_a 1 rfl
theorem dX1_doLooks_3 : decode cX1_doLooks 3 = .ok (.invokestatic 7, 3) := dkAt dk16bacts_cX1_doLooks_0_a 2 rfl
theorem dX1_doLooks_6 : decode cX1_doLooks 6 = .ok (.aload_n 0, 1) := dkAt dk16bacts_cX1_doLooks_0_a 3 rfl
theorem dX1_doLooks_7 : decode cX1_doLooks 7 = .ok (.iload_n 1, 1) := dkAt dk16bacts_cX1_doLooks_0_a 4 rfl
theorem dX1_doLooks_8 : decode cX1_doLooks 8 = .ok (.aload_n 2, 1) := dkAt dk16bacts_cX1_doLooks_0_a 5 rfl
theorem dX1_doLooks_9 : decode cX1_doLooks 9 = .ok (.invokespecial 13, 3) := dkAt dk16bacts_cX1_doLooks_0_a 6 rfl
theorem dX1_doLooks_12 : decode cX1_doLooks 12 = .ok (.bipush 7, 2) := dkAt dk16bacts_cX1_doLooks_0_a 7 rfl
theorem dX1_doLooks_14 : decode cX1_doLooks 14 = .ok (.ixor, 1) := dkAt dk16bacts_cX1_doLooks_0_a 8 rfl
theorem dX1_doLooks_15 : decode cX1_doLooks 15 = .ok (.ireturn, 1) := dkAt dk16bacts_cX1_doLooks_0_a 9 rfl
noncomputable def dk16bacts_cX10_doLooks_0 : List (Nat × Instr × Nat) := [(0, .bipush 41, 2), (2, .aload_n 2, 1), (3, .invokestatic 36, 3), (6, .aload_n 0, 1), (7, .iload_n 1, 1), (8, .iconst 1, 1), (9, .isub, 1), (10, .aload_n 2, 1), (11, .invokespecial 40, 3), (14, .istore_n 3, 1), (15, .iload_n 3, 1), (16, .aload_n 0, 1), (17, .iconst 2, 1), (18, .aload_n 2, 1), (19, .invokevirtual 44, 3), (22, .iadd, 1), (23, .ireturn, 1)]
set_option maxRecDepth 100000 in
theorem dk16bacts_cX10_doLooks_0_a : dkA cX10_doLooks dk16bacts_cX10_doLooks_0 = true := by decide +kernel
theorem dX10_doLooks_0 : decode cX10_doLooks 0 = .ok (.bipush 41, 2) := dkAt dk16bacts_cX10_doLooks_0_a 0 rfl
theorem dX10_doLooks_2 : decode cX10_doLooks 2 = .ok (.aload_n 2, 1) := dkAt dk16bacts_cX10_doLooks_0_a 1 rfl
theorem dX10_doLooks_3 : decode cX10_doLooks 3 = .ok (.invokestatic 36, 3) := dkAt dk16bacts_cX10_doLooks_0_a 2 rfl
theorem dX10_doLooks_6 : decode cX10_doLooks 6 = .ok (.aload_n 0, 1) := dkAt dk16bacts_cX10_doLooks_0_a 3 rfl
theorem dX10_doLooks_7 : decode cX10_doLooks 7 = .ok (.iload_n 1, 1) := dkAt dk16bacts_cX10_doLooks_0_a 4 rfl
theorem dX10_doLooks_8 : decode cX10_doLooks 8 = .ok (.iconst 1, 1) := dkAt dk16bacts_cX10_doLooks_0_a 5 rfl
theorem dX10_doLooks_9 : decode cX10_doLooks 9 = .ok (.isub, 1) := dkAt dk16bacts_cX10_doLooks_0_a 6 rfl
theorem dX10_doLooks_10 : decode cX10_doLooks 10 = .ok (.aload_n 2, 1) := dkAt dk16bacts_cX10_doLooks_0_a 7 rfl
theorem dX10_doLooks_11 : decode cX10_doLooks 11 = .ok (.invokespecial 40, 3) := dkAt dk16bacts_cX10_doLooks_0_a 8 rfl
theorem dX10_doLooks_14 : decode cX10_doLooks 14 = .ok (.istore_n 3, 1) := dkAt dk16bacts_cX10_doLooks_0_a 9 rfl
theorem dX10_doLooks_15 : decode cX10_doLooks 15 = .ok (.iload_n 3, 1) := dkAt dk16bacts_cX10_doLooks_0_a 10 rfl
theorem dX10_doLooks_16 : decode cX10_doLooks 16 = .ok (.aload_n 0, 1) := dkAt dk16bacts_cX10_doLooks_0_a 11 rfl
theorem dX10_doLooks_17 : decode cX10_doLooks 17 = .ok (.iconst 2, 1) := dkAt dk16bacts_cX10_doLooks_0_a 12 rfl
theorem dX10_doLooks_18 : decode cX10_doLooks 18 = .ok (.aload_n 2, 1) := dkAt dk16bacts_cX10_doLooks_0_a 13 rfl
theorem dX10_doLooks_19 : decode cX10_doLooks 19 = .ok (.invokevirtual 44, 3) := dkAt dk16bacts_cX10_doLooks_0_a 14 rfl
theorem dX10_doLooks_22 : decode cX10_doLooks 22 = .ok (.iadd, 1) := dkAt dk16bacts_cX10_doLooks_0_a 15 rfl
theorem dX10_doLooks_23 : decode cX10_doLooks 23 = .ok (.ireturn, 1) := dkAt dk16bacts_cX10_doLooks_0_a 16 rfl
noncomputable def dk16bacts_cX9_doSees_0 : List (Nat × Instr × Nat) := [(0, .bipush 51, 2), (2, .aload_n 2, 1), (3, .invokestatic 17, 3), (6, .aload_n 0, 1), (7, .iload_n 1, 1), (8, .aload_n 2, 1), (9, .invokespecial 21, 3), (12, .aload_n 0, 1), (13, .getfield 25, 3), (16, .ixor, 1), (17, .ireturn, 1)]
set_option maxRecDepth 100000 in
theorem dk16bacts_cX9_doSees_0_a : dkA cX9_doSees dk16bacts_cX9_doSees_0 = true := by decide +kernel
theorem dX9_doSees_0 : decode cX9_doSees 0 = .ok (.bipush 51, 2) := dkAt dk16bacts_cX9_doSees_0_a 0 rfl
theorem dX9_doSees_2 : decode cX9_doSees 2 = .ok (.aload_n 2, 1) := dkAt dk16bacts_cX9_doSees_0_a 1 rfl
theorem dX9_doSees_3 : decode cX9_doSees 3 = .ok (.invokestatic 17, 3) := dkAt dk16bacts_cX9_doSees_0_a 2 rfl
theorem dX9_doSees_6 : decode cX9_doSees 6 = .ok (.aload_n 0, 1) := dkAt dk16bacts_cX9_doSees_0_a 3 rfl
theorem dX9_doSees_7 : decode cX9_doSees 7 = .ok (.iload_n 1, 1) := dkAt dk16bacts_cX9_doSees_0_a 4 rfl
theorem dX9_doSees_8 : decode cX9_doSees 8 = .ok (.aload_n 2, 1) := dkAt dk16bacts_cX9_doSees_0_a 5 rfl
theorem dX9_doSees_9 : decode cX9_doSees 9 = .ok (.invokespecial 21, 3) := dkAt dk16bacts_cX9_doSees_0_a 6 rfl
theorem dX9_doSees_12 : decode cX9_doSees 12 = .ok (.aload_n 0, 1) := dkAt dk16bacts_cX9_doSees_0_a 7 rfl
theorem dX9_doSees_13 : decode cX9_doSees 13 = .ok (.getfield 25, 3) := dkAt dk16bacts_cX9_doSees_0_a 8 rfl
theorem dX9_doSees_16 : decode cX9_doSees 16 = .ok (.ixor, 1) := dkAt dk16bacts_cX9_doSees_0_a 9 rfl
theorem dX9_doSees_17 : decode cX9_doSees 17 = .ok (.ireturn, 1) := dkAt dk16bacts_cX9_doSees_0_a 10 rfl
noncomputable def dk16bacts_cX7_doGoes_0 : List (Nat × Instr × Nat) := [(0, .bipush 61, 2), (2, .aload_n 2, 1), (3, .invokestatic 16, 3), (6, .aload_n 0, 1), (7, .iload_n 1, 1), (8, .aload_n 2, 1), (9, .invokespecial 22, 3), (12, .aload_n 0, 1), (13, .getfield 26, 3), (16, .iadd, 1), (17, .ireturn, 1)]
set_option maxRecDepth 100000 in
theorem dk16bacts_cX7_doGoes_0_a : dkA cX7_doGoes dk16bacts_cX7_doGoes_0 = true := by decide +kernel
theorem dX7_doGoes_0 : decode cX7_doGoes 0 = .ok (.bipush 61, 2) := dkAt dk16bacts_cX7_doGoes_0_a 0 rfl
theorem dX7_doGoes_2 : decode cX7_doGoes 2 = .ok (.aload_n 2, 1) := dkAt dk16bacts_cX7_doGoes_0_a 1 rfl
theorem dX7_doGoes_3 : decode cX7_doGoes 3 = .ok (.invokestatic 16, 3) := dkAt dk16bacts_cX7_doGoes_0_a 2 rfl
theorem dX7_doGoes_6 : decode cX7_doGoes 6 = .ok (.aload_n 0, 1) := dkAt dk16bacts_cX7_doGoes_0_a 3 rfl
theorem dX7_doGoes_7 : decode cX7_doGoes 7 = .ok (.iload_n 1, 1) := dkAt dk16bacts_cX7_doGoes_0_a 4 rfl
theorem dX7_doGoes_8 : decode cX7_doGoes 8 = .ok (.aload_n 2, 1) := dkAt dk16bacts_cX7_doGoes_0_a 5 rfl
theorem dX7_doGoes_9 : decode cX7_doGoes 9 = .ok (.invokespecial 22, 3) := dkAt dk16bacts_cX7_doGoes_0_a 6 rfl
theorem dX7_doGoes_12 : decode cX7_doGoes 12 = .ok (.aload_n 0, 1) := dkAt dk16bacts_cX7_doGoes_0_a 7 rfl
theorem dX7_doGoes_13 : decode cX7_doGoes 13 = .ok (.getfield 26, 3) := dkAt dk16bacts_cX7_doGoes_0_a 8 rfl
theorem dX7_doGoes_16 : decode cX7_doGoes 16 = .ok (.iadd, 1) := dkAt dk16bacts_cX7_doGoes_0_a 9 rfl
theorem dX7_doGoes_17 : decode cX7_doGoes 17 = .ok (.ireturn, 1) := dkAt dk16bacts_cX7_doGoes_0_a 10 rfl
theorem kc_X3_doSees_X3_1_0 : (.fieldLink RX3 15 "MistHeaps$Heap" "number" "I" : Cond) ∈ wsX3_doSees := kc_of 231 rfl rfl rfl
theorem kc_X3_doSees_X3_1_1 : ∀ w ∈ wsX30, w ∈ wsX3_doSees := fun w h => List.mem_cons_of_mem _ (gin_wsX30 w h)
set_option maxHeartbeats 4000000 in
set_option maxRecDepth 100000 in
theorem c_X3_doSees_X3_1 (l : Launch) (dC : Nat → ClassId) (dI : Nat → Nat → Nat) (ad : Nat → Nat) (cB bS : Nat)    (bo : Nat) (aEl : Nat) (i0 : Nat) (sk : Int32) (sv : Int32) (scl : Int32) (x : Int32) (cEl : ClassId) (fEl : Nat → Option Nat) (a0 : Nat) (sz_ : Nat) (mdc : Int32) (tl : List Nat) (sz : Nat) (hsz : sz_ + 1 ≤ 10) (zL : okL ad fEl sz_ tl) : Met l yX3_doSees wsX3_doSees ({ frames := 3, cells := 0, slots := 0, locals := 65 } : Room) (va_Pc [.ref a0, .int x, .ref bo] (fun U => U.heap.size = sz ∧ va_P (dC, dI) vwCl [(zo1iri bo mdc aEl (nI sz_)), (zaR aEl cEl 10 fEl)] U.heap ∧ va_K (dC, dI) vwCl [(cEl, .object "java/lang/Object")] U ∧ va_D (fun _ => True) [(zo1iri bo mdc aEl (nI sz_)), (zaR aEl cEl 10 fEl)] ∧ Gi ad cB bS (va_A [(zo1iri bo mdc aEl (nI sz_)), (zaR aEl cEl 10 fEl)] sz) U ∧ Gb (va_A [(zo1iri bo mdc aEl (nI sz_)), (zaR aEl cEl 10 fEl)] sz) U ∧ Gw (va_A [(zo1iri bo mdc aEl (nI sz_)), (zaR aEl cEl 10 fEl)] sz) U ∧ Fz dC dI [(zo5iiii a0 sk (nI i0) sv scl)] [] (va_A [(zo1iri bo mdc aEl (nI sz_)), (zaR aEl cEl 10 fEl)] sz) U)) (va_Qi (fun (r : Int32) (u : (Int32) × (Nat) × (Nat → Option Nat)) => match u with | (mdc9, sz_9, fEl9) => r = x + nI i0 ∧ sz_9 = sz_ + 1 ∧ okL ad fEl9 sz_9 (tl ++ [1])) (fun (u : (Int32) × (Nat) × (Nat → Option Nat)) (t : State) => match u with | (mdc9, sz_9, fEl9) => va_P (dC, dI) vwCl [(zo1iri bo mdc9 aEl (nI sz_9)), (zaR aEl cEl 10 fEl9)] t.heap ∧ va_K (dC, dI) vwCl [(cEl, .object "java/lang/Object")] t ∧ va_D (va_A [(zo1iri bo mdc aEl (nI sz_)), (zaR aEl cEl 10 fEl)] sz) [(zo1iri bo mdc9 aEl (nI sz_9)), (zaR aEl cEl 10 fEl9)]) (va_A [(zo1iri bo mdc aEl (nI sz_)), (zaR aEl cEl 10 fEl)] sz)) 0 0 (va_A [(zo1iri bo mdc aEl (nI sz_)), (zaR aEl cEl 10 fEl)] sz) := by
  refine met_ofQ (cc := cX3_doSees) (maxL := 3) (ret := (some .int)) (by decide) rfl ?_
  intro p e s m args below meth c s₁ Q B hml hv hQ
  obtain ⟨rfl, hsz, hP, hK, hD0, hI_, hB_, hW_, hZ⟩ := hv
  have hx := B.exec
  have hb := B.bytes
  have hr := B.returns
  have hts := atoms_spec (ws := wsX3_doSees) B.pre
  have hown : s.vm.findClass RX3 = some m.cls := findClass_of_methodNamed B.named
  have hlocks := B.notSynchronized
  subst hsz
  have hD := hD0.self (sz := s.heap.size)
  generalize hAe : va_A [(zo1iri bo mdc aEl (nI sz_)), (zaR aEl cEl 10 fEl)] s.heap.size = A at hD hQ hI_ hB_ hW_ hZ ⊢
  have hA : ∀ q : Nat, s.heap.size ≤ q → A q := fun q h => by rw [← hAe]; exact Or.inr h
  have hS : va_S A s.heap s.heap [] := va_S.rf
  have hl := lv_entry [.ref a0, .int x, .ref bo] (n := 3) (Nat.le_of_ble_eq_true rfl)
  rw [lg_entry_eq]
  generalize (lg_sl [.ref a0, .int x, .ref bo] ++ List.replicate (3 - (lg_sl [.ref a0, .int x, .ref bo]).length) Slot.unset).toArray = ls at hl ⊢
  generalize hag : ([.ref a0, .int x, .ref bo] : List Value).toArray = args at hts hQ ⊢
  have hl : lv_has ls 3 [(0, .ref a0), (1, .int x), (2, .ref bo)] := hl
  obtain ⟨H, hH⟩ : ∃ H : Heap, H = s.heap := ⟨_, rfl⟩
  rw [← hH] at hP
  rw [← hH]
  have hS : va_S A s.heap H [] := by rw [hH]; exact hS
  obtain ⟨locs, hlo⟩ : ∃ L : List Loc, L = [] := ⟨_, rfl⟩
  rw [← hlo] at hS
  rw [← hlo]
  clear hH hlo
  refine lv_iconst (v := 1) hx hb dX3_doSees_0 (by decide) ?_
  refine lv_aload_n hx hb dX3_doSees_1 rfl (lv_at hl 2 rfl) ?_
  have hPc := hP.sub (ws' := [(zo1iri bo mdc aEl (nI sz_)), (zaR aEl cEl 10 fEl)]) [0, 1] rfl
  have hDc := hD.sub (ws' := [(zo1iri bo mdc aEl (nI sz_)), (zaR aEl cEl 10 fEl)]) [0, 1] (by decide) rfl
  have hKc := hK.sub (tys' := [(cEl, .object "java/lang/Object")]) [0] rfl
  have hFc := va_free (wc := [(zo1iri bo mdc aEl (nI sz_)), (zaR aEl cEl 10 fEl)]) hD hS hA [0, 1] rfl
  refine va_callv (va_runS (As := [.int 1, .ref bo]) (rest := []) ⟨hx, hb, hml, hown, hts⟩ (c_begin1 l dC dI ad cB bS bo aEl 1 cEl fEl sz_ mdc tl H.size (by omega) (by omega) (zL)) (va_cwS 2 hts gX3_doSees_X3_begin rfl rfl rfl hd_yX3_begin.2 ⟨Nat.le_of_ble_eq_true rfl, Nat.le_of_ble_eq_true rfl⟩) ⟨fun a U g mk q => by obtain ⟨q0, q1, qP, qK, qD, qhI_⟩ := q; exact ⟨q0, q1, qP, va_K.moved (u := U) (U := U.calling g mk a) (Vm.Alike.refl U.vm) qK, qD, qhI_.same rfl rfl⟩, fun U hU hW => ⟨rfl, by rw [hU], by rw [hU]; exact hPc, va_K.moved hW.alike hKc, hDc.weaken (fun _ _ _ _ => trivial), hI_.call hS hU hW (fun q h => hFc q h)⟩⟩ rfl rfl hl.1 rfl (lv_room (Nat.le_of_ble_eq_true rfl)) dX3_doSees_2 ⟨Nat.le_of_ble_eq_true rfl, Nat.le_of_ble_eq_true rfl⟩) hS (fun q _ h => hFc q h) hFc (fun u tC H1 locs htC hvm hw_2 hB hz1 hk1 hS => ?_)
  obtain ⟨mdc9_3, sz_9_4, fEl9_5⟩ := u
  try dsimp only at hw_2 hB
  obtain ⟨hP1, hK1, hD1⟩ := hB
  rw [htC] at hP1
  have hK1 := va_K.moved hvm.symm hK1
  obtain ⟨hP, hD⟩ := va_join (wr := []) (w1 := [(zo1iri bo mdc9_3 aEl (nI sz_9_4)), (zaR aEl cEl 10 fEl9_5)]) hP hD [0, 1] [] rfl rfl (by decide) (by decide) hk1 hFc hP1 hD1
  have hK := (hK.sub (tys' := []) [] rfl).app hK1
  generalize H1 = H at hP hS ⊢
  have hP : va_P (dC, dI) vwCl [(zo1iri bo mdc9_3 aEl (nI sz_9_4)), (zaR aEl cEl 10 fEl9_5)] H := hP
  have hD : va_D A [(zo1iri bo mdc9_3 aEl (nI sz_9_4)), (zaR aEl cEl 10 fEl9_5)] := hD
  have hK : va_K (dC, dI) vwCl [(cEl, .object "java/lang/Object")] s := hK
  obtain ⟨e_6, hL_7⟩ := hw_2
  obtain rfl := (e_6).symm
  refine lv_iload_n hx hb dX3_doSees_5 rfl (lv_at hl 1 rfl) ?_
  refine lv_aload_n hx hb dX3_doSees_6 rfl (lv_at hl 0 rfl) ?_
  refine va_get (D := (dC, dI)) (ci := 5) (v := .int (nI i0)) (C := RX3) (T := TX3) (N := 4) hx hb hts kc_X3_doSees_X3_1_1 hown hZ.2.1 (hZ.P hS) 0 rfl rfl 1 (by decide) (hts (.fieldLink RX3 15 "MistHeaps$Heap" "number" "I") kc_X3_doSees_X3_1_0) (fun _ h9 => h9) rfl dX3_doSees_7 ?_
  refine lv_iadd hx hb dX3_doSees_10 ?_
  rw [hQ]
  have hP9 := hP.sub (ws' := [(zo1iri bo mdc9_3 aEl (nI (sz_ + 1))), (zaR aEl cEl 10 fEl9_5)]) [0, 1] rfl
  have hD9 := hD.sub (ws' := [(zo1iri bo mdc9_3 aEl (nI (sz_ + 1))), (zaR aEl cEl 10 fEl9_5)]) [0, 1] (by decide) rfl
  have hK9 := hK.sub (tys' := [(cEl, .object "java/lang/Object")]) [0] rfl
  exact W.iret (v := x + (nI i0)) hx hb hr (fun tQ htQ hWQ => ⟨⟨(x + (nI i0)), (mdc9_3, (sz_ + 1), fEl9_5), rfl, ⟨rfl, by omega, by have h9 := hL_7; exact h9⟩, by rw [htQ]; exact hP9, va_K.moved hWQ.alike hK9, hD9⟩, hS.F htQ⟩) hS.2.2 dX3_doSees_11

theorem kc_X3_doSees_X3_0_0 : (.fieldLink RX3 15 "MistHeaps$Heap" "number" "I" : Cond) ∈ wsX3_doSees := kc_of 231 rfl rfl rfl
theorem kc_X3_doSees_X3_0_1 : ∀ w ∈ wsX30, w ∈ wsX3_doSees := fun w h => List.mem_cons_of_mem _ (gin_wsX30 w h)
set_option maxHeartbeats 4000000 in
set_option maxRecDepth 100000 in
theorem c_X3_doSees_X3_0 (l : Launch) (dC : Nat → ClassId) (dI : Nat → Nat → Nat) (ad : Nat → Nat) (cB bS : Nat)    (bo : Nat) (i0 : Nat) (sk : Int32) (sv : Int32) (scl : Int32) (x : Int32) (a0 : Nat) (mdc : Int32) (sz : Nat) : Met l yX3_doSees wsX3_doSees ({ frames := 6, cells := 1, slots := 10, locals := 122 } : Room) (va_Pc [.ref a0, .int x, .ref bo] (fun U => U.heap.size = sz ∧ va_P (dC, dI) vwCl [(zo1iri bo mdc bS 0)] U.heap ∧ va_K (dC, dI) vwCl [] U ∧ va_D (fun _ => True) [(zo1iri bo mdc bS 0)] ∧ Gi ad cB bS (va_A [(zo1iri bo mdc bS 0)] sz) U ∧ Gb (va_A [(zo1iri bo mdc bS 0)] sz) U ∧ Gw (va_A [(zo1iri bo mdc bS 0)] sz) U ∧ Fz dC dI [(zo5iiii a0 sk (nI i0) sv scl)] [] (va_A [(zo1iri bo mdc bS 0)] sz) U)) (va_Qi (fun (r : Int32) (u : (Int32) × (Nat) × (ClassId) × (Nat) × (Nat → Option Nat)) => match u with | (mdc9, aEl9, cEl9, sz_9, fEl9) => r = x + nI i0 ∧ sz_9 = 1 ∧ okL ad fEl9 sz_9 [1]) (fun (u : (Int32) × (Nat) × (ClassId) × (Nat) × (Nat → Option Nat)) (t : State) => match u with | (mdc9, aEl9, cEl9, sz_9, fEl9) => va_P (dC, dI) vwCl [(zo1iri bo mdc9 aEl9 (nI sz_9)), (zaR aEl9 cEl9 10 fEl9)] t.heap ∧ va_K (dC, dI) vwCl [(cEl9, .object "java/lang/Object")] t ∧ va_D (va_A [(zo1iri bo mdc bS 0)] sz) [(zo1iri bo mdc9 aEl9 (nI sz_9)), (zaR aEl9 cEl9 10 fEl9)]) (va_A [(zo1iri bo mdc bS 0)] sz)) 1 10 (va_A [(zo1iri bo mdc bS 0)] sz) := by
  refine met_ofQ (cc := cX3_doSees) (maxL := 3) (ret := (some .int)) (by decide) rfl ?_
  intro p e s m args below meth c s₁ Q B hml hv hQ
  obtain ⟨rfl, hsz, hP, hK, hD0, hI_, hB_, hW_, hZ⟩ := hv
  have hx := B.exec
  have hb := B.bytes
  have hr := B.returns
  have hts := atoms_spec (ws := wsX3_doSees) B.pre
  have hown : s.vm.findClass RX3 = some m.cls := findClass_of_methodNamed B.named
  have hlocks := B.notSynchronized
  subst hsz
  have hD := hD0.self (sz := s.heap.size)
  generalize hAe : va_A [(zo1iri bo mdc bS 0)] s.heap.size = A at hD hQ hI_ hB_ hW_ hZ ⊢
  have hA : ∀ q : Nat, s.heap.size ≤ q → A q := fun q h => by rw [← hAe]; exact Or.inr h
  have hS : va_S A s.heap s.heap [] := va_S.rf
  have hl := lv_entry [.ref a0, .int x, .ref bo] (n := 3) (Nat.le_of_ble_eq_true rfl)
  rw [lg_entry_eq]
  generalize (lg_sl [.ref a0, .int x, .ref bo] ++ List.replicate (3 - (lg_sl [.ref a0, .int x, .ref bo]).length) Slot.unset).toArray = ls at hl ⊢
  generalize hag : ([.ref a0, .int x, .ref bo] : List Value).toArray = args at hts hQ ⊢
  have hl : lv_has ls 3 [(0, .ref a0), (1, .int x), (2, .ref bo)] := hl
  obtain ⟨H, hH⟩ : ∃ H : Heap, H = s.heap := ⟨_, rfl⟩
  rw [← hH] at hP
  rw [← hH]
  have hS : va_S A s.heap H [] := by rw [hH]; exact hS
  obtain ⟨locs, hlo⟩ : ∃ L : List Loc, L = [] := ⟨_, rfl⟩
  rw [← hlo] at hS
  rw [← hlo]
  clear hH hlo
  refine lv_iconst (v := 1) hx hb dX3_doSees_0 (by decide) ?_
  refine lv_aload_n hx hb dX3_doSees_1 rfl (lv_at hl 2 rfl) ?_
  have hPc := hP.sub (ws' := [(zo1iri bo mdc bS 0)]) [0] rfl
  have hDc := hD.sub (ws' := [(zo1iri bo mdc bS 0)]) [0] (by decide) rfl
  have hKc := hK.sub (tys' := []) [] rfl
  have hFc := va_free (wc := [(zo1iri bo mdc bS 0)]) hD hS hA [0] rfl
  refine va_callv (va_runS (As := [.int 1, .ref bo]) (rest := []) ⟨hx, hb, hml, hown, hts⟩ (c_begin0 l dC dI ad cB bS bo mdc 1 H.size (by omega)) (va_cwS 2 hts gX3_doSees_X3_begin rfl rfl rfl hd_yX3_begin.2 ⟨Nat.le_of_ble_eq_true rfl, Nat.le_of_ble_eq_true rfl⟩) ⟨fun a U g mk q => by obtain ⟨q0, q1, qP, qK, qD, qhI_⟩ := q; exact ⟨q0, q1, qP, va_K.moved (u := U) (U := U.calling g mk a) (Vm.Alike.refl U.vm) qK, qD, qhI_.same rfl rfl⟩, fun U hU hW => ⟨rfl, by rw [hU], by rw [hU]; exact hPc, va_K.moved hW.alike hKc, hDc.weaken (fun _ _ _ _ => trivial), hI_.call hS hU hW (fun q h => hFc q h)⟩⟩ rfl rfl hl.1 rfl (lv_room (Nat.le_of_ble_eq_true rfl)) dX3_doSees_2 ⟨Nat.le_of_ble_eq_true rfl, Nat.le_of_ble_eq_true rfl⟩) hS (fun q _ h => hFc q h) hFc (fun u tC H1 locs htC hvm hw_2 hB hz1 hk1 hS => ?_)
  obtain ⟨mdc9_3, aEl9_4, cEl9_5, sz_9_6, fEl9_7⟩ := u
  try dsimp only at hw_2 hB
  obtain ⟨hP1, hK1, hD1⟩ := hB
  rw [htC] at hP1
  have hK1 := va_K.moved hvm.symm hK1
  obtain ⟨hP, hD⟩ := va_join (wr := []) (w1 := [(zo1iri bo mdc9_3 aEl9_4 (nI sz_9_6)), (zaR aEl9_4 cEl9_5 10 fEl9_7)]) hP hD [0] [] rfl rfl (by decide) (by decide) hk1 hFc hP1 hD1
  have hK := (hK.sub (tys' := []) [] rfl).app hK1
  generalize H1 = H at hP hS ⊢
  have hP : va_P (dC, dI) vwCl [(zo1iri bo mdc9_3 aEl9_4 (nI sz_9_6)), (zaR aEl9_4 cEl9_5 10 fEl9_7)] H := hP
  have hD : va_D A [(zo1iri bo mdc9_3 aEl9_4 (nI sz_9_6)), (zaR aEl9_4 cEl9_5 10 fEl9_7)] := hD
  have hK : va_K (dC, dI) vwCl [(cEl9_5, .object "java/lang/Object")] s := hK
  refine W.widen (k := 1) (n := 10) (by omega) (by omega) ?_
  obtain ⟨e_8, hL_9⟩ := hw_2
  obtain rfl := (e_8).symm
  refine lv_iload_n hx hb dX3_doSees_5 rfl (lv_at hl 1 rfl) ?_
  refine lv_aload_n hx hb dX3_doSees_6 rfl (lv_at hl 0 rfl) ?_
  refine va_get (D := (dC, dI)) (ci := 5) (v := .int (nI i0)) (C := RX3) (T := TX3) (N := 4) hx hb hts kc_X3_doSees_X3_0_1 hown hZ.2.1 (hZ.P hS) 0 rfl rfl 1 (by decide) (hts (.fieldLink RX3 15 "MistHeaps$Heap" "number" "I") kc_X3_doSees_X3_0_0) (fun _ h9 => h9) rfl dX3_doSees_7 ?_
  refine lv_iadd hx hb dX3_doSees_10 ?_
  rw [hQ]
  have hP9 := hP.sub (ws' := [(zo1iri bo mdc9_3 aEl9_4 (nI 1)), (zaR aEl9_4 cEl9_5 10 fEl9_7)]) [0, 1] rfl
  have hD9 := hD.sub (ws' := [(zo1iri bo mdc9_3 aEl9_4 (nI 1)), (zaR aEl9_4 cEl9_5 10 fEl9_7)]) [0, 1] (by decide) rfl
  have hK9 := hK.sub (tys' := [(cEl9_5, .object "java/lang/Object")]) [0] rfl
  refine W.widen (k := 1) (n := 10) (by omega) (by omega) ?_
  exact W.iret (v := x + (nI i0)) hx hb hr (fun tQ htQ hWQ => ⟨⟨(x + (nI i0)), (mdc9_3, aEl9_4, cEl9_5, 1, fEl9_7), rfl, ⟨rfl, by omega, hL_9⟩, by rw [htQ]; exact hP9, va_K.moved hWQ.alike hK9, hD9⟩, hS.F htQ⟩) hS.2.2 dX3_doSees_11

theorem kc_X3_doGoes_X3_1_0 : (.fieldLink RX3 18 "MistHeaps$Heap" "v" "I" : Cond) ∈ wsX3_doGoes := kc_of 236 rfl rfl rfl
theorem kc_X3_doGoes_X3_1_1 : ∀ w ∈ wsX30, w ∈ wsX3_doGoes := fun w h => List.mem_cons_of_mem _ (gin_wsX30 w h)
set_option maxHeartbeats 4000000 in
set_option maxRecDepth 100000 in
theorem c_X3_doGoes_X3_1 (l : Launch) (dC : Nat → ClassId) (dI : Nat → Nat → Nat) (ad : Nat → Nat) (cB bS : Nat)    (bo : Nat) (aEl : Nat) (i0 : Nat) (sk : Int32) (sv : Int32) (scl : Int32) (x : Int32) (cEl : ClassId) (fEl : Nat → Option Nat) (a0 : Nat) (sz_ : Nat) (mdc : Int32) (tl : List Nat) (sz : Nat) (hsz : sz_ + 2 ≤ 10) (zL : okL ad fEl sz_ tl) : Met l yX3_doGoes wsX3_doGoes ({ frames := 4, cells := 0, slots := 0, locals := 87 } : Room) (va_Pc [.ref a0, .int x, .ref bo] (fun U => U.heap.size = sz ∧ va_P (dC, dI) vwCl [(zo1iri bo mdc aEl (nI sz_)), (zaR aEl cEl 10 fEl)] U.heap ∧ va_K (dC, dI) vwCl [(cEl, .object "java/lang/Object")] U ∧ va_D (fun _ => True) [(zo1iri bo mdc aEl (nI sz_)), (zaR aEl cEl 10 fEl)] ∧ Gi ad cB bS (va_A [(zo1iri bo mdc aEl (nI sz_)), (zaR aEl cEl 10 fEl)] sz) U ∧ Gb (va_A [(zo1iri bo mdc aEl (nI sz_)), (zaR aEl cEl 10 fEl)] sz) U ∧ Gw (va_A [(zo1iri bo mdc aEl (nI sz_)), (zaR aEl cEl 10 fEl)] sz) U ∧ Fz dC dI [(zo5iiii a0 sk (nI i0) sv scl)] [] (va_A [(zo1iri bo mdc aEl (nI sz_)), (zaR aEl cEl 10 fEl)] sz) U)) (va_Qi (fun (r : Int32) (u : (Int32) × (Nat) × (Nat → Option Nat)) => match u with | (mdc9, sz_9, fEl9) => r = (x + nI i0) - sv ∧ sz_9 = sz_ + 2 ∧ okL ad fEl9 sz_9 (tl ++ [2, 1])) (fun (u : (Int32) × (Nat) × (Nat → Option Nat)) (t : State) => match u with | (mdc9, sz_9, fEl9) => va_P (dC, dI) vwCl [(zo1iri bo mdc9 aEl (nI sz_9)), (zaR aEl cEl 10 fEl9)] t.heap ∧ va_K (dC, dI) vwCl [(cEl, .object "java/lang/Object")] t ∧ va_D (va_A [(zo1iri bo mdc aEl (nI sz_)), (zaR aEl cEl 10 fEl)] sz) [(zo1iri bo mdc9 aEl (nI sz_9)), (zaR aEl cEl 10 fEl9)]) (va_A [(zo1iri bo mdc aEl (nI sz_)), (zaR aEl cEl 10 fEl)] sz)) 0 0 (va_A [(zo1iri bo mdc aEl (nI sz_)), (zaR aEl cEl 10 fEl)] sz) := by
  refine met_ofQ (cc := cX3_doGoes) (maxL := 3) (ret := (some .int)) (by decide) rfl ?_
  intro p e s m args below meth c s₁ Q B hml hv hQ
  obtain ⟨rfl, hsz, hP, hK, hD0, hI_, hB_, hW_, hZ⟩ := hv
  have hx := B.exec
  have hb := B.bytes
  have hr := B.returns
  have hts := atoms_spec (ws := wsX3_doGoes) B.pre
  have hown : s.vm.findClass RX3 = some m.cls := findClass_of_methodNamed B.named
  have hlocks := B.notSynchronized
  subst hsz
  have hD := hD0.self (sz := s.heap.size)
  generalize hAe : va_A [(zo1iri bo mdc aEl (nI sz_)), (zaR aEl cEl 10 fEl)] s.heap.size = A at hD hQ hI_ hB_ hW_ hZ ⊢
  have hA : ∀ q : Nat, s.heap.size ≤ q → A q := fun q h => by rw [← hAe]; exact Or.inr h
  have hS : va_S A s.heap s.heap [] := va_S.rf
  have hl := lv_entry [.ref a0, .int x, .ref bo] (n := 3) (Nat.le_of_ble_eq_true rfl)
  rw [lg_entry_eq]
  generalize (lg_sl [.ref a0, .int x, .ref bo] ++ List.replicate (3 - (lg_sl [.ref a0, .int x, .ref bo]).length) Slot.unset).toArray = ls at hl ⊢
  generalize hag : ([.ref a0, .int x, .ref bo] : List Value).toArray = args at hts hQ ⊢
  have hl : lv_has ls 3 [(0, .ref a0), (1, .int x), (2, .ref bo)] := hl
  obtain ⟨H, hH⟩ : ∃ H : Heap, H = s.heap := ⟨_, rfl⟩
  rw [← hH] at hP
  rw [← hH]
  have hS : va_S A s.heap H [] := by rw [hH]; exact hS
  obtain ⟨locs, hlo⟩ : ∃ L : List Loc, L = [] := ⟨_, rfl⟩
  rw [← hlo] at hS
  rw [← hlo]
  clear hH hlo
  refine lv_iconst (v := 2) hx hb dX3_doGoes_0 (by decide) ?_
  refine lv_aload_n hx hb dX3_doGoes_1 rfl (lv_at hl 2 rfl) ?_
  have hPc := hP.sub (ws' := [(zo1iri bo mdc aEl (nI sz_)), (zaR aEl cEl 10 fEl)]) [0, 1] rfl
  have hDc := hD.sub (ws' := [(zo1iri bo mdc aEl (nI sz_)), (zaR aEl cEl 10 fEl)]) [0, 1] (by decide) rfl
  have hKc := hK.sub (tys' := [(cEl, .object "java/lang/Object")]) [0] rfl
  have hFc := va_free (wc := [(zo1iri bo mdc aEl (nI sz_)), (zaR aEl cEl 10 fEl)]) hD hS hA [0, 1] rfl
  refine va_callv (va_runS (As := [.int 2, .ref bo]) (rest := []) ⟨hx, hb, hml, hown, hts⟩ (c_begin1 l dC dI ad cB bS bo aEl 2 cEl fEl sz_ mdc tl H.size (by omega) (by omega) (zL)) (va_cwS 2 hts gX3_doGoes_X3_begin rfl rfl rfl hd_yX3_begin.2 ⟨Nat.le_of_ble_eq_true rfl, Nat.le_of_ble_eq_true rfl⟩) ⟨fun a U g mk q => by obtain ⟨q0, q1, qP, qK, qD, qhI_⟩ := q; exact ⟨q0, q1, qP, va_K.moved (u := U) (U := U.calling g mk a) (Vm.Alike.refl U.vm) qK, qD, qhI_.same rfl rfl⟩, fun U hU hW => ⟨rfl, by rw [hU], by rw [hU]; exact hPc, va_K.moved hW.alike hKc, hDc.weaken (fun _ _ _ _ => trivial), hI_.call hS hU hW (fun q h => hFc q h)⟩⟩ rfl rfl hl.1 rfl (lv_room (Nat.le_of_ble_eq_true rfl)) dX3_doGoes_2 ⟨Nat.le_of_ble_eq_true rfl, Nat.le_of_ble_eq_true rfl⟩) hS (fun q _ h => hFc q h) hFc (fun u tC H1 locs htC hvm hw_2 hB hz1 hk1 hS => ?_)
  obtain ⟨mdc9_3, sz_9_4, fEl9_5⟩ := u
  try dsimp only at hw_2 hB
  obtain ⟨hP1, hK1, hD1⟩ := hB
  rw [htC] at hP1
  have hK1 := va_K.moved hvm.symm hK1
  obtain ⟨hP, hD⟩ := va_join (wr := []) (w1 := [(zo1iri bo mdc9_3 aEl (nI sz_9_4)), (zaR aEl cEl 10 fEl9_5)]) hP hD [0, 1] [] rfl rfl (by decide) (by decide) hk1 hFc hP1 hD1
  have hK := (hK.sub (tys' := []) [] rfl).app hK1
  generalize H1 = H at hP hS ⊢
  have hP : va_P (dC, dI) vwCl [(zo1iri bo mdc9_3 aEl (nI sz_9_4)), (zaR aEl cEl 10 fEl9_5)] H := hP
  have hD : va_D A [(zo1iri bo mdc9_3 aEl (nI sz_9_4)), (zaR aEl cEl 10 fEl9_5)] := hD
  have hK : va_K (dC, dI) vwCl [(cEl, .object "java/lang/Object")] s := hK
  obtain ⟨e_6, hL_7⟩ := hw_2
  obtain rfl := (e_6).symm
  refine lv_aload_n hx hb dX3_doGoes_5 rfl (lv_at hl 0 rfl) ?_
  refine lv_iload_n hx hb dX3_doGoes_6 rfl (lv_at hl 1 rfl) ?_
  refine lv_aload_n hx hb dX3_doGoes_7 rfl (lv_at hl 2 rfl) ?_
  have hPc := hP.sub (ws' := [(zo1iri bo mdc9_3 aEl (nI (sz_ + 1))), (zaR aEl cEl 10 fEl9_5)]) [0, 1] rfl
  have hDc := hD.sub (ws' := [(zo1iri bo mdc9_3 aEl (nI (sz_ + 1))), (zaR aEl cEl 10 fEl9_5)]) [0, 1] (by decide) rfl
  have hKc := hK.sub (tys' := [(cEl, .object "java/lang/Object")]) [0] rfl
  have hFc := va_free (wc := [(zo1iri bo mdc9_3 aEl (nI (sz_ + 1))), (zaR aEl cEl 10 fEl9_5)]) hD hS hA [0, 1] rfl
  refine va_calli (va_runV (As := [.int x, .ref bo]) (rest := []) ⟨hx, hb, hml, hown, hts⟩ (c_X3_doSees_X3_1 l dC dI ad cB bS    bo aEl i0 sk sv scl x cEl fEl9_5 a0 (sz_ + 1) mdc9_3 (tl ++ [2]) H.size (by omega) (hL_7)) (cwV 2 hts gX3_doGoes_X3_doSees rfl rfl rfl hd_yX3_doSees ⟨Nat.le_of_ble_eq_true rfl, Nat.le_of_ble_eq_true rfl⟩) ⟨fun a U g mk q => by obtain ⟨q0, q1, qP, qK, qD, qhI_, qhB_, qhW_, qhZ⟩ := q; exact ⟨q0, q1, qP, va_K.moved (u := U) (U := U.calling g mk a) (Vm.Alike.refl U.vm) qK, qD, qhI_.same rfl rfl, qhB_.same rfl rfl, qhW_.same rfl rfl, qhZ.same rfl rfl⟩, va_recv hZ.2.1 (hZ.P hS) (ci := 5) (q := (RX3, TX3, 4)) (q0 := 0) rfl rfl, fun U hU hW => ⟨rfl, by rw [hU], by rw [hU]; exact hPc, va_K.moved hW.alike hKc, hDc.weaken (fun _ _ _ _ => trivial), hI_.call hS hU hW (fun q h => hFc q h), hB_.call hS hU hW (fun q h => hFc q h), hW_.call hS hU hW (fun q h => hFc q h), (hZ.sub [0] [] rfl rfl).call hS hU hW (fun q h => hFc q h)⟩⟩ rfl rfl hl.1 rfl (lv_room (Nat.le_of_ble_eq_true rfl)) dX3_doGoes_8 ⟨Nat.le_of_ble_eq_true rfl, Nat.le_of_ble_eq_true rfl⟩) hS (fun q _ h => hFc q h) hFc (fun r_8 u tC H1 locs htC hvm hw_9 hB hz1 hk1 hS => ?_)
  obtain ⟨mdc9_10, sz_9_11, fEl9_12⟩ := u
  try dsimp only at hw_9 hB
  obtain ⟨hP1, hK1, hD1⟩ := hB
  rw [htC] at hP1
  have hK1 := va_K.moved hvm.symm hK1
  obtain ⟨hP, hD⟩ := va_join (wr := []) (w1 := [(zo1iri bo mdc9_10 aEl (nI sz_9_11)), (zaR aEl cEl 10 fEl9_12)]) hP hD [0, 1] [] rfl rfl (by decide) (by decide) hk1 hFc hP1 hD1
  have hK := (hK.sub (tys' := []) [] rfl).app hK1
  generalize H1 = H at hP hS ⊢
  have hP : va_P (dC, dI) vwCl [(zo1iri bo mdc9_10 aEl (nI sz_9_11)), (zaR aEl cEl 10 fEl9_12)] H := hP
  have hD : va_D A [(zo1iri bo mdc9_10 aEl (nI sz_9_11)), (zaR aEl cEl 10 fEl9_12)] := hD
  have hK : va_K (dC, dI) vwCl [(cEl, .object "java/lang/Object")] s := hK
  obtain ⟨er_13, e_14, hL_15⟩ := hw_9
  obtain rfl := (e_14).symm
  subst er_13
  refine lv_aload_n hx hb dX3_doGoes_11 rfl (lv_at hl 0 rfl) ?_
  refine va_get (D := (dC, dI)) (ci := 5) (v := .int sv) (C := RX3) (T := TX3) (N := 4) hx hb hts kc_X3_doGoes_X3_1_1 hown hZ.2.1 (hZ.P hS) 0 rfl rfl 2 (by decide) (hts (.fieldLink RX3 18 "MistHeaps$Heap" "v" "I") kc_X3_doGoes_X3_1_0) (fun _ h9 => h9) rfl dX3_doGoes_12 ?_
  refine lv_isub hx hb dX3_doGoes_15 ?_
  rw [hQ]
  have hP9 := hP.sub (ws' := [(zo1iri bo mdc9_10 aEl (nI ((sz_ + 1) + 1))), (zaR aEl cEl 10 fEl9_12)]) [0, 1] rfl
  have hD9 := hD.sub (ws' := [(zo1iri bo mdc9_10 aEl (nI ((sz_ + 1) + 1))), (zaR aEl cEl 10 fEl9_12)]) [0, 1] (by decide) rfl
  have hK9 := hK.sub (tys' := [(cEl, .object "java/lang/Object")]) [0] rfl
  exact W.iret (v := (x + nI i0) - sv) hx hb hr (fun tQ htQ hWQ => ⟨⟨((x + nI i0) - sv), (mdc9_10, ((sz_ + 1) + 1), fEl9_12), rfl, ⟨rfl, by omega, by have h9 := okL_as (hL_15); exact h9⟩, by rw [htQ]; exact hP9, va_K.moved hWQ.alike hK9, hD9⟩, hS.F htQ⟩) hS.2.2 dX3_doGoes_16

theorem kc_X3_doGoes_X3_0_0 : (.fieldLink RX3 18 "MistHeaps$Heap" "v" "I" : Cond) ∈ wsX3_doGoes := kc_of 236 rfl rfl rfl
theorem kc_X3_doGoes_X3_0_1 : ∀ w ∈ wsX30, w ∈ wsX3_doGoes := fun w h => List.mem_cons_of_mem _ (gin_wsX30 w h)
set_option maxHeartbeats 4000000 in
set_option maxRecDepth 100000 in
theorem c_X3_doGoes_X3_0 (l : Launch) (dC : Nat → ClassId) (dI : Nat → Nat → Nat) (ad : Nat → Nat) (cB bS : Nat)    (bo : Nat) (i0 : Nat) (sk : Int32) (sv : Int32) (scl : Int32) (x : Int32) (a0 : Nat) (mdc : Int32) (sz : Nat) : Met l yX3_doGoes wsX3_doGoes ({ frames := 6, cells := 1, slots := 10, locals := 122 } : Room) (va_Pc [.ref a0, .int x, .ref bo] (fun U => U.heap.size = sz ∧ va_P (dC, dI) vwCl [(zo1iri bo mdc bS 0)] U.heap ∧ va_K (dC, dI) vwCl [] U ∧ va_D (fun _ => True) [(zo1iri bo mdc bS 0)] ∧ Gi ad cB bS (va_A [(zo1iri bo mdc bS 0)] sz) U ∧ Gb (va_A [(zo1iri bo mdc bS 0)] sz) U ∧ Gw (va_A [(zo1iri bo mdc bS 0)] sz) U ∧ Fz dC dI [(zo5iiii a0 sk (nI i0) sv scl)] [] (va_A [(zo1iri bo mdc bS 0)] sz) U)) (va_Qi (fun (r : Int32) (u : (Int32) × (Nat) × (ClassId) × (Nat) × (Nat → Option Nat)) => match u with | (mdc9, aEl9, cEl9, sz_9, fEl9) => r = (x + nI i0) - sv ∧ sz_9 = 2 ∧ okL ad fEl9 sz_9 [2, 1]) (fun (u : (Int32) × (Nat) × (ClassId) × (Nat) × (Nat → Option Nat)) (t : State) => match u with | (mdc9, aEl9, cEl9, sz_9, fEl9) => va_P (dC, dI) vwCl [(zo1iri bo mdc9 aEl9 (nI sz_9)), (zaR aEl9 cEl9 10 fEl9)] t.heap ∧ va_K (dC, dI) vwCl [(cEl9, .object "java/lang/Object")] t ∧ va_D (va_A [(zo1iri bo mdc bS 0)] sz) [(zo1iri bo mdc9 aEl9 (nI sz_9)), (zaR aEl9 cEl9 10 fEl9)]) (va_A [(zo1iri bo mdc bS 0)] sz)) 1 10 (va_A [(zo1iri bo mdc bS 0)] sz) := by
  refine met_ofQ (cc := cX3_doGoes) (maxL := 3) (ret := (some .int)) (by decide) rfl ?_
  intro p e s m args below meth c s₁ Q B hml hv hQ
  obtain ⟨rfl, hsz, hP, hK, hD0, hI_, hB_, hW_, hZ⟩ := hv
  have hx := B.exec
  have hb := B.bytes
  have hr := B.returns
  have hts := atoms_spec (ws := wsX3_doGoes) B.pre
  have hown : s.vm.findClass RX3 = some m.cls := findClass_of_methodNamed B.named
  have hlocks := B.notSynchronized
  subst hsz
  have hD := hD0.self (sz := s.heap.size)
  generalize hAe : va_A [(zo1iri bo mdc bS 0)] s.heap.size = A at hD hQ hI_ hB_ hW_ hZ ⊢
  have hA : ∀ q : Nat, s.heap.size ≤ q → A q := fun q h => by rw [← hAe]; exact Or.inr h
  have hS : va_S A s.heap s.heap [] := va_S.rf
  have hl := lv_entry [.ref a0, .int x, .ref bo] (n := 3) (Nat.le_of_ble_eq_true rfl)
  rw [lg_entry_eq]
  generalize (lg_sl [.ref a0, .int x, .ref bo] ++ List.replicate (3 - (lg_sl [.ref a0, .int x, .ref bo]).length) Slot.unset).toArray = ls at hl ⊢
  generalize hag : ([.ref a0, .int x, .ref bo] : List Value).toArray = args at hts hQ ⊢
  have hl : lv_has ls 3 [(0, .ref a0), (1, .int x), (2, .ref bo)] := hl
  obtain ⟨H, hH⟩ : ∃ H : Heap, H = s.heap := ⟨_, rfl⟩
  rw [← hH] at hP
  rw [← hH]
  have hS : va_S A s.heap H [] := by rw [hH]; exact hS
  obtain ⟨locs, hlo⟩ : ∃ L : List Loc, L = [] := ⟨_, rfl⟩
  rw [← hlo] at hS
  rw [← hlo]
  clear hH hlo
  refine lv_iconst (v := 2) hx hb dX3_doGoes_0 (by decide) ?_
  refine lv_aload_n hx hb dX3_doGoes_1 rfl (lv_at hl 2 rfl) ?_
  have hPc := hP.sub (ws' := [(zo1iri bo mdc bS 0)]) [0] rfl
  have hDc := hD.sub (ws' := [(zo1iri bo mdc bS 0)]) [0] (by decide) rfl
  have hKc := hK.sub (tys' := []) [] rfl
  have hFc := va_free (wc := [(zo1iri bo mdc bS 0)]) hD hS hA [0] rfl
  refine va_callv (va_runS (As := [.int 2, .ref bo]) (rest := []) ⟨hx, hb, hml, hown, hts⟩ (c_begin0 l dC dI ad cB bS bo mdc 2 H.size (by omega)) (va_cwS 2 hts gX3_doGoes_X3_begin rfl rfl rfl hd_yX3_begin.2 ⟨Nat.le_of_ble_eq_true rfl, Nat.le_of_ble_eq_true rfl⟩) ⟨fun a U g mk q => by obtain ⟨q0, q1, qP, qK, qD, qhI_⟩ := q; exact ⟨q0, q1, qP, va_K.moved (u := U) (U := U.calling g mk a) (Vm.Alike.refl U.vm) qK, qD, qhI_.same rfl rfl⟩, fun U hU hW => ⟨rfl, by rw [hU], by rw [hU]; exact hPc, va_K.moved hW.alike hKc, hDc.weaken (fun _ _ _ _ => trivial), hI_.call hS hU hW (fun q h => hFc q h)⟩⟩ rfl rfl hl.1 rfl (lv_room (Nat.le_of_ble_eq_true rfl)) dX3_doGoes_2 ⟨Nat.le_of_ble_eq_true rfl, Nat.le_of_ble_eq_true rfl⟩) hS (fun q _ h => hFc q h) hFc (fun u tC H1 locs htC hvm hw_2 hB hz1 hk1 hS => ?_)
  obtain ⟨mdc9_3, aEl9_4, cEl9_5, sz_9_6, fEl9_7⟩ := u
  try dsimp only at hw_2 hB
  obtain ⟨hP1, hK1, hD1⟩ := hB
  rw [htC] at hP1
  have hK1 := va_K.moved hvm.symm hK1
  obtain ⟨hP, hD⟩ := va_join (wr := []) (w1 := [(zo1iri bo mdc9_3 aEl9_4 (nI sz_9_6)), (zaR aEl9_4 cEl9_5 10 fEl9_7)]) hP hD [0] [] rfl rfl (by decide) (by decide) hk1 hFc hP1 hD1
  have hK := (hK.sub (tys' := []) [] rfl).app hK1
  generalize H1 = H at hP hS ⊢
  have hP : va_P (dC, dI) vwCl [(zo1iri bo mdc9_3 aEl9_4 (nI sz_9_6)), (zaR aEl9_4 cEl9_5 10 fEl9_7)] H := hP
  have hD : va_D A [(zo1iri bo mdc9_3 aEl9_4 (nI sz_9_6)), (zaR aEl9_4 cEl9_5 10 fEl9_7)] := hD
  have hK : va_K (dC, dI) vwCl [(cEl9_5, .object "java/lang/Object")] s := hK
  refine W.widen (k := 1) (n := 10) (by omega) (by omega) ?_
  obtain ⟨e_8, hL_9⟩ := hw_2
  obtain rfl := (e_8).symm
  refine lv_aload_n hx hb dX3_doGoes_5 rfl (lv_at hl 0 rfl) ?_
  refine lv_iload_n hx hb dX3_doGoes_6 rfl (lv_at hl 1 rfl) ?_
  refine lv_aload_n hx hb dX3_doGoes_7 rfl (lv_at hl 2 rfl) ?_
  have hPc := hP.sub (ws' := [(zo1iri bo mdc9_3 aEl9_4 (nI 1)), (zaR aEl9_4 cEl9_5 10 fEl9_7)]) [0, 1] rfl
  have hDc := hD.sub (ws' := [(zo1iri bo mdc9_3 aEl9_4 (nI 1)), (zaR aEl9_4 cEl9_5 10 fEl9_7)]) [0, 1] (by decide) rfl
  have hKc := hK.sub (tys' := [(cEl9_5, .object "java/lang/Object")]) [0] rfl
  have hFc := va_free (wc := [(zo1iri bo mdc9_3 aEl9_4 (nI 1)), (zaR aEl9_4 cEl9_5 10 fEl9_7)]) hD hS hA [0, 1] rfl
  refine va_calli (va_runV (As := [.int x, .ref bo]) (rest := []) ⟨hx, hb, hml, hown, hts⟩ (c_X3_doSees_X3_1 l dC dI ad cB bS    bo aEl9_4 i0 sk sv scl x cEl9_5 fEl9_7 a0 1 mdc9_3 ([2]) H.size (by omega) (hL_9)) (cwV 2 hts gX3_doGoes_X3_doSees rfl rfl rfl hd_yX3_doSees ⟨Nat.le_of_ble_eq_true rfl, Nat.le_of_ble_eq_true rfl⟩) ⟨fun a U g mk q => by obtain ⟨q0, q1, qP, qK, qD, qhI_, qhB_, qhW_, qhZ⟩ := q; exact ⟨q0, q1, qP, va_K.moved (u := U) (U := U.calling g mk a) (Vm.Alike.refl U.vm) qK, qD, qhI_.same rfl rfl, qhB_.same rfl rfl, qhW_.same rfl rfl, qhZ.same rfl rfl⟩, va_recv hZ.2.1 (hZ.P hS) (ci := 5) (q := (RX3, TX3, 4)) (q0 := 0) rfl rfl, fun U hU hW => ⟨rfl, by rw [hU], by rw [hU]; exact hPc, va_K.moved hW.alike hKc, hDc.weaken (fun _ _ _ _ => trivial), hI_.call hS hU hW (fun q h => hFc q h), hB_.call hS hU hW (fun q h => hFc q h), hW_.call hS hU hW (fun q h => hFc q h), (hZ.sub [0] [] rfl rfl).call hS hU hW (fun q h => hFc q h)⟩⟩ rfl rfl hl.1 rfl (lv_room (Nat.le_of_ble_eq_true rfl)) dX3_doGoes_8 ⟨Nat.le_of_ble_eq_true rfl, Nat.le_of_ble_eq_true rfl⟩) hS (fun q _ h => hFc q h) hFc (fun r_10 u tC H1 locs htC hvm hw_11 hB hz1 hk1 hS => ?_)
  obtain ⟨mdc9_12, sz_9_13, fEl9_14⟩ := u
  try dsimp only at hw_11 hB
  obtain ⟨hP1, hK1, hD1⟩ := hB
  rw [htC] at hP1
  have hK1 := va_K.moved hvm.symm hK1
  obtain ⟨hP, hD⟩ := va_join (wr := []) (w1 := [(zo1iri bo mdc9_12 aEl9_4 (nI sz_9_13)), (zaR aEl9_4 cEl9_5 10 fEl9_14)]) hP hD [0, 1] [] rfl rfl (by decide) (by decide) hk1 hFc hP1 hD1
  have hK := (hK.sub (tys' := []) [] rfl).app hK1
  generalize H1 = H at hP hS ⊢
  have hP : va_P (dC, dI) vwCl [(zo1iri bo mdc9_12 aEl9_4 (nI sz_9_13)), (zaR aEl9_4 cEl9_5 10 fEl9_14)] H := hP
  have hD : va_D A [(zo1iri bo mdc9_12 aEl9_4 (nI sz_9_13)), (zaR aEl9_4 cEl9_5 10 fEl9_14)] := hD
  have hK : va_K (dC, dI) vwCl [(cEl9_5, .object "java/lang/Object")] s := hK
  obtain ⟨er_15, e_16, hL_17⟩ := hw_11
  obtain rfl := (e_16).symm
  subst er_15
  refine lv_aload_n hx hb dX3_doGoes_11 rfl (lv_at hl 0 rfl) ?_
  refine va_get (D := (dC, dI)) (ci := 5) (v := .int sv) (C := RX3) (T := TX3) (N := 4) hx hb hts kc_X3_doGoes_X3_0_1 hown hZ.2.1 (hZ.P hS) 0 rfl rfl 2 (by decide) (hts (.fieldLink RX3 18 "MistHeaps$Heap" "v" "I") kc_X3_doGoes_X3_0_0) (fun _ h9 => h9) rfl dX3_doGoes_12 ?_
  refine lv_isub hx hb dX3_doGoes_15 ?_
  rw [hQ]
  have hP9 := hP.sub (ws' := [(zo1iri bo mdc9_12 aEl9_4 (nI (1 + 1))), (zaR aEl9_4 cEl9_5 10 fEl9_14)]) [0, 1] rfl
  have hD9 := hD.sub (ws' := [(zo1iri bo mdc9_12 aEl9_4 (nI (1 + 1))), (zaR aEl9_4 cEl9_5 10 fEl9_14)]) [0, 1] (by decide) rfl
  have hK9 := hK.sub (tys' := [(cEl9_5, .object "java/lang/Object")]) [0] rfl
  refine W.widen (k := 1) (n := 10) (by omega) (by omega) ?_
  exact W.iret (v := (x + nI i0) - sv) hx hb hr (fun tQ htQ hWQ => ⟨⟨((x + nI i0) - sv), (mdc9_12, aEl9_4, cEl9_5, (1 + 1), fEl9_14), rfl, ⟨rfl, by omega, hL_17⟩, by rw [htQ]; exact hP9, va_K.moved hWQ.alike hK9, hD9⟩, hS.F htQ⟩) hS.2.2 dX3_doGoes_16

set_option maxHeartbeats 4000000 in
set_option maxRecDepth 100000 in
theorem c_X3_doLooks_X3_1 (l : Launch) (dC : Nat → ClassId) (dI : Nat → Nat → Nat) (ad : Nat → Nat) (cB bS : Nat)    (bo : Nat) (aEl : Nat) (i0 : Nat) (sk : Int32) (sv : Int32) (scl : Int32) (x : Int32) (cEl : ClassId) (fEl : Nat → Option Nat) (a0 : Nat) (sz_ : Nat) (mdc : Int32) (tl : List Nat) (sz : Nat) (hsz : sz_ + 3 ≤ 10) (zL : okL ad fEl sz_ tl) : Met l yX3_doLooks wsX3_doLooks ({ frames := 5, cells := 0, slots := 0, locals := 109 } : Room) (va_Pc [.ref a0, .int x, .ref bo] (fun U => U.heap.size = sz ∧ va_P (dC, dI) vwCl [(zo1iri bo mdc aEl (nI sz_)), (zaR aEl cEl 10 fEl)] U.heap ∧ va_K (dC, dI) vwCl [(cEl, .object "java/lang/Object")] U ∧ va_D (fun _ => True) [(zo1iri bo mdc aEl (nI sz_)), (zaR aEl cEl 10 fEl)] ∧ Gi ad cB bS (va_A [(zo1iri bo mdc aEl (nI sz_)), (zaR aEl cEl 10 fEl)] sz) U ∧ Gb (va_A [(zo1iri bo mdc aEl (nI sz_)), (zaR aEl cEl 10 fEl)] sz) U ∧ Gw (va_A [(zo1iri bo mdc aEl (nI sz_)), (zaR aEl cEl 10 fEl)] sz) U ∧ Fz dC dI [(zo5iiii a0 sk (nI i0) sv scl)] [] (va_A [(zo1iri bo mdc aEl (nI sz_)), (zaR aEl cEl 10 fEl)] sz) U)) (va_Qi (fun (r : Int32) (u : (Int32) × (Nat) × (Nat → Option Nat)) => match u with | (mdc9, sz_9, fEl9) => r = ((x + nI i0) - sv) * 2 ∧ sz_9 = sz_ + 3 ∧ okL ad fEl9 sz_9 (tl ++ [3, 2, 1])) (fun (u : (Int32) × (Nat) × (Nat → Option Nat)) (t : State) => match u with | (mdc9, sz_9, fEl9) => va_P (dC, dI) vwCl [(zo1iri bo mdc9 aEl (nI sz_9)), (zaR aEl cEl 10 fEl9)] t.heap ∧ va_K (dC, dI) vwCl [(cEl, .object "java/lang/Object")] t ∧ va_D (va_A [(zo1iri bo mdc aEl (nI sz_)), (zaR aEl cEl 10 fEl)] sz) [(zo1iri bo mdc9 aEl (nI sz_9)), (zaR aEl cEl 10 fEl9)]) (va_A [(zo1iri bo mdc aEl (nI sz_)), (zaR aEl cEl 10 fEl)] sz)) 0 0 (va_A [(zo1iri bo mdc aEl (nI sz_)), (zaR aEl cEl 10 fEl)] sz) := by
  refine met_ofQ (cc := cX3_doLooks) (maxL := 3) (ret := (some .int)) (by decide) rfl ?_
  intro p e s m args below meth c s₁ Q B hml hv hQ
  obtain ⟨rfl, hsz, hP, hK, hD0, hI_, hB_, hW_, hZ⟩ := hv
  have hx := B.exec
  have hb := B.bytes
  have hr := B.returns
  have hts := atoms_spec (ws := wsX3_doLooks) B.pre
  have hown : s.vm.findClass RX3 = some m.cls := findClass_of_methodNamed B.named
  have hlocks := B.notSynchronized
  subst hsz
  have hD := hD0.self (sz := s.heap.size)
  generalize hAe : va_A [(zo1iri bo mdc aEl (nI sz_)), (zaR aEl cEl 10 fEl)] s.heap.size = A at hD hQ hI_ hB_ hW_ hZ ⊢
  have hA : ∀ q : Nat, s.heap.size ≤ q → A q := fun q h => by rw [← hAe]; exact Or.inr h
  have hS : va_S A s.heap s.heap [] := va_S.rf
  have hl := lv_entry [.ref a0, .int x, .ref bo] (n := 3) (Nat.le_of_ble_eq_true rfl)
  rw [lg_entry_eq]
  generalize (lg_sl [.ref a0, .int x, .ref bo] ++ List.replicate (3 - (lg_sl [.ref a0, .int x, .ref bo]).length) Slot.unset).toArray = ls at hl ⊢
  generalize hag : ([.ref a0, .int x, .ref bo] : List Value).toArray = args at hts hQ ⊢
  have hl : lv_has ls 3 [(0, .ref a0), (1, .int x), (2, .ref bo)] := hl
  obtain ⟨H, hH⟩ : ∃ H : Heap, H = s.heap := ⟨_, rfl⟩
  rw [← hH] at hP
  rw [← hH]
  have hS : va_S A s.heap H [] := by rw [hH]; exact hS
  obtain ⟨locs, hlo⟩ : ∃ L : List Loc, L = [] := ⟨_, rfl⟩
  rw [← hlo] at hS
  rw [← hlo]
  clear hH hlo
  refine lv_iconst (v := 3) hx hb dX3_doLooks_0 (by decide) ?_
  refine lv_aload_n hx hb dX3_doLooks_1 rfl (lv_at hl 2 rfl) ?_
  have hPc := hP.sub (ws' := [(zo1iri bo mdc aEl (nI sz_)), (zaR aEl cEl 10 fEl)]) [0, 1] rfl
  have hDc := hD.sub (ws' := [(zo1iri bo mdc aEl (nI sz_)), (zaR aEl cEl 10 fEl)]) [0, 1] (by decide) rfl
  have hKc := hK.sub (tys' := [(cEl, .object "java/lang/Object")]) [0] rfl
  have hFc := va_free (wc := [(zo1iri bo mdc aEl (nI sz_)), (zaR aEl cEl 10 fEl)]) hD hS hA [0, 1] rfl
  refine va_callv (va_runS (As := [.int 3, .ref bo]) (rest := []) ⟨hx, hb, hml, hown, hts⟩ (c_begin1 l dC dI ad cB bS bo aEl 3 cEl fEl sz_ mdc tl H.size (by omega) (by omega) (zL)) (va_cwS 2 hts gX3_doLooks_X3_begin rfl rfl rfl hd_yX3_begin.2 ⟨Nat.le_of_ble_eq_true rfl, Nat.le_of_ble_eq_true rfl⟩) ⟨fun a U g mk q => by obtain ⟨q0, q1, qP, qK, qD, qhI_⟩ := q; exact ⟨q0, q1, qP, va_K.moved (u := U) (U := U.calling g mk a) (Vm.Alike.refl U.vm) qK, qD, qhI_.same rfl rfl⟩, fun U hU hW => ⟨rfl, by rw [hU], by rw [hU]; exact hPc, va_K.moved hW.alike hKc, hDc.weaken (fun _ _ _ _ => trivial), hI_.call hS hU hW (fun q h => hFc q h)⟩⟩ rfl rfl hl.1 rfl (lv_room (Nat.le_of_ble_eq_true rfl)) dX3_doLooks_2 ⟨Nat.le_of_ble_eq_true rfl, Nat.le_of_ble_eq_true rfl⟩) hS (fun q _ h => hFc q h) hFc (fun u tC H1 locs htC hvm hw_2 hB hz1 hk1 hS => ?_)
  obtain ⟨mdc9_3, sz_9_4, fEl9_5⟩ := u
  try dsimp only at hw_2 hB
  obtain ⟨hP1, hK1, hD1⟩ := hB
  rw [htC] at hP1
  have hK1 := va_K.moved hvm.symm hK1
  obtain ⟨hP, hD⟩ := va_join (wr := []) (w1 := [(zo1iri bo mdc9_3 aEl (nI sz_9_4)), (zaR aEl cEl 10 fEl9_5)]) hP hD [0, 1] [] rfl rfl (by decide) (by decide) hk1 hFc hP1 hD1
  have hK := (hK.sub (tys' := []) [] rfl).app hK1
  generalize H1 = H at hP hS ⊢
  have hP : va_P (dC, dI) vwCl [(zo1iri bo mdc9_3 aEl (nI sz_9_4)), (zaR aEl cEl 10 fEl9_5)] H := hP
  have hD : va_D A [(zo1iri bo mdc9_3 aEl (nI sz_9_4)), (zaR aEl cEl 10 fEl9_5)] := hD
  have hK : va_K (dC, dI) vwCl [(cEl, .object "java/lang/Object")] s := hK
  obtain ⟨e_6, hL_7⟩ := hw_2
  obtain rfl := (e_6).symm
  refine lv_aload_n hx hb dX3_doLooks_5 rfl (lv_at hl 0 rfl) ?_
  refine lv_iload_n hx hb dX3_doLooks_6 rfl (lv_at hl 1 rfl) ?_
  refine lv_aload_n hx hb dX3_doLooks_7 rfl (lv_at hl 2 rfl) ?_
  have hPc := hP.sub (ws' := [(zo1iri bo mdc9_3 aEl (nI (sz_ + 1))), (zaR aEl cEl 10 fEl9_5)]) [0, 1] rfl
  have hDc := hD.sub (ws' := [(zo1iri bo mdc9_3 aEl (nI (sz_ + 1))), (zaR aEl cEl 10 fEl9_5)]) [0, 1] (by decide) rfl
  have hKc := hK.sub (tys' := [(cEl, .object "java/lang/Object")]) [0] rfl
  have hFc := va_free (wc := [(zo1iri bo mdc9_3 aEl (nI (sz_ + 1))), (zaR aEl cEl 10 fEl9_5)]) hD hS hA [0, 1] rfl
  refine va_calli (va_runV (As := [.int x, .ref bo]) (rest := []) ⟨hx, hb, hml, hown, hts⟩ (c_X3_doGoes_X3_1 l dC dI ad cB bS    bo aEl i0 sk sv scl x cEl fEl9_5 a0 (sz_ + 1) mdc9_3 (tl ++ [3]) H.size (by omega) (hL_7)) (cwV 2 hts gX3_doLooks_X3_doGoes rfl rfl rfl hd_yX3_doGoes ⟨Nat.le_of_ble_eq_true rfl, Nat.le_of_ble_eq_true rfl⟩) ⟨fun a U g mk q => by obtain ⟨q0, q1, qP, qK, qD, qhI_, qhB_, qhW_, qhZ⟩ := q; exact ⟨q0, q1, qP, va_K.moved (u := U) (U := U.calling g mk a) (Vm.Alike.refl U.vm) qK, qD, qhI_.same rfl rfl, qhB_.same rfl rfl, qhW_.same rfl rfl, qhZ.same rfl rfl⟩, va_recv hZ.2.1 (hZ.P hS) (ci := 5) (q := (RX3, TX3, 4)) (q0 := 0) rfl rfl, fun U hU hW => ⟨rfl, by rw [hU], by rw [hU]; exact hPc, va_K.moved hW.alike hKc, hDc.weaken (fun _ _ _ _ => trivial), hI_.call hS hU hW (fun q h => hFc q h), hB_.call hS hU hW (fun q h => hFc q h), hW_.call hS hU hW (fun q h => hFc q h), (hZ.sub [0] [] rfl rfl).call hS hU hW (fun q h => hFc q h)⟩⟩ rfl rfl hl.1 rfl (lv_room (Nat.le_of_ble_eq_true rfl)) dX3_doLooks_8 ⟨Nat.le_of_ble_eq_true rfl, Nat.le_of_ble_eq_true rfl⟩) hS (fun q _ h => hFc q h) hFc (fun r_8 u tC H1 locs htC hvm hw_9 hB hz1 hk1 hS => ?_)
  obtain ⟨mdc9_10, sz_9_11, fEl9_12⟩ := u
  try dsimp only at hw_9 hB
  obtain ⟨hP1, hK1, hD1⟩ := hB
  rw [htC] at hP1
  have hK1 := va_K.moved hvm.symm hK1
  obtain ⟨hP, hD⟩ := va_join (wr := []) (w1 := [(zo1iri bo mdc9_10 aEl (nI sz_9_11)), (zaR aEl cEl 10 fEl9_12)]) hP hD [0, 1] [] rfl rfl (by decide) (by decide) hk1 hFc hP1 hD1
  have hK := (hK.sub (tys' := []) [] rfl).app hK1
  generalize H1 = H at hP hS ⊢
  have hP : va_P (dC, dI) vwCl [(zo1iri bo mdc9_10 aEl (nI sz_9_11)), (zaR aEl cEl 10 fEl9_12)] H := hP
  have hD : va_D A [(zo1iri bo mdc9_10 aEl (nI sz_9_11)), (zaR aEl cEl 10 fEl9_12)] := hD
  have hK : va_K (dC, dI) vwCl [(cEl, .object "java/lang/Object")] s := hK
  obtain ⟨er_13, e_14, hL_15⟩ := hw_9
  obtain rfl := (e_14).symm
  subst er_13
  refine lv_iconst (v := 2) hx hb dX3_doLooks_11 (by decide) ?_
  refine lv_imul hx hb dX3_doLooks_12 ?_
  rw [hQ]
  have hP9 := hP.sub (ws' := [(zo1iri bo mdc9_10 aEl (nI ((sz_ + 1) + 2))), (zaR aEl cEl 10 fEl9_12)]) [0, 1] rfl
  have hD9 := hD.sub (ws' := [(zo1iri bo mdc9_10 aEl (nI ((sz_ + 1) + 2))), (zaR aEl cEl 10 fEl9_12)]) [0, 1] (by decide) rfl
  have hK9 := hK.sub (tys' := [(cEl, .object "java/lang/Object")]) [0] rfl
  exact W.iret (v := ((x + nI i0) - sv) * 2) hx hb hr (fun tQ htQ hWQ => ⟨⟨(((x + nI i0) - sv) * 2), (mdc9_10, ((sz_ + 1) + 2), fEl9_12), rfl, ⟨rfl, by omega, by have h9 := okL_as (hL_15); exact h9⟩, by rw [htQ]; exact hP9, va_K.moved hWQ.alike hK9, hD9⟩, hS.F htQ⟩) hS.2.2 dX3_doLooks_13

set_option maxHeartbeats 4000000 in
set_option maxRecDepth 100000 in
theorem c_X3_doLooks_X3_0 (l : Launch) (dC : Nat → ClassId) (dI : Nat → Nat → Nat) (ad : Nat → Nat) (cB bS : Nat)    (bo : Nat) (i0 : Nat) (sk : Int32) (sv : Int32) (scl : Int32) (x : Int32) (a0 : Nat) (mdc : Int32) (sz : Nat) : Met l yX3_doLooks wsX3_doLooks ({ frames := 6, cells := 1, slots := 10, locals := 122 } : Room) (va_Pc [.ref a0, .int x, .ref bo] (fun U => U.heap.size = sz ∧ va_P (dC, dI) vwCl [(zo1iri bo mdc bS 0)] U.heap ∧ va_K (dC, dI) vwCl [] U ∧ va_D (fun _ => True) [(zo1iri bo mdc bS 0)] ∧ Gi ad cB bS (va_A [(zo1iri bo mdc bS 0)] sz) U ∧ Gb (va_A [(zo1iri bo mdc bS 0)] sz) U ∧ Gw (va_A [(zo1iri bo mdc bS 0)] sz) U ∧ Fz dC dI [(zo5iiii a0 sk (nI i0) sv scl)] [] (va_A [(zo1iri bo mdc bS 0)] sz) U)) (va_Qi (fun (r : Int32) (u : (Int32) × (Nat) × (ClassId) × (Nat) × (Nat → Option Nat)) => match u with | (mdc9, aEl9, cEl9, sz_9, fEl9) => r = ((x + nI i0) - sv) * 2 ∧ sz_9 = 3 ∧ okL ad fEl9 sz_9 [3, 2, 1]) (fun (u : (Int32) × (Nat) × (ClassId) × (Nat) × (Nat → Option Nat)) (t : State) => match u with | (mdc9, aEl9, cEl9, sz_9, fEl9) => va_P (dC, dI) vwCl [(zo1iri bo mdc9 aEl9 (nI sz_9)), (zaR aEl9 cEl9 10 fEl9)] t.heap ∧ va_K (dC, dI) vwCl [(cEl9, .object "java/lang/Object")] t ∧ va_D (va_A [(zo1iri bo mdc bS 0)] sz) [(zo1iri bo mdc9 aEl9 (nI sz_9)), (zaR aEl9 cEl9 10 fEl9)]) (va_A [(zo1iri bo mdc bS 0)] sz)) 1 10 (va_A [(zo1iri bo mdc bS 0)] sz) := by
  refine met_ofQ (cc := cX3_doLooks) (maxL := 3) (ret := (some .int)) (by decide) rfl ?_
  intro p e s m args below meth c s₁ Q B hml hv hQ
  obtain ⟨rfl, hsz, hP, hK, hD0, hI_, hB_, hW_, hZ⟩ := hv
  have hx := B.exec
  have hb := B.bytes
  have hr := B.returns
  have hts := atoms_spec (ws := wsX3_doLooks) B.pre
  have hown : s.vm.findClass RX3 = some m.cls := findClass_of_methodNamed B.named
  have hlocks := B.notSynchronized
  subst hsz
  have hD := hD0.self (sz := s.heap.size)
  generalize hAe : va_A [(zo1iri bo mdc bS 0)] s.heap.size = A at hD hQ hI_ hB_ hW_ hZ ⊢
  have hA : ∀ q : Nat, s.heap.size ≤ q → A q := fun q h => by rw [← hAe]; exact Or.inr h
  have hS : va_S A s.heap s.heap [] := va_S.rf
  have hl := lv_entry [.ref a0, .int x, .ref bo] (n := 3) (Nat.le_of_ble_eq_true rfl)
  rw [lg_entry_eq]
  generalize (lg_sl [.ref a0, .int x, .ref bo] ++ List.replicate (3 - (lg_sl [.ref a0, .int x, .ref bo]).length) Slot.unset).toArray = ls at hl ⊢
  generalize hag : ([.ref a0, .int x, .ref bo] : List Value).toArray = args at hts hQ ⊢
  have hl : lv_has ls 3 [(0, .ref a0), (1, .int x), (2, .ref bo)] := hl
  obtain ⟨H, hH⟩ : ∃ H : Heap, H = s.heap := ⟨_, rfl⟩
  rw [← hH] at hP
  rw [← hH]
  have hS : va_S A s.heap H [] := by rw [hH]; exact hS
  obtain ⟨locs, hlo⟩ : ∃ L : List Loc, L = [] := ⟨_, rfl⟩
  rw [← hlo] at hS
  rw [← hlo]
  clear hH hlo
  refine lv_iconst (v := 3) hx hb dX3_doLooks_0 (by decide) ?_
  refine lv_aload_n hx hb dX3_doLooks_1 rfl (lv_at hl 2 rfl) ?_
  have hPc := hP.sub (ws' := [(zo1iri bo mdc bS 0)]) [0] rfl
  have hDc := hD.sub (ws' := [(zo1iri bo mdc bS 0)]) [0] (by decide) rfl
  have hKc := hK.sub (tys' := []) [] rfl
  have hFc := va_free (wc := [(zo1iri bo mdc bS 0)]) hD hS hA [0] rfl
  refine va_callv (va_runS (As := [.int 3, .ref bo]) (rest := []) ⟨hx, hb, hml, hown, hts⟩ (c_begin0 l dC dI ad cB bS bo mdc 3 H.size (by omega)) (va_cwS 2 hts gX3_doLooks_X3_begin rfl rfl rfl hd_yX3_begin.2 ⟨Nat.le_of_ble_eq_true rfl, Nat.le_of_ble_eq_true rfl⟩) ⟨fun a U g mk q => by obtain ⟨q0, q1, qP, qK, qD, qhI_⟩ := q; exact ⟨q0, q1, qP, va_K.moved (u := U) (U := U.calling g mk a) (Vm.Alike.refl U.vm) qK, qD, qhI_.same rfl rfl⟩, fun U hU hW => ⟨rfl, by rw [hU], by rw [hU]; exact hPc, va_K.moved hW.alike hKc, hDc.weaken (fun _ _ _ _ => trivial), hI_.call hS hU hW (fun q h => hFc q h)⟩⟩ rfl rfl hl.1 rfl (lv_room (Nat.le_of_ble_eq_true rfl)) dX3_doLooks_2 ⟨Nat.le_of_ble_eq_true rfl, Nat.le_of_ble_eq_true rfl⟩) hS (fun q _ h => hFc q h) hFc (fun u tC H1 locs htC hvm hw_2 hB hz1 hk1 hS => ?_)
  obtain ⟨mdc9_3, aEl9_4, cEl9_5, sz_9_6, fEl9_7⟩ := u
  try dsimp only at hw_2 hB
  obtain ⟨hP1, hK1, hD1⟩ := hB
  rw [htC] at hP1
  have hK1 := va_K.moved hvm.symm hK1
  obtain ⟨hP, hD⟩ := va_join (wr := []) (w1 := [(zo1iri bo mdc9_3 aEl9_4 (nI sz_9_6)), (zaR aEl9_4 cEl9_5 10 fEl9_7)]) hP hD [0] [] rfl rfl (by decide) (by decide) hk1 hFc hP1 hD1
  have hK := (hK.sub (tys' := []) [] rfl).app hK1
  generalize H1 = H at hP hS ⊢
  have hP : va_P (dC, dI) vwCl [(zo1iri bo mdc9_3 aEl9_4 (nI sz_9_6)), (zaR aEl9_4 cEl9_5 10 fEl9_7)] H := hP
  have hD : va_D A [(zo1iri bo mdc9_3 aEl9_4 (nI sz_9_6)), (zaR aEl9_4 cEl9_5 10 fEl9_7)] := hD
  have hK : va_K (dC, dI) vwCl [(cEl9_5, .object "java/lang/Object")] s := hK
  refine W.widen (k := 1) (n := 10) (by omega) (by omega) ?_
  obtain ⟨e_8, hL_9⟩ := hw_2
  obtain rfl := (e_8).symm
  refine lv_aload_n hx hb dX3_doLooks_5 rfl (lv_at hl 0 rfl) ?_
  refine lv_iload_n hx hb dX3_doLooks_6 rfl (lv_at hl 1 rfl) ?_
  refine lv_aload_n hx hb dX3_doLooks_7 rfl (lv_at hl 2 rfl) ?_
  have hPc := hP.sub (ws' := [(zo1iri bo mdc9_3 aEl9_4 (nI 1)), (zaR aEl9_4 cEl9_5 10 fEl9_7)]) [0, 1] rfl
  have hDc := hD.sub (ws' := [(zo1iri bo mdc9_3 aEl9_4 (nI 1)), (zaR aEl9_4 cEl9_5 10 fEl9_7)]) [0, 1] (by decide) rfl
  have hKc := hK.sub (tys' := [(cEl9_5, .object "java/lang/Object")]) [0] rfl
  have hFc := va_free (wc := [(zo1iri bo mdc9_3 aEl9_4 (nI 1)), (zaR aEl9_4 cEl9_5 10 fEl9_7)]) hD hS hA [0, 1] rfl
  refine va_calli (va_runV (As := [.int x, .ref bo]) (rest := []) ⟨hx, hb, hml, hown, hts⟩ (c_X3_doGoes_X3_1 l dC dI ad cB bS    bo aEl9_4 i0 sk sv scl x cEl9_5 fEl9_7 a0 1 mdc9_3 ([3]) H.size (by omega) (hL_9)) (cwV 2 hts gX3_doLooks_X3_doGoes rfl rfl rfl hd_yX3_doGoes ⟨Nat.le_of_ble_eq_true rfl, Nat.le_of_ble_eq_true rfl⟩) ⟨fun a U g mk q => by obtain ⟨q0, q1, qP, qK, qD, qhI_, qhB_, qhW_, qhZ⟩ := q; exact ⟨q0, q1, qP, va_K.moved (u := U) (U := U.calling g mk a) (Vm.Alike.refl U.vm) qK, qD, qhI_.same rfl rfl, qhB_.same rfl rfl, qhW_.same rfl rfl, qhZ.same rfl rfl⟩, va_recv hZ.2.1 (hZ.P hS) (ci := 5) (q := (RX3, TX3, 4)) (q0 := 0) rfl rfl, fun U hU hW => ⟨rfl, by rw [hU], by rw [hU]; exact hPc, va_K.moved hW.alike hKc, hDc.weaken (fun _ _ _ _ => trivial), hI_.call hS hU hW (fun q h => hFc q h), hB_.call hS hU hW (fun q h => hFc q h), hW_.call hS hU hW (fun q h => hFc q h), (hZ.sub [0] [] rfl rfl).call hS hU hW (fun q h => hFc q h)⟩⟩ rfl rfl hl.1 rfl (lv_room (Nat.le_of_ble_eq_true rfl)) dX3_doLooks_8 ⟨Nat.le_of_ble_eq_true rfl, Nat.le_of_ble_eq_true rfl⟩) hS (fun q _ h => hFc q h) hFc (fun r_10 u tC H1 locs htC hvm hw_11 hB hz1 hk1 hS => ?_)
  obtain ⟨mdc9_12, sz_9_13, fEl9_14⟩ := u
  try dsimp only at hw_11 hB
  obtain ⟨hP1, hK1, hD1⟩ := hB
  rw [htC] at hP1
  have hK1 := va_K.moved hvm.symm hK1
  obtain ⟨hP, hD⟩ := va_join (wr := []) (w1 := [(zo1iri bo mdc9_12 aEl9_4 (nI sz_9_13)), (zaR aEl9_4 cEl9_5 10 fEl9_14)]) hP hD [0, 1] [] rfl rfl (by decide) (by decide) hk1 hFc hP1 hD1
  have hK := (hK.sub (tys' := []) [] rfl).app hK1
  generalize H1 = H at hP hS ⊢
  have hP : va_P (dC, dI) vwCl [(zo1iri bo mdc9_12 aEl9_4 (nI sz_9_13)), (zaR aEl9_4 cEl9_5 10 fEl9_14)] H := hP
  have hD : va_D A [(zo1iri bo mdc9_12 aEl9_4 (nI sz_9_13)), (zaR aEl9_4 cEl9_5 10 fEl9_14)] := hD
  have hK : va_K (dC, dI) vwCl [(cEl9_5, .object "java/lang/Object")] s := hK
  obtain ⟨er_15, e_16, hL_17⟩ := hw_11
  obtain rfl := (e_16).symm
  subst er_15
  refine lv_iconst (v := 2) hx hb dX3_doLooks_11 (by decide) ?_
  refine lv_imul hx hb dX3_doLooks_12 ?_
  rw [hQ]
  have hP9 := hP.sub (ws' := [(zo1iri bo mdc9_12 aEl9_4 (nI (1 + 2))), (zaR aEl9_4 cEl9_5 10 fEl9_14)]) [0, 1] rfl
  have hD9 := hD.sub (ws' := [(zo1iri bo mdc9_12 aEl9_4 (nI (1 + 2))), (zaR aEl9_4 cEl9_5 10 fEl9_14)]) [0, 1] (by decide) rfl
  have hK9 := hK.sub (tys' := [(cEl9_5, .object "java/lang/Object")]) [0] rfl
  refine W.widen (k := 1) (n := 10) (by omega) (by omega) ?_
  exact W.iret (v := ((x + nI i0) - sv) * 2) hx hb hr (fun tQ htQ hWQ => ⟨⟨(((x + nI i0) - sv) * 2), (mdc9_12, aEl9_4, cEl9_5, (1 + 2), fEl9_14), rfl, ⟨rfl, by omega, hL_17⟩, by rw [htQ]; exact hP9, va_K.moved hWQ.alike hK9, hD9⟩, hS.F htQ⟩) hS.2.2 dX3_doLooks_13

theorem kc_X3_doSees_X4_1_0 : (.fieldLink RX3 15 "MistHeaps$Heap" "number" "I" : Cond) ∈ wsX3_doSees := kc_of 231 rfl rfl rfl
theorem kc_X3_doSees_X4_1_1 : ∀ w ∈ wsX40, w ∈ wsX3_doSees := fun w h => List.mem_cons_of_mem _ (gin_wsX40 w h)
set_option maxHeartbeats 4000000 in
set_option maxRecDepth 100000 in
theorem c_X3_doSees_X4_1 (l : Launch) (dC : Nat → ClassId) (dI : Nat → Nat → Nat) (ad : Nat → Nat) (cB bS : Nat)    (bo : Nat) (aEl : Nat) (i0 : Nat) (sk : Int32) (sv : Int32) (scl : Int32) (x : Int32) (cEl : ClassId) (fEl : Nat → Option Nat) (a0 : Nat) (sz_ : Nat) (mdc : Int32) (tl : List Nat) (sz : Nat) (hsz : sz_ + 1 ≤ 10) (zL : okL ad fEl sz_ tl) : Met l yX3_doSees wsX3_doSees ({ frames := 3, cells := 0, slots := 0, locals := 65 } : Room) (va_Pc [.ref a0, .int x, .ref bo] (fun U => U.heap.size = sz ∧ va_P (dC, dI) vwCl [(zo1iri bo mdc aEl (nI sz_)), (zaR aEl cEl 10 fEl)] U.heap ∧ va_K (dC, dI) vwCl [(cEl, .object "java/lang/Object")] U ∧ va_D (fun _ => True) [(zo1iri bo mdc aEl (nI sz_)), (zaR aEl cEl 10 fEl)] ∧ Gi ad cB bS (va_A [(zo1iri bo mdc aEl (nI sz_)), (zaR aEl cEl 10 fEl)] sz) U ∧ Gb (va_A [(zo1iri bo mdc aEl (nI sz_)), (zaR aEl cEl 10 fEl)] sz) U ∧ Gw (va_A [(zo1iri bo mdc aEl (nI sz_)), (zaR aEl cEl 10 fEl)] sz) U ∧ Fz dC dI [(zo6iiii a0 sk (nI i0) sv scl)] [] (va_A [(zo1iri bo mdc aEl (nI sz_)), (zaR aEl cEl 10 fEl)] sz) U)) (va_Qi (fun (r : Int32) (u : (Int32) × (Nat) × (Nat → Option Nat)) => match u with | (mdc9, sz_9, fEl9) => r = x + nI i0 ∧ sz_9 = sz_ + 1 ∧ okL ad fEl9 sz_9 (tl ++ [1])) (fun (u : (Int32) × (Nat) × (Nat → Option Nat)) (t : State) => match u with | (mdc9, sz_9, fEl9) => va_P (dC, dI) vwCl [(zo1iri bo mdc9 aEl (nI sz_9)), (zaR aEl cEl 10 fEl9)] t.heap ∧ va_K (dC, dI) vwCl [(cEl, .object "java/lang/Object")] t ∧ va_D (va_A [(zo1iri bo mdc aEl (nI sz_)), (zaR aEl cEl 10 fEl)] sz) [(zo1iri bo mdc9 aEl (nI sz_9)), (zaR aEl cEl 10 fEl9)]) (va_A [(zo1iri bo mdc aEl (nI sz_)), (zaR aEl cEl 10 fEl)] sz)) 0 0 (va_A [(zo1iri bo mdc aEl (nI sz_)), (zaR aEl cEl 10 fEl)] sz) := by
  refine met_ofQ (cc := cX3_doSees) (maxL := 3) (ret := (some .int)) (by decide) rfl ?_
  intro p e s m args below meth c s₁ Q B hml hv hQ
  obtain ⟨rfl, hsz, hP, hK, hD0, hI_, hB_, hW_, hZ⟩ := hv
  have hx := B.exec
  have hb := B.bytes
  have hr := B.returns
  have hts := atoms_spec (ws := wsX3_doSees) B.pre
  have hown : s.vm.findClass RX3 = some m.cls := findClass_of_methodNamed B.named
  have hlocks := B.notSynchronized
  subst hsz
  have hD := hD0.self (sz := s.heap.size)
  generalize hAe : va_A [(zo1iri bo mdc aEl (nI sz_)), (zaR aEl cEl 10 fEl)] s.heap.size = A at hD hQ hI_ hB_ hW_ hZ ⊢
  have hA : ∀ q : Nat, s.heap.size ≤ q → A q := fun q h => by rw [← hAe]; exact Or.inr h
  have hS : va_S A s.heap s.heap [] := va_S.rf
  have hl := lv_entry [.ref a0, .int x, .ref bo] (n := 3) (Nat.le_of_ble_eq_true rfl)
  rw [lg_entry_eq]
  generalize (lg_sl [.ref a0, .int x, .ref bo] ++ List.replicate (3 - (lg_sl [.ref a0, .int x, .ref bo]).length) Slot.unset).toArray = ls at hl ⊢
  generalize hag : ([.ref a0, .int x, .ref bo] : List Value).toArray = args at hts hQ ⊢
  have hl : lv_has ls 3 [(0, .ref a0), (1, .int x), (2, .ref bo)] := hl
  obtain ⟨H, hH⟩ : ∃ H : Heap, H = s.heap := ⟨_, rfl⟩
  rw [← hH] at hP
  rw [← hH]
  have hS : va_S A s.heap H [] := by rw [hH]; exact hS
  obtain ⟨locs, hlo⟩ : ∃ L : List Loc, L = [] := ⟨_, rfl⟩
  rw [← hlo] at hS
  rw [← hlo]
  clear hH hlo
  refine lv_iconst (v := 1) hx hb dX3_doSees_0 (by decide) ?_
  refine lv_aload_n hx hb dX3_doSees_1 rfl (lv_at hl 2 rfl) ?_
  have hPc := hP.sub (ws' := [(zo1iri bo mdc aEl (nI sz_)), (zaR aEl cEl 10 fEl)]) [0, 1] rfl
  have hDc := hD.sub (ws' := [(zo1iri bo mdc aEl (nI sz_)), (zaR aEl cEl 10 fEl)]) [0, 1] (by decide) rfl
  have hKc := hK.sub (tys' := [(cEl, .object "java/lang/Object")]) [0] rfl
  have hFc := va_free (wc := [(zo1iri bo mdc aEl (nI sz_)), (zaR aEl cEl 10 fEl)]) hD hS hA [0, 1] rfl
  refine va_callv (va_runS (As := [.int 1, .ref bo]) (rest := []) ⟨hx, hb, hml, hown, hts⟩ (c_begin1 l dC dI ad cB bS bo aEl 1 cEl fEl sz_ mdc tl H.size (by omega) (by omega) (zL)) (va_cwS 2 hts gX3_doSees_X3_begin rfl rfl rfl hd_yX3_begin.2 ⟨Nat.le_of_ble_eq_true rfl, Nat.le_of_ble_eq_true rfl⟩) ⟨fun a U g mk q => by obtain ⟨q0, q1, qP, qK, qD, qhI_⟩ := q; exact ⟨q0, q1, qP, va_K.moved (u := U) (U := U.calling g mk a) (Vm.Alike.refl U.vm) qK, qD, qhI_.same rfl rfl⟩, fun U hU hW => ⟨rfl, by rw [hU], by rw [hU]; exact hPc, va_K.moved hW.alike hKc, hDc.weaken (fun _ _ _ _ => trivial), hI_.call hS hU hW (fun q h => hFc q h)⟩⟩ rfl rfl hl.1 rfl (lv_room (Nat.le_of_ble_eq_true rfl)) dX3_doSees_2 ⟨Nat.le_of_ble_eq_true rfl, Nat.le_of_ble_eq_true rfl⟩) hS (fun q _ h => hFc q h) hFc (fun u tC H1 locs htC hvm hw_2 hB hz1 hk1 hS => ?_)
  obtain ⟨mdc9_3, sz_9_4, fEl9_5⟩ := u
  try dsimp only at hw_2 hB
  obtain ⟨hP1, hK1, hD1⟩ := hB
  rw [htC] at hP1
  have hK1 := va_K.moved hvm.symm hK1
  obtain ⟨hP, hD⟩ := va_join (wr := []) (w1 := [(zo1iri bo mdc9_3 aEl (nI sz_9_4)), (zaR aEl cEl 10 fEl9_5)]) hP hD [0, 1] [] rfl rfl (by decide) (by decide) hk1 hFc hP1 hD1
  have hK := (hK.sub (tys' := []) [] rfl).app hK1
  generalize H1 = H at hP hS ⊢
  have hP : va_P (dC, dI) vwCl [(zo1iri bo mdc9_3 aEl (nI sz_9_4)), (zaR aEl cEl 10 fEl9_5)] H := hP
  have hD : va_D A [(zo1iri bo mdc9_3 aEl (nI sz_9_4)), (zaR aEl cEl 10 fEl9_5)] := hD
  have hK : va_K (dC, dI) vwCl [(cEl, .object "java/lang/Object")] s := hK
  obtain ⟨e_6, hL_7⟩ := hw_2
  obtain rfl := (e_6).symm
  refine lv_iload_n hx hb dX3_doSees_5 rfl (lv_at hl 1 rfl) ?_
  refine lv_aload_n hx hb dX3_doSees_6 rfl (lv_at hl 0 rfl) ?_
  refine va_get (D := (dC, dI)) (ci := 6) (v := .int (nI i0)) (C := RX4) (T := TX4) (N := 4) hx hb hts kc_X3_doSees_X4_1_1 hown hZ.2.1 (hZ.P hS) 0 rfl rfl 1 (by decide) (hts (.fieldLink RX3 15 "MistHeaps$Heap" "number" "I") kc_X3_doSees_X4_1_0) (fun _ h9 => h9) rfl dX3_doSees_7 ?_
  refine lv_iadd hx hb dX3_doSees_10 ?_
  rw [hQ]
  have hP9 := hP.sub (ws' := [(zo1iri bo mdc9_3 aEl (nI (sz_ + 1))), (zaR aEl cEl 10 fEl9_5)]) [0, 1] rfl
  have hD9 := hD.sub (ws' := [(zo1iri bo mdc9_3 aEl (nI (sz_ + 1))), (zaR aEl cEl 10 fEl9_5)]) [0, 1] (by decide) rfl
  have hK9 := hK.sub (tys' := [(cEl, .object "java/lang/Object")]) [0] rfl
  exact W.iret (v := x + (nI i0)) hx hb hr (fun tQ htQ hWQ => ⟨⟨(x + (nI i0)), (mdc9_3, (sz_ + 1), fEl9_5), rfl, ⟨rfl, by omega, by have h9 := hL_7; exact h9⟩, by rw [htQ]; exact hP9, va_K.moved hWQ.alike hK9, hD9⟩, hS.F htQ⟩) hS.2.2 dX3_doSees_11

theorem kc_X3_doSees_X4_0_0 : (.fieldLink RX3 15 "MistHeaps$Heap" "number" "I" : Cond) ∈ wsX3_doSees := kc_of 231 rfl rfl rfl
theorem kc_X3_doSees_X4_0_1 : ∀ w ∈ wsX40, w ∈ wsX3_doSees := fun w h => List.mem_cons_of_mem _ (gin_wsX40 w h)
set_option maxHeartbeats 4000000 in
set_option maxRecDepth 100000 in
theorem c_X3_doSees_X4_0 (l : Launch) (dC : Nat → ClassId) (dI : Nat → Nat → Nat) (ad : Nat → Nat) (cB bS : Nat)    (bo : Nat) (i0 : Nat) (sk : Int32) (sv : Int32) (scl : Int32) (x : Int32) (a0 : Nat) (mdc : Int32) (sz : Nat) : Met l yX3_doSees wsX3_doSees ({ frames := 6, cells := 1, slots := 10, locals := 122 } : Room) (va_Pc [.ref a0, .int x, .ref bo] (fun U => U.heap.size = sz ∧ va_P (dC, dI) vwCl [(zo1iri bo mdc bS 0)] U.heap ∧ va_K (dC, dI) vwCl [] U ∧ va_D (fun _ => True) [(zo1iri bo mdc bS 0)] ∧ Gi ad cB bS (va_A [(zo1iri bo mdc bS 0)] sz) U ∧ Gb (va_A [(zo1iri bo mdc bS 0)] sz) U ∧ Gw (va_A [(zo1iri bo mdc bS 0)] sz) U ∧ Fz dC dI [(zo6iiii a0 sk (nI i0) sv scl)] [] (va_A [(zo1iri bo mdc bS 0)] sz) U)) (va_Qi (fun (r : Int32) (u : (Int32) × (Nat) × (ClassId) × (Nat) × (Nat → Option Nat)) => match u with | (mdc9, aEl9, cEl9, sz_9, fEl9) => r = x + nI i0 ∧ sz_9 = 1 ∧ okL ad fEl9 sz_9 [1]) (fun (u : (Int32) × (Nat) × (ClassId) × (Nat) × (Nat → Option Nat)) (t : State) => match u with | (mdc9, aEl9, cEl9, sz_9, fEl9) => va_P (dC, dI) vwCl [(zo1iri bo mdc9 aEl9 (nI sz_9)), (zaR aEl9 cEl9 10 fEl9)] t.heap ∧ va_K (dC, dI) vwCl [(cEl9, .object "java/lang/Object")] t ∧ va_D (va_A [(zo1iri bo mdc bS 0)] sz) [(zo1iri bo mdc9 aEl9 (nI sz_9)), (zaR aEl9 cEl9 10 fEl9)]) (va_A [(zo1iri bo mdc bS 0)] sz)) 1 10 (va_A [(zo1iri bo mdc bS 0)] sz) := by
  refine met_ofQ (cc := cX3_doSees) (maxL := 3) (ret := (some .int)) (by decide) rfl ?_
  intro p e s m args below meth c s₁ Q B hml hv hQ
  obtain ⟨rfl, hsz, hP, hK, hD0, hI_, hB_, hW_, hZ⟩ := hv
  have hx := B.exec
  have hb := B.bytes
  have hr := B.returns
  have hts := atoms_spec (ws := wsX3_doSees) B.pre
  have hown : s.vm.findClass RX3 = some m.cls := findClass_of_methodNamed B.named
  have hlocks := B.notSynchronized
  subst hsz
  have hD := hD0.self (sz := s.heap.size)
  generalize hAe : va_A [(zo1iri bo mdc bS 0)] s.heap.size = A at hD hQ hI_ hB_ hW_ hZ ⊢
  have hA : ∀ q : Nat, s.heap.size ≤ q → A q := fun q h => by rw [← hAe]; exact Or.inr h
  have hS : va_S A s.heap s.heap [] := va_S.rf
  have hl := lv_entry [.ref a0, .int x, .ref bo] (n := 3) (Nat.le_of_ble_eq_true rfl)
  rw [lg_entry_eq]
  generalize (lg_sl [.ref a0, .int x, .ref bo] ++ List.replicate (3 - (lg_sl [.ref a0, .int x, .ref bo]).length) Slot.unset).toArray = ls at hl ⊢
  generalize hag : ([.ref a0, .int x, .ref bo] : List Value).toArray = args at hts hQ ⊢
  have hl : lv_has ls 3 [(0, .ref a0), (1, .int x), (2, .ref bo)] := hl
  obtain ⟨H, hH⟩ : ∃ H : Heap, H = s.heap := ⟨_, rfl⟩
  rw [← hH] at hP
  rw [← hH]
  have hS : va_S A s.heap H [] := by rw [hH]; exact hS
  obtain ⟨locs, hlo⟩ : ∃ L : List Loc, L = [] := ⟨_, rfl⟩
  rw [← hlo] at hS
  rw [← hlo]
  clear hH hlo
  refine lv_iconst (v := 1) hx hb dX3_doSees_0 (by decide) ?_
  refine lv_aload_n hx hb dX3_doSees_1 rfl (lv_at hl 2 rfl) ?_
  have hPc := hP.sub (ws' := [(zo1iri bo mdc bS 0)]) [0] rfl
  have hDc := hD.sub (ws' := [(zo1iri bo mdc bS 0)]) [0] (by decide) rfl
  have hKc := hK.sub (tys' := []) [] rfl
  have hFc := va_free (wc := [(zo1iri bo mdc bS 0)]) hD hS hA [0] rfl
  refine va_callv (va_runS (As := [.int 1, .ref bo]) (rest := []) ⟨hx, hb, hml, hown, hts⟩ (c_begin0 l dC dI ad cB bS bo mdc 1 H.size (by omega)) (va_cwS 2 hts gX3_doSees_X3_begin rfl rfl rfl hd_yX3_begin.2 ⟨Nat.le_of_ble_eq_true rfl, Nat.le_of_ble_eq_true rfl⟩) ⟨fun a U g mk q => by obtain ⟨q0, q1, qP, qK, qD, qhI_⟩ := q; exact ⟨q0, q1, qP, va_K.moved (u := U) (U := U.calling g mk a) (Vm.Alike.refl U.vm) qK, qD, qhI_.same rfl rfl⟩, fun U hU hW => ⟨rfl, by rw [hU], by rw [hU]; exact hPc, va_K.moved hW.alike hKc, hDc.weaken (fun _ _ _ _ => trivial), hI_.call hS hU hW (fun q h => hFc q h)⟩⟩ rfl rfl hl.1 rfl (lv_room (Nat.le_of_ble_eq_true rfl)) dX3_doSees_2 ⟨Nat.le_of_ble_eq_true rfl, Nat.le_of_ble_eq_true rfl⟩) hS (fun q _ h => hFc q h) hFc (fun u tC H1 locs htC hvm hw_2 hB hz1 hk1 hS => ?_)
  obtain ⟨mdc9_3, aEl9_4, cEl9_5, sz_9_6, fEl9_7⟩ := u
  try dsimp only at hw_2 hB
  obtain ⟨hP1, hK1, hD1⟩ := hB
  rw [htC] at hP1
  have hK1 := va_K.moved hvm.symm hK1
  obtain ⟨hP, hD⟩ := va_join (wr := []) (w1 := [(zo1iri bo mdc9_3 aEl9_4 (nI sz_9_6)), (zaR aEl9_4 cEl9_5 10 fEl9_7)]) hP hD [0] [] rfl rfl (by decide) (by decide) hk1 hFc hP1 hD1
  have hK := (hK.sub (tys' := []) [] rfl).app hK1
  generalize H1 = H at hP hS ⊢
  have hP : va_P (dC, dI) vwCl [(zo1iri bo mdc9_3 aEl9_4 (nI sz_9_6)), (zaR aEl9_4 cEl9_5 10 fEl9_7)] H := hP
  have hD : va_D A [(zo1iri bo mdc9_3 aEl9_4 (nI sz_9_6)), (zaR aEl9_4 cEl9_5 10 fEl9_7)] := hD
  have hK : va_K (dC, dI) vwCl [(cEl9_5, .object "java/lang/Object")] s := hK
  refine W.widen (k := 1) (n := 10) (by omega) (by omega) ?_
  obtain ⟨e_8, hL_9⟩ := hw_2
  obtain rfl := (e_8).symm
  refine lv_iload_n hx hb dX3_doSees_5 rfl (lv_at hl 1 rfl) ?_
  refine lv_aload_n hx hb dX3_doSees_6 rfl (lv_at hl 0 rfl) ?_
  refine va_get (D := (dC, dI)) (ci := 6) (v := .int (nI i0)) (C := RX4) (T := TX4) (N := 4) hx hb hts kc_X3_doSees_X4_0_1 hown hZ.2.1 (hZ.P hS) 0 rfl rfl 1 (by decide) (hts (.fieldLink RX3 15 "MistHeaps$Heap" "number" "I") kc_X3_doSees_X4_0_0) (fun _ h9 => h9) rfl dX3_doSees_7 ?_
  refine lv_iadd hx hb dX3_doSees_10 ?_
  rw [hQ]
  have hP9 := hP.sub (ws' := [(zo1iri bo mdc9_3 aEl9_4 (nI 1)), (zaR aEl9_4 cEl9_5 10 fEl9_7)]) [0, 1] rfl
  have hD9 := hD.sub (ws' := [(zo1iri bo mdc9_3 aEl9_4 (nI 1)), (zaR aEl9_4 cEl9_5 10 fEl9_7)]) [0, 1] (by decide) rfl
  have hK9 := hK.sub (tys' := [(cEl9_5, .object "java/lang/Object")]) [0] rfl
  refine W.widen (k := 1) (n := 10) (by omega) (by omega) ?_
  exact W.iret (v := x + (nI i0)) hx hb hr (fun tQ htQ hWQ => ⟨⟨(x + (nI i0)), (mdc9_3, aEl9_4, cEl9_5, 1, fEl9_7), rfl, ⟨rfl, by omega, hL_9⟩, by rw [htQ]; exact hP9, va_K.moved hWQ.alike hK9, hD9⟩, hS.F htQ⟩) hS.2.2 dX3_doSees_11

set_option maxHeartbeats 4000000 in
set_option maxRecDepth 100000 in
theorem c_X4_doSees_X4_1 (l : Launch) (dC : Nat → ClassId) (dI : Nat → Nat → Nat) (ad : Nat → Nat) (cB bS : Nat)    (bo : Nat) (aEl : Nat) (i0 : Nat) (sk : Int32) (sv : Int32) (scl : Int32) (x : Int32) (cEl : ClassId) (fEl : Nat → Option Nat) (a0 : Nat) (sz_ : Nat) (mdc : Int32) (tl : List Nat) (sz : Nat) (hsz : sz_ + 2 ≤ 10) (zL : okL ad fEl sz_ tl) : Met l yX4_doSees wsX4_doSees ({ frames := 4, cells := 0, slots := 0, locals := 87 } : Room) (va_Pc [.ref a0, .int x, .ref bo] (fun U => U.heap.size = sz ∧ va_P (dC, dI) vwCl [(zo1iri bo mdc aEl (nI sz_)), (zaR aEl cEl 10 fEl)] U.heap ∧ va_K (dC, dI) vwCl [(cEl, .object "java/lang/Object")] U ∧ va_D (fun _ => True) [(zo1iri bo mdc aEl (nI sz_)), (zaR aEl cEl 10 fEl)] ∧ Gi ad cB bS (va_A [(zo1iri bo mdc aEl (nI sz_)), (zaR aEl cEl 10 fEl)] sz) U ∧ Gb (va_A [(zo1iri bo mdc aEl (nI sz_)), (zaR aEl cEl 10 fEl)] sz) U ∧ Gw (va_A [(zo1iri bo mdc aEl (nI sz_)), (zaR aEl cEl 10 fEl)] sz) U ∧ Fz dC dI [(zo6iiii a0 sk (nI i0) sv scl)] [] (va_A [(zo1iri bo mdc aEl (nI sz_)), (zaR aEl cEl 10 fEl)] sz) U)) (va_Qi (fun (r : Int32) (u : (Int32) × (Nat) × (Nat → Option Nat)) => match u with | (mdc9, sz_9, fEl9) => r = x * 3 + nI i0 ∧ sz_9 = sz_ + 2 ∧ okL ad fEl9 sz_9 (tl ++ [11, 1])) (fun (u : (Int32) × (Nat) × (Nat → Option Nat)) (t : State) => match u with | (mdc9, sz_9, fEl9) => va_P (dC, dI) vwCl [(zo1iri bo mdc9 aEl (nI sz_9)), (zaR aEl cEl 10 fEl9)] t.heap ∧ va_K (dC, dI) vwCl [(cEl, .object "java/lang/Object")] t ∧ va_D (va_A [(zo1iri bo mdc aEl (nI sz_)), (zaR aEl cEl 10 fEl)] sz) [(zo1iri bo mdc9 aEl (nI sz_9)), (zaR aEl cEl 10 fEl9)]) (va_A [(zo1iri bo mdc aEl (nI sz_)), (zaR aEl cEl 10 fEl)] sz)) 0 0 (va_A [(zo1iri bo mdc aEl (nI sz_)), (zaR aEl cEl 10 fEl)] sz) := by
  refine met_ofQ (cc := cX4_doSees) (maxL := 3) (ret := (some .int)) (by decide) rfl ?_
  intro p e s m args below meth c s₁ Q B hml hv hQ
  obtain ⟨rfl, hsz, hP, hK, hD0, hI_, hB_, hW_, hZ⟩ := hv
  have hx := B.exec
  have hb := B.bytes
  have hr := B.returns
  have hts := atoms_spec (ws := wsX4_doSees) B.pre
  have hown : s.vm.findClass RX4 = some m.cls := findClass_of_methodNamed B.named
  have hlocks := B.notSynchronized
  subst hsz
  have hD := hD0.self (sz := s.heap.size)
  generalize hAe : va_A [(zo1iri bo mdc aEl (nI sz_)), (zaR aEl cEl 10 fEl)] s.heap.size = A at hD hQ hI_ hB_ hW_ hZ ⊢
  have hA : ∀ q : Nat, s.heap.size ≤ q → A q := fun q h => by rw [← hAe]; exact Or.inr h
  have hS : va_S A s.heap s.heap [] := va_S.rf
  have hl := lv_entry [.ref a0, .int x, .ref bo] (n := 3) (Nat.le_of_ble_eq_true rfl)
  rw [lg_entry_eq]
  generalize (lg_sl [.ref a0, .int x, .ref bo] ++ List.replicate (3 - (lg_sl [.ref a0, .int x, .ref bo]).length) Slot.unset).toArray = ls at hl ⊢
  generalize hag : ([.ref a0, .int x, .ref bo] : List Value).toArray = args at hts hQ ⊢
  have hl : lv_has ls 3 [(0, .ref a0), (1, .int x), (2, .ref bo)] := hl
  obtain ⟨H, hH⟩ : ∃ H : Heap, H = s.heap := ⟨_, rfl⟩
  rw [← hH] at hP
  rw [← hH]
  have hS : va_S A s.heap H [] := by rw [hH]; exact hS
  obtain ⟨locs, hlo⟩ : ∃ L : List Loc, L = [] := ⟨_, rfl⟩
  rw [← hlo] at hS
  rw [← hlo]
  clear hH hlo
  refine lv_bipush (v := 11) hx hb dX4_doSees_0 (by decide) ?_
  refine lv_aload_n hx hb dX4_doSees_2 rfl (lv_at hl 2 rfl) ?_
  have hPc := hP.sub (ws' := [(zo1iri bo mdc aEl (nI sz_)), (zaR aEl cEl 10 fEl)]) [0, 1] rfl
  have hDc := hD.sub (ws' := [(zo1iri bo mdc aEl (nI sz_)), (zaR aEl cEl 10 fEl)]) [0, 1] (by decide) rfl
  have hKc := hK.sub (tys' := [(cEl, .object "java/lang/Object")]) [0] rfl
  have hFc := va_free (wc := [(zo1iri bo mdc aEl (nI sz_)), (zaR aEl cEl 10 fEl)]) hD hS hA [0, 1] rfl
  refine va_callv (va_runU2 (As := [.int 11, .ref bo]) (rest := []) ⟨hx, hb, hml, hown, hts⟩ (c_begin1 l dC dI ad cB bS bo aEl 11 cEl fEl sz_ mdc tl H.size (by omega) (by omega) (zL)) (u2_cw (x := xb4) 2 hB_ inb4 rfl rfl rfl rfl rfl (by decide +kernel) ⟨Nat.le_of_ble_eq_true rfl, Nat.le_of_ble_eq_true rfl⟩) ⟨fun a U g mk q => by obtain ⟨q0, q1, qP, qK, qD, qhI_⟩ := q; exact ⟨q0, q1, qP, va_K.moved (u := U) (U := U.calling g mk a) (Vm.Alike.refl U.vm) qK, qD, qhI_.same rfl rfl⟩, fun U hU hW => ⟨rfl, by rw [hU], by rw [hU]; exact hPc, va_K.moved hW.alike hKc, hDc.weaken (fun _ _ _ _ => trivial), hI_.call hS hU hW (fun q h => hFc q h)⟩⟩ rfl rfl hl.1 rfl (lv_room (Nat.le_of_ble_eq_true rfl)) dX4_doSees_3 ⟨Nat.le_of_ble_eq_true rfl, Nat.le_of_ble_eq_true rfl⟩) hS (fun q _ h => hFc q h) hFc (fun u tC H1 locs htC hvm hw_2 hB hz1 hk1 hS => ?_)
  obtain ⟨mdc9_3, sz_9_4, fEl9_5⟩ := u
  try dsimp only at hw_2 hB
  obtain ⟨hP1, hK1, hD1⟩ := hB
  rw [htC] at hP1
  have hK1 := va_K.moved hvm.symm hK1
  obtain ⟨hP, hD⟩ := va_join (wr := []) (w1 := [(zo1iri bo mdc9_3 aEl (nI sz_9_4)), (zaR aEl cEl 10 fEl9_5)]) hP hD [0, 1] [] rfl rfl (by decide) (by decide) hk1 hFc hP1 hD1
  have hK := (hK.sub (tys' := []) [] rfl).app hK1
  generalize H1 = H at hP hS ⊢
  have hP : va_P (dC, dI) vwCl [(zo1iri bo mdc9_3 aEl (nI sz_9_4)), (zaR aEl cEl 10 fEl9_5)] H := hP
  have hD : va_D A [(zo1iri bo mdc9_3 aEl (nI sz_9_4)), (zaR aEl cEl 10 fEl9_5)] := hD
  have hK : va_K (dC, dI) vwCl [(cEl, .object "java/lang/Object")] s := hK
  obtain ⟨e_6, hL_7⟩ := hw_2
  obtain rfl := (e_6).symm
  refine lv_aload_n hx hb dX4_doSees_6 rfl (lv_at hl 0 rfl) ?_
  refine lv_iload_n hx hb dX4_doSees_7 rfl (lv_at hl 1 rfl) ?_
  refine lv_iconst (v := 3) hx hb dX4_doSees_8 (by decide) ?_
  refine lv_imul hx hb dX4_doSees_9 ?_
  refine lv_aload_n hx hb dX4_doSees_10 rfl (lv_at hl 2 rfl) ?_
  have hPc := hP.sub (ws' := [(zo1iri bo mdc9_3 aEl (nI (sz_ + 1))), (zaR aEl cEl 10 fEl9_5)]) [0, 1] rfl
  have hDc := hD.sub (ws' := [(zo1iri bo mdc9_3 aEl (nI (sz_ + 1))), (zaR aEl cEl 10 fEl9_5)]) [0, 1] (by decide) rfl
  have hKc := hK.sub (tys' := [(cEl, .object "java/lang/Object")]) [0] rfl
  have hFc := va_free (wc := [(zo1iri bo mdc9_3 aEl (nI (sz_ + 1))), (zaR aEl cEl 10 fEl9_5)]) hD hS hA [0, 1] rfl
  refine va_calli (va_runSU (hZ.2.1.1 6 (RX4, TX4, 4) rfl).2 (As := [.int (x * 3), .ref bo]) (rest := []) ⟨hx, hb, hml, hown, hts⟩ (c_X3_doSees_X4_1 l dC dI ad cB bS    bo aEl i0 sk sv scl (x * 3) cEl fEl9_5 a0 (sz_ + 1) mdc9_3 (tl ++ [11]) H.size (by omega) (hL_7)) (va_cwSU 2 hts gX4_doSees_X3_doSees_s21 rfl rfl rfl (by decide +kernel) ⟨Nat.le_of_ble_eq_true rfl, Nat.le_of_ble_eq_true rfl⟩) ⟨fun a U g mk q => by obtain ⟨q0, q1, qP, qK, qD, qhI_, qhB_, qhW_, qhZ⟩ := q; exact ⟨q0, q1, qP, va_K.moved (u := U) (U := U.calling g mk a) (Vm.Alike.refl U.vm) qK, qD, qhI_.same rfl rfl, qhB_.same rfl rfl, qhW_.same rfl rfl, qhZ.same rfl rfl⟩, va_recv hZ.2.1 (hZ.P hS) (ci := 6) (q := (RX4, TX4, 4)) (q0 := 0) rfl rfl, fun U hU hW => ⟨rfl, by rw [hU], by rw [hU]; exact hPc, va_K.moved hW.alike hKc, hDc.weaken (fun _ _ _ _ => trivial), hI_.call hS hU hW (fun q h => hFc q h), hB_.call hS hU hW (fun q h => hFc q h), hW_.call hS hU hW (fun q h => hFc q h), (hZ.sub [0] [] rfl rfl).call hS hU hW (fun q h => hFc q h)⟩⟩ rfl rfl hl.1 rfl (lv_room (Nat.le_of_ble_eq_true rfl)) dX4_doSees_11 ⟨Nat.le_of_ble_eq_true rfl, Nat.le_of_ble_eq_true rfl⟩) hS (fun q _ h => hFc q h) hFc (fun r_8 u tC H1 locs htC hvm hw_9 hB hz1 hk1 hS => ?_)
  obtain ⟨mdc9_10, sz_9_11, fEl9_12⟩ := u
  try dsimp only at hw_9 hB
  obtain ⟨hP1, hK1, hD1⟩ := hB
  rw [htC] at hP1
  have hK1 := va_K.moved hvm.symm hK1
  obtain ⟨hP, hD⟩ := va_join (wr := []) (w1 := [(zo1iri bo mdc9_10 aEl (nI sz_9_11)), (zaR aEl cEl 10 fEl9_12)]) hP hD [0, 1] [] rfl rfl (by decide) (by decide) hk1 hFc hP1 hD1
  have hK := (hK.sub (tys' := []) [] rfl).app hK1
  generalize H1 = H at hP hS ⊢
  have hP : va_P (dC, dI) vwCl [(zo1iri bo mdc9_10 aEl (nI sz_9_11)), (zaR aEl cEl 10 fEl9_12)] H := hP
  have hD : va_D A [(zo1iri bo mdc9_10 aEl (nI sz_9_11)), (zaR aEl cEl 10 fEl9_12)] := hD
  have hK : va_K (dC, dI) vwCl [(cEl, .object "java/lang/Object")] s := hK
  obtain ⟨er_13, e_14, hL_15⟩ := hw_9
  obtain rfl := (e_14).symm
  subst er_13
  rw [hQ]
  have hP9 := hP.sub (ws' := [(zo1iri bo mdc9_10 aEl (nI ((sz_ + 1) + 1))), (zaR aEl cEl 10 fEl9_12)]) [0, 1] rfl
  have hD9 := hD.sub (ws' := [(zo1iri bo mdc9_10 aEl (nI ((sz_ + 1) + 1))), (zaR aEl cEl 10 fEl9_12)]) [0, 1] (by decide) rfl
  have hK9 := hK.sub (tys' := [(cEl, .object "java/lang/Object")]) [0] rfl
  exact W.iret (v := (x * 3) + nI i0) hx hb hr (fun tQ htQ hWQ => ⟨⟨((x * 3) + nI i0), (mdc9_10, ((sz_ + 1) + 1), fEl9_12), rfl, ⟨rfl, by omega, by have h9 := okL_as (hL_15); exact h9⟩, by rw [htQ]; exact hP9, va_K.moved hWQ.alike hK9, hD9⟩, hS.F htQ⟩) hS.2.2 dX4_doSees_14

set_option maxHeartbeats 4000000 in
set_option maxRecDepth 100000 in
theorem c_X4_doSees_X4_0 (l : Launch) (dC : Nat → ClassId) (dI : Nat → Nat → Nat) (ad : Nat → Nat) (cB bS : Nat)    (bo : Nat) (i0 : Nat) (sk : Int32) (sv : Int32) (scl : Int32) (x : Int32) (a0 : Nat) (mdc : Int32) (sz : Nat) : Met l yX4_doSees wsX4_doSees ({ frames := 6, cells := 1, slots := 10, locals := 122 } : Room) (va_Pc [.ref a0, .int x, .ref bo] (fun U => U.heap.size = sz ∧ va_P (dC, dI) vwCl [(zo1iri bo mdc bS 0)] U.heap ∧ va_K (dC, dI) vwCl [] U ∧ va_D (fun _ => True) [(zo1iri bo mdc bS 0)] ∧ Gi ad cB bS (va_A [(zo1iri bo mdc bS 0)] sz) U ∧ Gb (va_A [(zo1iri bo mdc bS 0)] sz) U ∧ Gw (va_A [(zo1iri bo mdc bS 0)] sz) U ∧ Fz dC dI [(zo6iiii a0 sk (nI i0) sv scl)] [] (va_A [(zo1iri bo mdc bS 0)] sz) U)) (va_Qi (fun (r : Int32) (u : (Int32) × (Nat) × (ClassId) × (Nat) × (Nat → Option Nat)) => match u with | (mdc9, aEl9, cEl9, sz_9, fEl9) => r = x * 3 + nI i0 ∧ sz_9 = 2 ∧ okL ad fEl9 sz_9 [11, 1]) (fun (u : (Int32) × (Nat) × (ClassId) × (Nat) × (Nat → Option Nat)) (t : State) => match u with | (mdc9, aEl9, cEl9, sz_9, fEl9) => va_P (dC, dI) vwCl [(zo1iri bo mdc9 aEl9 (nI sz_9)), (zaR aEl9 cEl9 10 fEl9)] t.heap ∧ va_K (dC, dI) vwCl [(cEl9, .object "java/lang/Object")] t ∧ va_D (va_A [(zo1iri bo mdc bS 0)] sz) [(zo1iri bo mdc9 aEl9 (nI sz_9)), (zaR aEl9 cEl9 10 fEl9)]) (va_A [(zo1iri bo mdc bS 0)] sz)) 1 10 (va_A [(zo1iri bo mdc bS 0)] sz) := by
  refine met_ofQ (cc := cX4_doSees) (maxL := 3) (ret := (some .int)) (by decide) rfl ?_
  intro p e s m args below meth c s₁ Q B hml hv hQ
  obtain ⟨rfl, hsz, hP, hK, hD0, hI_, hB_, hW_, hZ⟩ := hv
  have hx := B.exec
  have hb := B.bytes
  have hr := B.returns
  have hts := atoms_spec (ws := wsX4_doSees) B.pre
  have hown : s.vm.findClass RX4 = some m.cls := findClass_of_methodNamed B.named
  have hlocks := B.notSynchronized
  subst hsz
  have hD := hD0.self (sz := s.heap.size)
  generalize hAe : va_A [(zo1iri bo mdc bS 0)] s.heap.size = A at hD hQ hI_ hB_ hW_ hZ ⊢
  have hA : ∀ q : Nat, s.heap.size ≤ q → A q := fun q h => by rw [← hAe]; exact Or.inr h
  have hS : va_S A s.heap s.heap [] := va_S.rf
  have hl := lv_entry [.ref a0, .int x, .ref bo] (n := 3) (Nat.le_of_ble_eq_true rfl)
  rw [lg_entry_eq]
  generalize (lg_sl [.ref a0, .int x, .ref bo] ++ List.replicate (3 - (lg_sl [.ref a0, .int x, .ref bo]).length) Slot.unset).toArray = ls at hl ⊢
  generalize hag : ([.ref a0, .int x, .ref bo] : List Value).toArray = args at hts hQ ⊢
  have hl : lv_has ls 3 [(0, .ref a0), (1, .int x), (2, .ref bo)] := hl
  obtain ⟨H, hH⟩ : ∃ H : Heap, H = s.heap := ⟨_, rfl⟩
  rw [← hH] at hP
  rw [← hH]
  have hS : va_S A s.heap H [] := by rw [hH]; exact hS
  obtain ⟨locs, hlo⟩ : ∃ L : List Loc, L = [] := ⟨_, rfl⟩
  rw [← hlo] at hS
  rw [← hlo]
  clear hH hlo
  refine lv_bipush (v := 11) hx hb dX4_doSees_0 (by decide) ?_
  refine lv_aload_n hx hb dX4_doSees_2 rfl (lv_at hl 2 rfl) ?_
  have hPc := hP.sub (ws' := [(zo1iri bo mdc bS 0)]) [0] rfl
  have hDc := hD.sub (ws' := [(zo1iri bo mdc bS 0)]) [0] (by decide) rfl
  have hKc := hK.sub (tys' := []) [] rfl
  have hFc := va_free (wc := [(zo1iri bo mdc bS 0)]) hD hS hA [0] rfl
  refine va_callv (va_runU2 (As := [.int 11, .ref bo]) (rest := []) ⟨hx, hb, hml, hown, hts⟩ (c_begin0 l dC dI ad cB bS bo mdc 11 H.size (by omega)) (u2_cw (x := xb4) 2 hB_ inb4 rfl rfl rfl rfl rfl (by decide +kernel) ⟨Nat.le_of_ble_eq_true rfl, Nat.le_of_ble_eq_true rfl⟩) ⟨fun a U g mk q => by obtain ⟨q0, q1, qP, qK, qD, qhI_⟩ := q; exact ⟨q0, q1, qP, va_K.moved (u := U) (U := U.calling g mk a) (Vm.Alike.refl U.vm) qK, qD, qhI_.same rfl rfl⟩, fun U hU hW => ⟨rfl, by rw [hU], by rw [hU]; exact hPc, va_K.moved hW.alike hKc, hDc.weaken (fun _ _ _ _ => trivial), hI_.call hS hU hW (fun q h => hFc q h)⟩⟩ rfl rfl hl.1 rfl (lv_room (Nat.le_of_ble_eq_true rfl)) dX4_doSees_3 ⟨Nat.le_of_ble_eq_true rfl, Nat.le_of_ble_eq_true rfl⟩) hS (fun q _ h => hFc q h) hFc (fun u tC H1 locs htC hvm hw_2 hB hz1 hk1 hS => ?_)
  obtain ⟨mdc9_3, aEl9_4, cEl9_5, sz_9_6, fEl9_7⟩ := u
  try dsimp only at hw_2 hB
  obtain ⟨hP1, hK1, hD1⟩ := hB
  rw [htC] at hP1
  have hK1 := va_K.moved hvm.symm hK1
  obtain ⟨hP, hD⟩ := va_join (wr := []) (w1 := [(zo1iri bo mdc9_3 aEl9_4 (nI sz_9_6)), (zaR aEl9_4 cEl9_5 10 fEl9_7)]) hP hD [0] [] rfl rfl (by decide) (by decide) hk1 hFc hP1 hD1
  have hK := (hK.sub (tys' := []) [] rfl).app hK1
  generalize H1 = H at hP hS ⊢
  have hP : va_P (dC, dI) vwCl [(zo1iri bo mdc9_3 aEl9_4 (nI sz_9_6)), (zaR aEl9_4 cEl9_5 10 fEl9_7)] H := hP
  have hD : va_D A [(zo1iri bo mdc9_3 aEl9_4 (nI sz_9_6)), (zaR aEl9_4 cEl9_5 10 fEl9_7)] := hD
  have hK : va_K (dC, dI) vwCl [(cEl9_5, .object "java/lang/Object")] s := hK
  refine W.widen (k := 1) (n := 10) (by omega) (by omega) ?_
  obtain ⟨e_8, hL_9⟩ := hw_2
  obtain rfl := (e_8).symm
  refine lv_aload_n hx hb dX4_doSees_6 rfl (lv_at hl 0 rfl) ?_
  refine lv_iload_n hx hb dX4_doSees_7 rfl (lv_at hl 1 rfl) ?_
  refine lv_iconst (v := 3) hx hb dX4_doSees_8 (by decide) ?_
  refine lv_imul hx hb dX4_doSees_9 ?_
  refine lv_aload_n hx hb dX4_doSees_10 rfl (lv_at hl 2 rfl) ?_
  have hPc := hP.sub (ws' := [(zo1iri bo mdc9_3 aEl9_4 (nI 1)), (zaR aEl9_4 cEl9_5 10 fEl9_7)]) [0, 1] rfl
  have hDc := hD.sub (ws' := [(zo1iri bo mdc9_3 aEl9_4 (nI 1)), (zaR aEl9_4 cEl9_5 10 fEl9_7)]) [0, 1] (by decide) rfl
  have hKc := hK.sub (tys' := [(cEl9_5, .object "java/lang/Object")]) [0] rfl
  have hFc := va_free (wc := [(zo1iri bo mdc9_3 aEl9_4 (nI 1)), (zaR aEl9_4 cEl9_5 10 fEl9_7)]) hD hS hA [0, 1] rfl
  refine va_calli (va_runSU (hZ.2.1.1 6 (RX4, TX4, 4) rfl).2 (As := [.int (x * 3), .ref bo]) (rest := []) ⟨hx, hb, hml, hown, hts⟩ (c_X3_doSees_X4_1 l dC dI ad cB bS    bo aEl9_4 i0 sk sv scl (x * 3) cEl9_5 fEl9_7 a0 1 mdc9_3 ([11]) H.size (by omega) (hL_9)) (va_cwSU 2 hts gX4_doSees_X3_doSees_s21 rfl rfl rfl (by decide +kernel) ⟨Nat.le_of_ble_eq_true rfl, Nat.le_of_ble_eq_true rfl⟩) ⟨fun a U g mk q => by obtain ⟨q0, q1, qP, qK, qD, qhI_, qhB_, qhW_, qhZ⟩ := q; exact ⟨q0, q1, qP, va_K.moved (u := U) (U := U.calling g mk a) (Vm.Alike.refl U.vm) qK, qD, qhI_.same rfl rfl, qhB_.same rfl rfl, qhW_.same rfl rfl, qhZ.same rfl rfl⟩, va_recv hZ.2.1 (hZ.P hS) (ci := 6) (q := (RX4, TX4, 4)) (q0 := 0) rfl rfl, fun U hU hW => ⟨rfl, by rw [hU], by rw [hU]; exact hPc, va_K.moved hW.alike hKc, hDc.weaken (fun _ _ _ _ => trivial), hI_.call hS hU hW (fun q h => hFc q h), hB_.call hS hU hW (fun q h => hFc q h), hW_.call hS hU hW (fun q h => hFc q h), (hZ.sub [0] [] rfl rfl).call hS hU hW (fun q h => hFc q h)⟩⟩ rfl rfl hl.1 rfl (lv_room (Nat.le_of_ble_eq_true rfl)) dX4_doSees_11 ⟨Nat.le_of_ble_eq_true rfl, Nat.le_of_ble_eq_true rfl⟩) hS (fun q _ h => hFc q h) hFc (fun r_10 u tC H1 locs htC hvm hw_11 hB hz1 hk1 hS => ?_)
  obtain ⟨mdc9_12, sz_9_13, fEl9_14⟩ := u
  try dsimp only at hw_11 hB
  obtain ⟨hP1, hK1, hD1⟩ := hB
  rw [htC] at hP1
  have hK1 := va_K.moved hvm.symm hK1
  obtain ⟨hP, hD⟩ := va_join (wr := []) (w1 := [(zo1iri bo mdc9_12 aEl9_4 (nI sz_9_13)), (zaR aEl9_4 cEl9_5 10 fEl9_14)]) hP hD [0, 1] [] rfl rfl (by decide) (by decide) hk1 hFc hP1 hD1
  have hK := (hK.sub (tys' := []) [] rfl).app hK1
  generalize H1 = H at hP hS ⊢
  have hP : va_P (dC, dI) vwCl [(zo1iri bo mdc9_12 aEl9_4 (nI sz_9_13)), (zaR aEl9_4 cEl9_5 10 fEl9_14)] H := hP
  have hD : va_D A [(zo1iri bo mdc9_12 aEl9_4 (nI sz_9_13)), (zaR aEl9_4 cEl9_5 10 fEl9_14)] := hD
  have hK : va_K (dC, dI) vwCl [(cEl9_5, .object "java/lang/Object")] s := hK
  obtain ⟨er_15, e_16, hL_17⟩ := hw_11
  obtain rfl := (e_16).symm
  subst er_15
  rw [hQ]
  have hP9 := hP.sub (ws' := [(zo1iri bo mdc9_12 aEl9_4 (nI (1 + 1))), (zaR aEl9_4 cEl9_5 10 fEl9_14)]) [0, 1] rfl
  have hD9 := hD.sub (ws' := [(zo1iri bo mdc9_12 aEl9_4 (nI (1 + 1))), (zaR aEl9_4 cEl9_5 10 fEl9_14)]) [0, 1] (by decide) rfl
  have hK9 := hK.sub (tys' := [(cEl9_5, .object "java/lang/Object")]) [0] rfl
  refine W.widen (k := 1) (n := 10) (by omega) (by omega) ?_
  exact W.iret (v := (x * 3) + nI i0) hx hb hr (fun tQ htQ hWQ => ⟨⟨((x * 3) + nI i0), (mdc9_12, aEl9_4, cEl9_5, (1 + 1), fEl9_14), rfl, ⟨rfl, by omega, hL_17⟩, by rw [htQ]; exact hP9, va_K.moved hWQ.alike hK9, hD9⟩, hS.F htQ⟩) hS.2.2 dX4_doSees_14

theorem kc_X3_doGoes_X4_1_0 : (.code yX3_doSees cX3_doSees 3 (some .int) : Cond) ∈ wsX3_doGoes := kc_of 1025 rfl rfl rfl
theorem kc_X3_doGoes_X4_1_1 : (.fieldLink RX3 18 "MistHeaps$Heap" "v" "I" : Cond) ∈ wsX3_doGoes := kc_of 236 rfl rfl rfl
theorem kc_X3_doGoes_X4_1_2 : ∀ w ∈ wsX40, w ∈ wsX3_doGoes := fun w h => List.mem_cons_of_mem _ (gin_wsX40 w h)
set_option maxHeartbeats 4000000 in
set_option maxRecDepth 100000 in
theorem c_X3_doGoes_X4_1 (l : Launch) (dC : Nat → ClassId) (dI : Nat → Nat → Nat) (ad : Nat → Nat) (cB bS : Nat)    (bo : Nat) (aEl : Nat) (i0 : Nat) (sk : Int32) (sv : Int32) (scl : Int32) (x : Int32) (cEl : ClassId) (fEl : Nat → Option Nat) (a0 : Nat) (sz_ : Nat) (mdc : Int32) (tl : List Nat) (sz : Nat) (hsz : sz_ + 3 ≤ 10) (zL : okL ad fEl sz_ tl) : Met l yX3_doGoes wsX3_doGoes ({ frames := 5, cells := 0, slots := 0, locals := 109 } : Room) (va_Pc [.ref a0, .int x, .ref bo] (fun U => U.heap.size = sz ∧ va_P (dC, dI) vwCl [(zo1iri bo mdc aEl (nI sz_)), (zaR aEl cEl 10 fEl)] U.heap ∧ va_K (dC, dI) vwCl [(cEl, .object "java/lang/Object")] U ∧ va_D (fun _ => True) [(zo1iri bo mdc aEl (nI sz_)), (zaR aEl cEl 10 fEl)] ∧ Gi ad cB bS (va_A [(zo1iri bo mdc aEl (nI sz_)), (zaR aEl cEl 10 fEl)] sz) U ∧ Gb (va_A [(zo1iri bo mdc aEl (nI sz_)), (zaR aEl cEl 10 fEl)] sz) U ∧ Gw (va_A [(zo1iri bo mdc aEl (nI sz_)), (zaR aEl cEl 10 fEl)] sz) U ∧ Fz dC dI [(zo6iiii a0 sk (nI i0) sv scl)] [] (va_A [(zo1iri bo mdc aEl (nI sz_)), (zaR aEl cEl 10 fEl)] sz) U)) (va_Qi (fun (r : Int32) (u : (Int32) × (Nat) × (Nat → Option Nat)) => match u with | (mdc9, sz_9, fEl9) => r = (x * 3 + nI i0) - sv ∧ sz_9 = sz_ + 3 ∧ okL ad fEl9 sz_9 (tl ++ [2, 11, 1])) (fun (u : (Int32) × (Nat) × (Nat → Option Nat)) (t : State) => match u with | (mdc9, sz_9, fEl9) => va_P (dC, dI) vwCl [(zo1iri bo mdc9 aEl (nI sz_9)), (zaR aEl cEl 10 fEl9)] t.heap ∧ va_K (dC, dI) vwCl [(cEl, .object "java/lang/Object")] t ∧ va_D (va_A [(zo1iri bo mdc aEl (nI sz_)), (zaR aEl cEl 10 fEl)] sz) [(zo1iri bo mdc9 aEl (nI sz_9)), (zaR aEl cEl 10 fEl9)]) (va_A [(zo1iri bo mdc aEl (nI sz_)), (zaR aEl cEl 10 fEl)] sz)) 0 0 (va_A [(zo1iri bo mdc aEl (nI sz_)), (zaR aEl cEl 10 fEl)] sz) := by
  refine met_ofQ (cc := cX3_doGoes) (maxL := 3) (ret := (some .int)) (by decide) rfl ?_
  intro p e s m args below meth c s₁ Q B hml hv hQ
  obtain ⟨rfl, hsz, hP, hK, hD0, hI_, hB_, hW_, hZ⟩ := hv
  have hx := B.exec
  have hb := B.bytes
  have hr := B.returns
  have hts := atoms_spec (ws := wsX3_doGoes) B.pre
  have hown : s.vm.findClass RX3 = some m.cls := findClass_of_methodNamed B.named
  have hlocks := B.notSynchronized
  subst hsz
  have hD := hD0.self (sz := s.heap.size)
  generalize hAe : va_A [(zo1iri bo mdc aEl (nI sz_)), (zaR aEl cEl 10 fEl)] s.heap.size = A at hD hQ hI_ hB_ hW_ hZ ⊢
  have hA : ∀ q : Nat, s.heap.size ≤ q → A q := fun q h => by rw [← hAe]; exact Or.inr h
  have hS : va_S A s.heap s.heap [] := va_S.rf
  have hl := lv_entry [.ref a0, .int x, .ref bo] (n := 3) (Nat.le_of_ble_eq_true rfl)
  rw [lg_entry_eq]
  generalize (lg_sl [.ref a0, .int x, .ref bo] ++ List.replicate (3 - (lg_sl [.ref a0, .int x, .ref bo]).length) Slot.unset).toArray = ls at hl ⊢
  generalize hag : ([.ref a0, .int x, .ref bo] : List Value).toArray = args at hts hQ ⊢
  have hl : lv_has ls 3 [(0, .ref a0), (1, .int x), (2, .ref bo)] := hl
  obtain ⟨H, hH⟩ : ∃ H : Heap, H = s.heap := ⟨_, rfl⟩
  rw [← hH] at hP
  rw [← hH]
  have hS : va_S A s.heap H [] := by rw [hH]; exact hS
  obtain ⟨locs, hlo⟩ : ∃ L : List Loc, L = [] := ⟨_, rfl⟩
  rw [← hlo] at hS
  rw [← hlo]
  clear hH hlo
  refine lv_iconst (v := 2) hx hb dX3_doGoes_0 (by decide) ?_
  refine lv_aload_n hx hb dX3_doGoes_1 rfl (lv_at hl 2 rfl) ?_
  have hPc := hP.sub (ws' := [(zo1iri bo mdc aEl (nI sz_)), (zaR aEl cEl 10 fEl)]) [0, 1] rfl
  have hDc := hD.sub (ws' := [(zo1iri bo mdc aEl (nI sz_)), (zaR aEl cEl 10 fEl)]) [0, 1] (by decide) rfl
  have hKc := hK.sub (tys' := [(cEl, .object "java/lang/Object")]) [0] rfl
  have hFc := va_free (wc := [(zo1iri bo mdc aEl (nI sz_)), (zaR aEl cEl 10 fEl)]) hD hS hA [0, 1] rfl
  refine va_callv (va_runS (As := [.int 2, .ref bo]) (rest := []) ⟨hx, hb, hml, hown, hts⟩ (c_begin1 l dC dI ad cB bS bo aEl 2 cEl fEl sz_ mdc tl H.size (by omega) (by omega) (zL)) (va_cwS 2 hts gX3_doGoes_X3_begin rfl rfl rfl hd_yX3_begin.2 ⟨Nat.le_of_ble_eq_true rfl, Nat.le_of_ble_eq_true rfl⟩) ⟨fun a U g mk q => by obtain ⟨q0, q1, qP, qK, qD, qhI_⟩ := q; exact ⟨q0, q1, qP, va_K.moved (u := U) (U := U.calling g mk a) (Vm.Alike.refl U.vm) qK, qD, qhI_.same rfl rfl⟩, fun U hU hW => ⟨rfl, by rw [hU], by rw [hU]; exact hPc, va_K.moved hW.alike hKc, hDc.weaken (fun _ _ _ _ => trivial), hI_.call hS hU hW (fun q h => hFc q h)⟩⟩ rfl rfl hl.1 rfl (lv_room (Nat.le_of_ble_eq_true rfl)) dX3_doGoes_2 ⟨Nat.le_of_ble_eq_true rfl, Nat.le_of_ble_eq_true rfl⟩) hS (fun q _ h => hFc q h) hFc (fun u tC H1 locs htC hvm hw_2 hB hz1 hk1 hS => ?_)
  obtain ⟨mdc9_3, sz_9_4, fEl9_5⟩ := u
  try dsimp only at hw_2 hB
  obtain ⟨hP1, hK1, hD1⟩ := hB
  rw [htC] at hP1
  have hK1 := va_K.moved hvm.symm hK1
  obtain ⟨hP, hD⟩ := va_join (wr := []) (w1 := [(zo1iri bo mdc9_3 aEl (nI sz_9_4)), (zaR aEl cEl 10 fEl9_5)]) hP hD [0, 1] [] rfl rfl (by decide) (by decide) hk1 hFc hP1 hD1
  have hK := (hK.sub (tys' := []) [] rfl).app hK1
  generalize H1 = H at hP hS ⊢
  have hP : va_P (dC, dI) vwCl [(zo1iri bo mdc9_3 aEl (nI sz_9_4)), (zaR aEl cEl 10 fEl9_5)] H := hP
  have hD : va_D A [(zo1iri bo mdc9_3 aEl (nI sz_9_4)), (zaR aEl cEl 10 fEl9_5)] := hD
  have hK : va_K (dC, dI) vwCl [(cEl, .object "java/lang/Object")] s := hK
  obtain ⟨e_6, hL_7⟩ := hw_2
  obtain rfl := (e_6).symm
  refine lv_aload_n hx hb dX3_doGoes_5 rfl (lv_at hl 0 rfl) ?_
  refine lv_iload_n hx hb dX3_doGoes_6 rfl (lv_at hl 1 rfl) ?_
  refine lv_aload_n hx hb dX3_doGoes_7 rfl (lv_at hl 2 rfl) ?_
  have hPc := hP.sub (ws' := [(zo1iri bo mdc9_3 aEl (nI (sz_ + 1))), (zaR aEl cEl 10 fEl9_5)]) [0, 1] rfl
  have hDc := hD.sub (ws' := [(zo1iri bo mdc9_3 aEl (nI (sz_ + 1))), (zaR aEl cEl 10 fEl9_5)]) [0, 1] (by decide) rfl
  have hKc := hK.sub (tys' := [(cEl, .object "java/lang/Object")]) [0] rfl
  have hFc := va_free (wc := [(zo1iri bo mdc9_3 aEl (nI (sz_ + 1))), (zaR aEl cEl 10 fEl9_5)]) hD hS hA [0, 1] rfl
  refine va_calli (va_runU (As := [.int x, .ref bo]) (rest := []) ⟨hx, hb, hml, hown, hts⟩ (c_X4_doSees_X4_1 l dC dI ad cB bS    bo aEl i0 sk sv scl x cEl fEl9_5 a0 (sz_ + 1) mdc9_3 (tl ++ [2]) H.size (by omega) (hL_7)) (va_cwO 2 hts gX3_doGoes_X4_doSees_u38X4 rfl rfl rfl kc_X3_doGoes_X4_1_0 (by decide +kernel) ⟨Nat.le_of_ble_eq_true rfl, Nat.le_of_ble_eq_true rfl⟩) ⟨fun a U g mk q => by obtain ⟨q0, q1, qP, qK, qD, qhI_, qhB_, qhW_, qhZ⟩ := q; exact ⟨q0, q1, qP, va_K.moved (u := U) (U := U.calling g mk a) (Vm.Alike.refl U.vm) qK, qD, qhI_.same rfl rfl, qhB_.same rfl rfl, qhW_.same rfl rfl, qhZ.same rfl rfl⟩, va_recv hZ.2.1 (hZ.P hS) (ci := 6) (q := (RX4, TX4, 4)) (q0 := 0) rfl rfl, fun U hU hW => ⟨rfl, by rw [hU], by rw [hU]; exact hPc, va_K.moved hW.alike hKc, hDc.weaken (fun _ _ _ _ => trivial), hI_.call hS hU hW (fun q h => hFc q h), hB_.call hS hU hW (fun q h => hFc q h), hW_.call hS hU hW (fun q h => hFc q h), (hZ.sub [0] [] rfl rfl).call hS hU hW (fun q h => hFc q h)⟩⟩ rfl rfl hl.1 rfl (lv_room (Nat.le_of_ble_eq_true rfl)) dX3_doGoes_8 ⟨Nat.le_of_ble_eq_true rfl, Nat.le_of_ble_eq_true rfl⟩) hS (fun q _ h => hFc q h) hFc (fun r_8 u tC H1 locs htC hvm hw_9 hB hz1 hk1 hS => ?_)
  obtain ⟨mdc9_10, sz_9_11, fEl9_12⟩ := u
  try dsimp only at hw_9 hB
  obtain ⟨hP1, hK1, hD1⟩ := hB
  rw [htC] at hP1
  have hK1 := va_K.moved hvm.symm hK1
  obtain ⟨hP, hD⟩ := va_join (wr := []) (w1 := [(zo1iri bo mdc9_10 aEl (nI sz_9_11)), (zaR aEl cEl 10 fEl9_12)]) hP hD [0, 1] [] rfl rfl (by decide) (by decide) hk1 hFc hP1 hD1
  have hK := (hK.sub (tys' := []) [] rfl).app hK1
  generalize H1 = H at hP hS ⊢
  have hP : va_P (dC, dI) vwCl [(zo1iri bo mdc9_10 aEl (nI sz_9_11)), (zaR aEl cEl 10 fEl9_12)] H := hP
  have hD : va_D A [(zo1iri bo mdc9_10 aEl (nI sz_9_11)), (zaR aEl cEl 10 fEl9_12)] := hD
  have hK : va_K (dC, dI) vwCl [(cEl, .object "java/lang/Object")] s := hK
  obtain ⟨er_13, e_14, hL_15⟩ := hw_9
  obtain rfl := (e_14).symm
  subst er_13
  refine lv_aload_n hx hb dX3_doGoes_11 rfl (lv_at hl 0 rfl) ?_
  refine va_get (D := (dC, dI)) (ci := 6) (v := .int sv) (C := RX4) (T := TX4) (N := 4) hx hb hts kc_X3_doGoes_X4_1_2 hown hZ.2.1 (hZ.P hS) 0 rfl rfl 2 (by decide) (hts (.fieldLink RX3 18 "MistHeaps$Heap" "v" "I") kc_X3_doGoes_X4_1_1) (fun _ h9 => h9) rfl dX3_doGoes_12 ?_
  refine lv_isub hx hb dX3_doGoes_15 ?_
  rw [hQ]
  have hP9 := hP.sub (ws' := [(zo1iri bo mdc9_10 aEl (nI ((sz_ + 1) + 2))), (zaR aEl cEl 10 fEl9_12)]) [0, 1] rfl
  have hD9 := hD.sub (ws' := [(zo1iri bo mdc9_10 aEl (nI ((sz_ + 1) + 2))), (zaR aEl cEl 10 fEl9_12)]) [0, 1] (by decide) rfl
  have hK9 := hK.sub (tys' := [(cEl, .object "java/lang/Object")]) [0] rfl
  exact W.iret (v := (x * 3 + nI i0) - sv) hx hb hr (fun tQ htQ hWQ => ⟨⟨((x * 3 + nI i0) - sv), (mdc9_10, ((sz_ + 1) + 2), fEl9_12), rfl, ⟨rfl, by omega, by have h9 := okL_as (hL_15); exact h9⟩, by rw [htQ]; exact hP9, va_K.moved hWQ.alike hK9, hD9⟩, hS.F htQ⟩) hS.2.2 dX3_doGoes_16

theorem kc_X3_doGoes_X4_0_0 : (.code yX3_doSees cX3_doSees 3 (some .int) : Cond) ∈ wsX3_doGoes := kc_of 1025 rfl rfl rfl
theorem kc_X3_doGoes_X4_0_1 : (.fieldLink RX3 18 "MistHeaps$Heap" "v" "I" : Cond) ∈ wsX3_doGoes := kc_of 236 rfl rfl rfl
theorem kc_X3_doGoes_X4_0_2 : ∀ w ∈ wsX40, w ∈ wsX3_doGoes := fun w h => List.mem_cons_of_mem _ (gin_wsX40 w h)
set_option maxHeartbeats 4000000 in
set_option maxRecDepth 100000 in
theorem c_X3_doGoes_X4_0 (l : Launch) (dC : Nat → ClassId) (dI : Nat → Nat → Nat) (ad : Nat → Nat) (cB bS : Nat)    (bo : Nat) (i0 : Nat) (sk : Int32) (sv : Int32) (scl : Int32) (x : Int32) (a0 : Nat) (mdc : Int32) (sz : Nat) : Met l yX3_doGoes wsX3_doGoes ({ frames := 6, cells := 1, slots := 10, locals := 122 } : Room) (va_Pc [.ref a0, .int x, .ref bo] (fun U => U.heap.size = sz ∧ va_P (dC, dI) vwCl [(zo1iri bo mdc bS 0)] U.heap ∧ va_K (dC, dI) vwCl [] U ∧ va_D (fun _ => True) [(zo1iri bo mdc bS 0)] ∧ Gi ad cB bS (va_A [(zo1iri bo mdc bS 0)] sz) U ∧ Gb (va_A [(zo1iri bo mdc bS 0)] sz) U ∧ Gw (va_A [(zo1iri bo mdc bS 0)] sz) U ∧ Fz dC dI [(zo6iiii a0 sk (nI i0) sv scl)] [] (va_A [(zo1iri bo mdc bS 0)] sz) U)) (va_Qi (fun (r : Int32) (u : (Int32) × (Nat) × (ClassId) × (Nat) × (Nat → Option Nat)) => match u with | (mdc9, aEl9, cEl9, sz_9, fEl9) => r = (x * 3 + nI i0) - sv ∧ sz_9 = 3 ∧ okL ad fEl9 sz_9 [2, 11, 1]) (fun (u : (Int32) × (Nat) × (ClassId) × (Nat) × (Nat → Option Nat)) (t : State) => match u with | (mdc9, aEl9, cEl9, sz_9, fEl9) => va_P (dC, dI) vwCl [(zo1iri bo mdc9 aEl9 (nI sz_9)), (zaR aEl9 cEl9 10 fEl9)] t.heap ∧ va_K (dC, dI) vwCl [(cEl9, .object "java/lang/Object")] t ∧ va_D (va_A [(zo1iri bo mdc bS 0)] sz) [(zo1iri bo mdc9 aEl9 (nI sz_9)), (zaR aEl9 cEl9 10 fEl9)]) (va_A [(zo1iri bo mdc bS 0)] sz)) 1 10 (va_A [(zo1iri bo mdc bS 0)] sz) := by
  refine met_ofQ (cc := cX3_doGoes) (maxL := 3) (ret := (some .int)) (by decide) rfl ?_
  intro p e s m args below meth c s₁ Q B hml hv hQ
  obtain ⟨rfl, hsz, hP, hK, hD0, hI_, hB_, hW_, hZ⟩ := hv
  have hx := B.exec
  have hb := B.bytes
  have hr := B.returns
  have hts := atoms_spec (ws := wsX3_doGoes) B.pre
  have hown : s.vm.findClass RX3 = some m.cls := findClass_of_methodNamed B.named
  have hlocks := B.notSynchronized
  subst hsz
  have hD := hD0.self (sz := s.heap.size)
  generalize hAe : va_A [(zo1iri bo mdc bS 0)] s.heap.size = A at hD hQ hI_ hB_ hW_ hZ ⊢
  have hA : ∀ q : Nat, s.heap.size ≤ q → A q := fun q h => by rw [← hAe]; exact Or.inr h
  have hS : va_S A s.heap s.heap [] := va_S.rf
  have hl := lv_entry [.ref a0, .int x, .ref bo] (n := 3) (Nat.le_of_ble_eq_true rfl)
  rw [lg_entry_eq]
  generalize (lg_sl [.ref a0, .int x, .ref bo] ++ List.replicate (3 - (lg_sl [.ref a0, .int x, .ref bo]).length) Slot.unset).toArray = ls at hl ⊢
  generalize hag : ([.ref a0, .int x, .ref bo] : List Value).toArray = args at hts hQ ⊢
  have hl : lv_has ls 3 [(0, .ref a0), (1, .int x), (2, .ref bo)] := hl
  obtain ⟨H, hH⟩ : ∃ H : Heap, H = s.heap := ⟨_, rfl⟩
  rw [← hH] at hP
  rw [← hH]
  have hS : va_S A s.heap H [] := by rw [hH]; exact hS
  obtain ⟨locs, hlo⟩ : ∃ L : List Loc, L = [] := ⟨_, rfl⟩
  rw [← hlo] at hS
  rw [← hlo]
  clear hH hlo
  refine lv_iconst (v := 2) hx hb dX3_doGoes_0 (by decide) ?_
  refine lv_aload_n hx hb dX3_doGoes_1 rfl (lv_at hl 2 rfl) ?_
  have hPc := hP.sub (ws' := [(zo1iri bo mdc bS 0)]) [0] rfl
  have hDc := hD.sub (ws' := [(zo1iri bo mdc bS 0)]) [0] (by decide) rfl
  have hKc := hK.sub (tys' := []) [] rfl
  have hFc := va_free (wc := [(zo1iri bo mdc bS 0)]) hD hS hA [0] rfl
  refine va_callv (va_runS (As := [.int 2, .ref bo]) (rest := []) ⟨hx, hb, hml, hown, hts⟩ (c_begin0 l dC dI ad cB bS bo mdc 2 H.size (by omega)) (va_cwS 2 hts gX3_doGoes_X3_begin rfl rfl rfl hd_yX3_begin.2 ⟨Nat.le_of_ble_eq_true rfl, Nat.le_of_ble_eq_true rfl⟩) ⟨fun a U g mk q => by obtain ⟨q0, q1, qP, qK, qD, qhI_⟩ := q; exact ⟨q0, q1, qP, va_K.moved (u := U) (U := U.calling g mk a) (Vm.Alike.refl U.vm) qK, qD, qhI_.same rfl rfl⟩, fun U hU hW => ⟨rfl, by rw [hU], by rw [hU]; exact hPc, va_K.moved hW.alike hKc, hDc.weaken (fun _ _ _ _ => trivial), hI_.call hS hU hW (fun q h => hFc q h)⟩⟩ rfl rfl hl.1 rfl (lv_room (Nat.le_of_ble_eq_true rfl)) dX3_doGoes_2 ⟨Nat.le_of_ble_eq_true rfl, Nat.le_of_ble_eq_true rfl⟩) hS (fun q _ h => hFc q h) hFc (fun u tC H1 locs htC hvm hw_2 hB hz1 hk1 hS => ?_)
  obtain ⟨mdc9_3, aEl9_4, cEl9_5, sz_9_6, fEl9_7⟩ := u
  try dsimp only at hw_2 hB
  obtain ⟨hP1, hK1, hD1⟩ := hB
  rw [htC] at hP1
  have hK1 := va_K.moved hvm.symm hK1
  obtain ⟨hP, hD⟩ := va_join (wr := []) (w1 := [(zo1iri bo mdc9_3 aEl9_4 (nI sz_9_6)), (zaR aEl9_4 cEl9_5 10 fEl9_7)]) hP hD [0] [] rfl rfl (by decide) (by decide) hk1 hFc hP1 hD1
  have hK := (hK.sub (tys' := []) [] rfl).app hK1
  generalize H1 = H at hP hS ⊢
  have hP : va_P (dC, dI) vwCl [(zo1iri bo mdc9_3 aEl9_4 (nI sz_9_6)), (zaR aEl9_4 cEl9_5 10 fEl9_7)] H := hP
  have hD : va_D A [(zo1iri bo mdc9_3 aEl9_4 (nI sz_9_6)), (zaR aEl9_4 cEl9_5 10 fEl9_7)] := hD
  have hK : va_K (dC, dI) vwCl [(cEl9_5, .object "java/lang/Object")] s := hK
  refine W.widen (k := 1) (n := 10) (by omega) (by omega) ?_
  obtain ⟨e_8, hL_9⟩ := hw_2
  obtain rfl := (e_8).symm
  refine lv_aload_n hx hb dX3_doGoes_5 rfl (lv_at hl 0 rfl) ?_
  refine lv_iload_n hx hb dX3_doGoes_6 rfl (lv_at hl 1 rfl) ?_
  refine lv_aload_n hx hb dX3_doGoes_7 rfl (lv_at hl 2 rfl) ?_
  have hPc := hP.sub (ws' := [(zo1iri bo mdc9_3 aEl9_4 (nI 1)), (zaR aEl9_4 cEl9_5 10 fEl9_7)]) [0, 1] rfl
  have hDc := hD.sub (ws' := [(zo1iri bo mdc9_3 aEl9_4 (nI 1)), (zaR aEl9_4 cEl9_5 10 fEl9_7)]) [0, 1] (by decide) rfl
  have hKc := hK.sub (tys' := [(cEl9_5, .object "java/lang/Object")]) [0] rfl
  have hFc := va_free (wc := [(zo1iri bo mdc9_3 aEl9_4 (nI 1)), (zaR aEl9_4 cEl9_5 10 fEl9_7)]) hD hS hA [0, 1] rfl
  refine va_calli (va_runU (As := [.int x, .ref bo]) (rest := []) ⟨hx, hb, hml, hown, hts⟩ (c_X4_doSees_X4_1 l dC dI ad cB bS    bo aEl9_4 i0 sk sv scl x cEl9_5 fEl9_7 a0 1 mdc9_3 ([2]) H.size (by omega) (hL_9)) (va_cwO 2 hts gX3_doGoes_X4_doSees_u38X4 rfl rfl rfl kc_X3_doGoes_X4_0_0 (by decide +kernel) ⟨Nat.le_of_ble_eq_true rfl, Nat.le_of_ble_eq_true rfl⟩) ⟨fun a U g mk q => by obtain ⟨q0, q1, qP, qK, qD, qhI_, qhB_, qhW_, qhZ⟩ := q; exact ⟨q0, q1, qP, va_K.moved (u := U) (U := U.calling g mk a) (Vm.Alike.refl U.vm) qK, qD, qhI_.same rfl rfl, qhB_.same rfl rfl, qhW_.same rfl rfl, qhZ.same rfl rfl⟩, va_recv hZ.2.1 (hZ.P hS) (ci := 6) (q := (RX4, TX4, 4)) (q0 := 0) rfl rfl, fun U hU hW => ⟨rfl, by rw [hU], by rw [hU]; exact hPc, va_K.moved hW.alike hKc, hDc.weaken (fun _ _ _ _ => trivial), hI_.call hS hU hW (fun q h => hFc q h), hB_.call hS hU hW (fun q h => hFc q h), hW_.call hS hU hW (fun q h => hFc q h), (hZ.sub [0] [] rfl rfl).call hS hU hW (fun q h => hFc q h)⟩⟩ rfl rfl hl.1 rfl (lv_room (Nat.le_of_ble_eq_true rfl)) dX3_doGoes_8 ⟨Nat.le_of_ble_eq_true rfl, Nat.le_of_ble_eq_true rfl⟩) hS (fun q _ h => hFc q h) hFc (fun r_10 u tC H1 locs htC hvm hw_11 hB hz1 hk1 hS => ?_)
  obtain ⟨mdc9_12, sz_9_13, fEl9_14⟩ := u
  try dsimp only at hw_11 hB
  obtain ⟨hP1, hK1, hD1⟩ := hB
  rw [htC] at hP1
  have hK1 := va_K.moved hvm.symm hK1
  obtain ⟨hP, hD⟩ := va_join (wr := []) (w1 := [(zo1iri bo mdc9_12 aEl9_4 (nI sz_9_13)), (zaR aEl9_4 cEl9_5 10 fEl9_14)]) hP hD [0, 1] [] rfl rfl (by decide) (by decide) hk1 hFc hP1 hD1
  have hK := (hK.sub (tys' := []) [] rfl).app hK1
  generalize H1 = H at hP hS ⊢
  have hP : va_P (dC, dI) vwCl [(zo1iri bo mdc9_12 aEl9_4 (nI sz_9_13)), (zaR aEl9_4 cEl9_5 10 fEl9_14)] H := hP
  have hD : va_D A [(zo1iri bo mdc9_12 aEl9_4 (nI sz_9_13)), (zaR aEl9_4 cEl9_5 10 fEl9_14)] := hD
  have hK : va_K (dC, dI) vwCl [(cEl9_5, .object "java/lang/Object")] s := hK
  obtain ⟨er_15, e_16, hL_17⟩ := hw_11
  obtain rfl := (e_16).symm
  subst er_15
  refine lv_aload_n hx hb dX3_doGoes_11 rfl (lv_at hl 0 rfl) ?_
  refine va_get (D := (dC, dI)) (ci := 6) (v := .int sv) (C := RX4) (T := TX4) (N := 4) hx hb hts kc_X3_doGoes_X4_0_2 hown hZ.2.1 (hZ.P hS) 0 rfl rfl 2 (by decide) (hts (.fieldLink RX3 18 "MistHeaps$Heap" "v" "I") kc_X3_doGoes_X4_0_1) (fun _ h9 => h9) rfl dX3_doGoes_12 ?_
  refine lv_isub hx hb dX3_doGoes_15 ?_
  rw [hQ]
  have hP9 := hP.sub (ws' := [(zo1iri bo mdc9_12 aEl9_4 (nI (1 + 2))), (zaR aEl9_4 cEl9_5 10 fEl9_14)]) [0, 1] rfl
  have hD9 := hD.sub (ws' := [(zo1iri bo mdc9_12 aEl9_4 (nI (1 + 2))), (zaR aEl9_4 cEl9_5 10 fEl9_14)]) [0, 1] (by decide) rfl
  have hK9 := hK.sub (tys' := [(cEl9_5, .object "java/lang/Object")]) [0] rfl
  refine W.widen (k := 1) (n := 10) (by omega) (by omega) ?_
  exact W.iret (v := (x * 3 + nI i0) - sv) hx hb hr (fun tQ htQ hWQ => ⟨⟨((x * 3 + nI i0) - sv), (mdc9_12, aEl9_4, cEl9_5, (1 + 2), fEl9_14), rfl, ⟨rfl, by omega, hL_17⟩, by rw [htQ]; exact hP9, va_K.moved hWQ.alike hK9, hD9⟩, hS.F htQ⟩) hS.2.2 dX3_doGoes_16

set_option maxHeartbeats 4000000 in
set_option maxRecDepth 100000 in
theorem c_X3_doLooks_X4_1 (l : Launch) (dC : Nat → ClassId) (dI : Nat → Nat → Nat) (ad : Nat → Nat) (cB bS : Nat)    (bo : Nat) (aEl : Nat) (i0 : Nat) (sk : Int32) (sv : Int32) (scl : Int32) (x : Int32) (cEl : ClassId) (fEl : Nat → Option Nat) (a0 : Nat) (sz_ : Nat) (mdc : Int32) (tl : List Nat) (sz : Nat) (hsz : sz_ + 4 ≤ 10) (zL : okL ad fEl sz_ tl) : Met l yX3_doLooks wsX3_doLooks ({ frames := 6, cells := 0, slots := 0, locals := 131 } : Room) (va_Pc [.ref a0, .int x, .ref bo] (fun U => U.heap.size = sz ∧ va_P (dC, dI) vwCl [(zo1iri bo mdc aEl (nI sz_)), (zaR aEl cEl 10 fEl)] U.heap ∧ va_K (dC, dI) vwCl [(cEl, .object "java/lang/Object")] U ∧ va_D (fun _ => True) [(zo1iri bo mdc aEl (nI sz_)), (zaR aEl cEl 10 fEl)] ∧ Gi ad cB bS (va_A [(zo1iri bo mdc aEl (nI sz_)), (zaR aEl cEl 10 fEl)] sz) U ∧ Gb (va_A [(zo1iri bo mdc aEl (nI sz_)), (zaR aEl cEl 10 fEl)] sz) U ∧ Gw (va_A [(zo1iri bo mdc aEl (nI sz_)), (zaR aEl cEl 10 fEl)] sz) U ∧ Fz dC dI [(zo6iiii a0 sk (nI i0) sv scl)] [] (va_A [(zo1iri bo mdc aEl (nI sz_)), (zaR aEl cEl 10 fEl)] sz) U)) (va_Qi (fun (r : Int32) (u : (Int32) × (Nat) × (Nat → Option Nat)) => match u with | (mdc9, sz_9, fEl9) => r = ((x * 3 + nI i0) - sv) * 2 ∧ sz_9 = sz_ + 4 ∧ okL ad fEl9 sz_9 (tl ++ [3, 2, 11, 1])) (fun (u : (Int32) × (Nat) × (Nat → Option Nat)) (t : State) => match u with | (mdc9, sz_9, fEl9) => va_P (dC, dI) vwCl [(zo1iri bo mdc9 aEl (nI sz_9)), (zaR aEl cEl 10 fEl9)] t.heap ∧ va_K (dC, dI) vwCl [(cEl, .object "java/lang/Object")] t ∧ va_D (va_A [(zo1iri bo mdc aEl (nI sz_)), (zaR aEl cEl 10 fEl)] sz) [(zo1iri bo mdc9 aEl (nI sz_9)), (zaR aEl cEl 10 fEl9)]) (va_A [(zo1iri bo mdc aEl (nI sz_)), (zaR aEl cEl 10 fEl)] sz)) 0 0 (va_A [(zo1iri bo mdc aEl (nI sz_)), (zaR aEl cEl 10 fEl)] sz) := by
  refine met_ofQ (cc := cX3_doLooks) (maxL := 3) (ret := (some .int)) (by decide) rfl ?_
  intro p e s m args below meth c s₁ Q B hml hv hQ
  obtain ⟨rfl, hsz, hP, hK, hD0, hI_, hB_, hW_, hZ⟩ := hv
  have hx := B.exec
  have hb := B.bytes
  have hr := B.returns
  have hts := atoms_spec (ws := wsX3_doLooks) B.pre
  have hown : s.vm.findClass RX3 = some m.cls := findClass_of_methodNamed B.named
  have hlocks := B.notSynchronized
  subst hsz
  have hD := hD0.self (sz := s.heap.size)
  generalize hAe : va_A [(zo1iri bo mdc aEl (nI sz_)), (zaR aEl cEl 10 fEl)] s.heap.size = A at hD hQ hI_ hB_ hW_ hZ ⊢
  have hA : ∀ q : Nat, s.heap.size ≤ q → A q := fun q h => by rw [← hAe]; exact Or.inr h
  have hS : va_S A s.heap s.heap [] := va_S.rf
  have hl := lv_entry [.ref a0, .int x, .ref bo] (n := 3) (Nat.le_of_ble_eq_true rfl)
  rw [lg_entry_eq]
  generalize (lg_sl [.ref a0, .int x, .ref bo] ++ List.replicate (3 - (lg_sl [.ref a0, .int x, .ref bo]).length) Slot.unset).toArray = ls at hl ⊢
  generalize hag : ([.ref a0, .int x, .ref bo] : List Value).toArray = args at hts hQ ⊢
  have hl : lv_has ls 3 [(0, .ref a0), (1, .int x), (2, .ref bo)] := hl
  obtain ⟨H, hH⟩ : ∃ H : Heap, H = s.heap := ⟨_, rfl⟩
  rw [← hH] at hP
  rw [← hH]
  have hS : va_S A s.heap H [] := by rw [hH]; exact hS
  obtain ⟨locs, hlo⟩ : ∃ L : List Loc, L = [] := ⟨_, rfl⟩
  rw [← hlo] at hS
  rw [← hlo]
  clear hH hlo
  refine lv_iconst (v := 3) hx hb dX3_doLooks_0 (by decide) ?_
  refine lv_aload_n hx hb dX3_doLooks_1 rfl (lv_at hl 2 rfl) ?_
  have hPc := hP.sub (ws' := [(zo1iri bo mdc aEl (nI sz_)), (zaR aEl cEl 10 fEl)]) [0, 1] rfl
  have hDc := hD.sub (ws' := [(zo1iri bo mdc aEl (nI sz_)), (zaR aEl cEl 10 fEl)]) [0, 1] (by decide) rfl
  have hKc := hK.sub (tys' := [(cEl, .object "java/lang/Object")]) [0] rfl
  have hFc := va_free (wc := [(zo1iri bo mdc aEl (nI sz_)), (zaR aEl cEl 10 fEl)]) hD hS hA [0, 1] rfl
  refine va_callv (va_runS (As := [.int 3, .ref bo]) (rest := []) ⟨hx, hb, hml, hown, hts⟩ (c_begin1 l dC dI ad cB bS bo aEl 3 cEl fEl sz_ mdc tl H.size (by omega) (by omega) (zL)) (va_cwS 2 hts gX3_doLooks_X3_begin rfl rfl rfl hd_yX3_begin.2 ⟨Nat.le_of_ble_eq_true rfl, Nat.le_of_ble_eq_true rfl⟩) ⟨fun a U g mk q => by obtain ⟨q0, q1, qP, qK, qD, qhI_⟩ := q; exact ⟨q0, q1, qP, va_K.moved (u := U) (U := U.calling g mk a) (Vm.Alike.refl U.vm) qK, qD, qhI_.same rfl rfl⟩, fun U hU hW => ⟨rfl, by rw [hU], by rw [hU]; exact hPc, va_K.moved hW.alike hKc, hDc.weaken (fun _ _ _ _ => trivial), hI_.call hS hU hW (fun q h => hFc q h)⟩⟩ rfl rfl hl.1 rfl (lv_room (Nat.le_of_ble_eq_true rfl)) dX3_doLooks_2 ⟨Nat.le_of_ble_eq_true rfl, Nat.le_of_ble_eq_true rfl⟩) hS (fun q _ h => hFc q h) hFc (fun u tC H1 locs htC hvm hw_2 hB hz1 hk1 hS => ?_)
  obtain ⟨mdc9_3, sz_9_4, fEl9_5⟩ := u
  try dsimp only at hw_2 hB
  obtain ⟨hP1, hK1, hD1⟩ := hB
  rw [htC] at hP1
  have hK1 := va_K.moved hvm.symm hK1
  obtain ⟨hP, hD⟩ := va_join (wr := []) (w1 := [(zo1iri bo mdc9_3 aEl (nI sz_9_4)), (zaR aEl cEl 10 fEl9_5)]) hP hD [0, 1] [] rfl rfl (by decide) (by decide) hk1 hFc hP1 hD1
  have hK := (hK.sub (tys' := []) [] rfl).app hK1
  generalize H1 = H at hP hS ⊢
  have hP : va_P (dC, dI) vwCl [(zo1iri bo mdc9_3 aEl (nI sz_9_4)), (zaR aEl cEl 10 fEl9_5)] H := hP
  have hD : va_D A [(zo1iri bo mdc9_3 aEl (nI sz_9_4)), (zaR aEl cEl 10 fEl9_5)] := hD
  have hK : va_K (dC, dI) vwCl [(cEl, .object "java/lang/Object")] s := hK
  obtain ⟨e_6, hL_7⟩ := hw_2
  obtain rfl := (e_6).symm
  refine lv_aload_n hx hb dX3_doLooks_5 rfl (lv_at hl 0 rfl) ?_
  refine lv_iload_n hx hb dX3_doLooks_6 rfl (lv_at hl 1 rfl) ?_
  refine lv_aload_n hx hb dX3_doLooks_7 rfl (lv_at hl 2 rfl) ?_
  have hPc := hP.sub (ws' := [(zo1iri bo mdc9_3 aEl (nI (sz_ + 1))), (zaR aEl cEl 10 fEl9_5)]) [0, 1] rfl
  have hDc := hD.sub (ws' := [(zo1iri bo mdc9_3 aEl (nI (sz_ + 1))), (zaR aEl cEl 10 fEl9_5)]) [0, 1] (by decide) rfl
  have hKc := hK.sub (tys' := [(cEl, .object "java/lang/Object")]) [0] rfl
  have hFc := va_free (wc := [(zo1iri bo mdc9_3 aEl (nI (sz_ + 1))), (zaR aEl cEl 10 fEl9_5)]) hD hS hA [0, 1] rfl
  refine va_calli (va_runU (As := [.int x, .ref bo]) (rest := []) ⟨hx, hb, hml, hown, hts⟩ (c_X3_doGoes_X4_1 l dC dI ad cB bS    bo aEl i0 sk sv scl x cEl fEl9_5 a0 (sz_ + 1) mdc9_3 (tl ++ [3]) H.size (by omega) (hL_7)) (va_cwU 2 hts gX3_doLooks_X3_doGoes_u42X4 rfl rfl rfl rfl (by decide +kernel) ⟨Nat.le_of_ble_eq_true rfl, Nat.le_of_ble_eq_true rfl⟩) ⟨fun a U g mk q => by obtain ⟨q0, q1, qP, qK, qD, qhI_, qhB_, qhW_, qhZ⟩ := q; exact ⟨q0, q1, qP, va_K.moved (u := U) (U := U.calling g mk a) (Vm.Alike.refl U.vm) qK, qD, qhI_.same rfl rfl, qhB_.same rfl rfl, qhW_.same rfl rfl, qhZ.same rfl rfl⟩, va_recv hZ.2.1 (hZ.P hS) (ci := 6) (q := (RX4, TX4, 4)) (q0 := 0) rfl rfl, fun U hU hW => ⟨rfl, by rw [hU], by rw [hU]; exact hPc, va_K.moved hW.alike hKc, hDc.weaken (fun _ _ _ _ => trivial), hI_.call hS hU hW (fun q h => hFc q h), hB_.call hS hU hW (fun q h => hFc q h), hW_.call hS hU hW (fun q h => hFc q h), (hZ.sub [0] [] rfl rfl).call hS hU hW (fun q h => hFc q h)⟩⟩ rfl rfl hl.1 rfl (lv_room (Nat.le_of_ble_eq_true rfl)) dX3_doLooks_8 ⟨Nat.le_of_ble_eq_true rfl, Nat.le_of_ble_eq_true rfl⟩) hS (fun q _ h => hFc q h) hFc (fun r_8 u tC H1 locs htC hvm hw_9 hB hz1 hk1 hS => ?_)
  obtain ⟨mdc9_10, sz_9_11, fEl9_12⟩ := u
  try dsimp only at hw_9 hB
  obtain ⟨hP1, hK1, hD1⟩ := hB
  rw [htC] at hP1
  have hK1 := va_K.moved hvm.symm hK1
  obtain ⟨hP, hD⟩ := va_join (wr := []) (w1 := [(zo1iri bo mdc9_10 aEl (nI sz_9_11)), (zaR aEl cEl 10 fEl9_12)]) hP hD [0, 1] [] rfl rfl (by decide) (by decide) hk1 hFc hP1 hD1
  have hK := (hK.sub (tys' := []) [] rfl).app hK1
  generalize H1 = H at hP hS ⊢
  have hP : va_P (dC, dI) vwCl [(zo1iri bo mdc9_10 aEl (nI sz_9_11)), (zaR aEl cEl 10 fEl9_12)] H := hP
  have hD : va_D A [(zo1iri bo mdc9_10 aEl (nI sz_9_11)), (zaR aEl cEl 10 fEl9_12)] := hD
  have hK : va_K (dC, dI) vwCl [(cEl, .object "java/lang/Object")] s := hK
  obtain ⟨er_13, e_14, hL_15⟩ := hw_9
  obtain rfl := (e_14).symm
  subst er_13
  refine lv_iconst (v := 2) hx hb dX3_doLooks_11 (by decide) ?_
  refine lv_imul hx hb dX3_doLooks_12 ?_
  rw [hQ]
  have hP9 := hP.sub (ws' := [(zo1iri bo mdc9_10 aEl (nI ((sz_ + 1) + 3))), (zaR aEl cEl 10 fEl9_12)]) [0, 1] rfl
  have hD9 := hD.sub (ws' := [(zo1iri bo mdc9_10 aEl (nI ((sz_ + 1) + 3))), (zaR aEl cEl 10 fEl9_12)]) [0, 1] (by decide) rfl
  have hK9 := hK.sub (tys' := [(cEl, .object "java/lang/Object")]) [0] rfl
  exact W.iret (v := ((x * 3 + nI i0) - sv) * 2) hx hb hr (fun tQ htQ hWQ => ⟨⟨(((x * 3 + nI i0) - sv) * 2), (mdc9_10, ((sz_ + 1) + 3), fEl9_12), rfl, ⟨rfl, by omega, by have h9 := okL_as (hL_15); exact h9⟩, by rw [htQ]; exact hP9, va_K.moved hWQ.alike hK9, hD9⟩, hS.F htQ⟩) hS.2.2 dX3_doLooks_13

set_option maxHeartbeats 4000000 in
set_option maxRecDepth 100000 in
theorem c_X3_doLooks_X4_0 (l : Launch) (dC : Nat → ClassId) (dI : Nat → Nat → Nat) (ad : Nat → Nat) (cB bS : Nat)    (bo : Nat) (i0 : Nat) (sk : Int32) (sv : Int32) (scl : Int32) (x : Int32) (a0 : Nat) (mdc : Int32) (sz : Nat) : Met l yX3_doLooks wsX3_doLooks ({ frames := 6, cells := 1, slots := 10, locals := 131 } : Room) (va_Pc [.ref a0, .int x, .ref bo] (fun U => U.heap.size = sz ∧ va_P (dC, dI) vwCl [(zo1iri bo mdc bS 0)] U.heap ∧ va_K (dC, dI) vwCl [] U ∧ va_D (fun _ => True) [(zo1iri bo mdc bS 0)] ∧ Gi ad cB bS (va_A [(zo1iri bo mdc bS 0)] sz) U ∧ Gb (va_A [(zo1iri bo mdc bS 0)] sz) U ∧ Gw (va_A [(zo1iri bo mdc bS 0)] sz) U ∧ Fz dC dI [(zo6iiii a0 sk (nI i0) sv scl)] [] (va_A [(zo1iri bo mdc bS 0)] sz) U)) (va_Qi (fun (r : Int32) (u : (Int32) × (Nat) × (ClassId) × (Nat) × (Nat → Option Nat)) => match u with | (mdc9, aEl9, cEl9, sz_9, fEl9) => r = ((x * 3 + nI i0) - sv) * 2 ∧ sz_9 = 4 ∧ okL ad fEl9 sz_9 [3, 2, 11, 1]) (fun (u : (Int32) × (Nat) × (ClassId) × (Nat) × (Nat → Option Nat)) (t : State) => match u with | (mdc9, aEl9, cEl9, sz_9, fEl9) => va_P (dC, dI) vwCl [(zo1iri bo mdc9 aEl9 (nI sz_9)), (zaR aEl9 cEl9 10 fEl9)] t.heap ∧ va_K (dC, dI) vwCl [(cEl9, .object "java/lang/Object")] t ∧ va_D (va_A [(zo1iri bo mdc bS 0)] sz) [(zo1iri bo mdc9 aEl9 (nI sz_9)), (zaR aEl9 cEl9 10 fEl9)]) (va_A [(zo1iri bo mdc bS 0)] sz)) 1 10 (va_A [(zo1iri bo mdc bS 0)] sz) := by
  refine met_ofQ (cc := cX3_doLooks) (maxL := 3) (ret := (some .int)) (by decide) rfl ?_
  intro p e s m args below meth c s₁ Q B hml hv hQ
  obtain ⟨rfl, hsz, hP, hK, hD0, hI_, hB_, hW_, hZ⟩ := hv
  have hx := B.exec
  have hb := B.bytes
  have hr := B.returns
  have hts := atoms_spec (ws := wsX3_doLooks) B.pre
  have hown : s.vm.findClass RX3 = some m.cls := findClass_of_methodNamed B.named
  have hlocks := B.notSynchronized
  subst hsz
  have hD := hD0.self (sz := s.heap.size)
  generalize hAe : va_A [(zo1iri bo mdc bS 0)] s.heap.size = A at hD hQ hI_ hB_ hW_ hZ ⊢
  have hA : ∀ q : Nat, s.heap.size ≤ q → A q := fun q h => by rw [← hAe]; exact Or.inr h
  have hS : va_S A s.heap s.heap [] := va_S.rf
  have hl := lv_entry [.ref a0, .int x, .ref bo] (n := 3) (Nat.le_of_ble_eq_true rfl)
  rw [lg_entry_eq]
  generalize (lg_sl [.ref a0, .int x, .ref bo] ++ List.replicate (3 - (lg_sl [.ref a0, .int x, .ref bo]).length) Slot.unset).toArray = ls at hl ⊢
  generalize hag : ([.ref a0, .int x, .ref bo] : List Value).toArray = args at hts hQ ⊢
  have hl : lv_has ls 3 [(0, .ref a0), (1, .int x), (2, .ref bo)] := hl
  obtain ⟨H, hH⟩ : ∃ H : Heap, H = s.heap := ⟨_, rfl⟩
  rw [← hH] at hP
  rw [← hH]
  have hS : va_S A s.heap H [] := by rw [hH]; exact hS
  obtain ⟨locs, hlo⟩ : ∃ L : List Loc, L = [] := ⟨_, rfl⟩
  rw [← hlo] at hS
  rw [← hlo]
  clear hH hlo
  refine lv_iconst (v := 3) hx hb dX3_doLooks_0 (by decide) ?_
  refine lv_aload_n hx hb dX3_doLooks_1 rfl (lv_at hl 2 rfl) ?_
  have hPc := hP.sub (ws' := [(zo1iri bo mdc bS 0)]) [0] rfl
  have hDc := hD.sub (ws' := [(zo1iri bo mdc bS 0)]) [0] (by decide) rfl
  have hKc := hK.sub (tys' := []) [] rfl
  have hFc := va_free (wc := [(zo1iri bo mdc bS 0)]) hD hS hA [0] rfl
  refine va_callv (va_runS (As := [.int 3, .ref bo]) (rest := []) ⟨hx, hb, hml, hown, hts⟩ (c_begin0 l dC dI ad cB bS bo mdc 3 H.size (by omega)) (va_cwS 2 hts gX3_doLooks_X3_begin rfl rfl rfl hd_yX3_begin.2 ⟨Nat.le_of_ble_eq_true rfl, Nat.le_of_ble_eq_true rfl⟩) ⟨fun a U g mk q => by obtain ⟨q0, q1, qP, qK, qD, qhI_⟩ := q; exact ⟨q0, q1, qP, va_K.moved (u := U) (U := U.calling g mk a) (Vm.Alike.refl U.vm) qK, qD, qhI_.same rfl rfl⟩, fun U hU hW => ⟨rfl, by rw [hU], by rw [hU]; exact hPc, va_K.moved hW.alike hKc, hDc.weaken (fun _ _ _ _ => trivial), hI_.call hS hU hW (fun q h => hFc q h)⟩⟩ rfl rfl hl.1 rfl (lv_room (Nat.le_of_ble_eq_true rfl)) dX3_doLooks_2 ⟨Nat.le_of_ble_eq_true rfl, Nat.le_of_ble_eq_true rfl⟩) hS (fun q _ h => hFc q h) hFc (fun u tC H1 locs htC hvm hw_2 hB hz1 hk1 hS => ?_)
  obtain ⟨mdc9_3, aEl9_4, cEl9_5, sz_9_6, fEl9_7⟩ := u
  try dsimp only at hw_2 hB
  obtain ⟨hP1, hK1, hD1⟩ := hB
  rw [htC] at hP1
  have hK1 := va_K.moved hvm.symm hK1
  obtain ⟨hP, hD⟩ := va_join (wr := []) (w1 := [(zo1iri bo mdc9_3 aEl9_4 (nI sz_9_6)), (zaR aEl9_4 cEl9_5 10 fEl9_7)]) hP hD [0] [] rfl rfl (by decide) (by decide) hk1 hFc hP1 hD1
  have hK := (hK.sub (tys' := []) [] rfl).app hK1
  generalize H1 = H at hP hS ⊢
  have hP : va_P (dC, dI) vwCl [(zo1iri bo mdc9_3 aEl9_4 (nI sz_9_6)), (zaR aEl9_4 cEl9_5 10 fEl9_7)] H := hP
  have hD : va_D A [(zo1iri bo mdc9_3 aEl9_4 (nI sz_9_6)), (zaR aEl9_4 cEl9_5 10 fEl9_7)] := hD
  have hK : va_K (dC, dI) vwCl [(cEl9_5, .object "java/lang/Object")] s := hK
  refine W.widen (k := 1) (n := 10) (by omega) (by omega) ?_
  obtain ⟨e_8, hL_9⟩ := hw_2
  obtain rfl := (e_8).symm
  refine lv_aload_n hx hb dX3_doLooks_5 rfl (lv_at hl 0 rfl) ?_
  refine lv_iload_n hx hb dX3_doLooks_6 rfl (lv_at hl 1 rfl) ?_
  refine lv_aload_n hx hb dX3_doLooks_7 rfl (lv_at hl 2 rfl) ?_
  have hPc := hP.sub (ws' := [(zo1iri bo mdc9_3 aEl9_4 (nI 1)), (zaR aEl9_4 cEl9_5 10 fEl9_7)]) [0, 1] rfl
  have hDc := hD.sub (ws' := [(zo1iri bo mdc9_3 aEl9_4 (nI 1)), (zaR aEl9_4 cEl9_5 10 fEl9_7)]) [0, 1] (by decide) rfl
  have hKc := hK.sub (tys' := [(cEl9_5, .object "java/lang/Object")]) [0] rfl
  have hFc := va_free (wc := [(zo1iri bo mdc9_3 aEl9_4 (nI 1)), (zaR aEl9_4 cEl9_5 10 fEl9_7)]) hD hS hA [0, 1] rfl
  refine va_calli (va_runU (As := [.int x, .ref bo]) (rest := []) ⟨hx, hb, hml, hown, hts⟩ (c_X3_doGoes_X4_1 l dC dI ad cB bS    bo aEl9_4 i0 sk sv scl x cEl9_5 fEl9_7 a0 1 mdc9_3 ([3]) H.size (by omega) (hL_9)) (va_cwU 2 hts gX3_doLooks_X3_doGoes_u42X4 rfl rfl rfl rfl (by decide +kernel) ⟨Nat.le_of_ble_eq_true rfl, Nat.le_of_ble_eq_true rfl⟩) ⟨fun a U g mk q => by obtain ⟨q0, q1, qP, qK, qD, qhI_, qhB_, qhW_, qhZ⟩ := q; exact ⟨q0, q1, qP, va_K.moved (u := U) (U := U.calling g mk a) (Vm.Alike.refl U.vm) qK, qD, qhI_.same rfl rfl, qhB_.same rfl rfl, qhW_.same rfl rfl, qhZ.same rfl rfl⟩, va_recv hZ.2.1 (hZ.P hS) (ci := 6) (q := (RX4, TX4, 4)) (q0 := 0) rfl rfl, fun U hU hW => ⟨rfl, by rw [hU], by rw [hU]; exact hPc, va_K.moved hW.alike hKc, hDc.weaken (fun _ _ _ _ => trivial), hI_.call hS hU hW (fun q h => hFc q h), hB_.call hS hU hW (fun q h => hFc q h), hW_.call hS hU hW (fun q h => hFc q h), (hZ.sub [0] [] rfl rfl).call hS hU hW (fun q h => hFc q h)⟩⟩ rfl rfl hl.1 rfl (lv_room (Nat.le_of_ble_eq_true rfl)) dX3_doLooks_8 ⟨Nat.le_of_ble_eq_true rfl, Nat.le_of_ble_eq_true rfl⟩) hS (fun q _ h => hFc q h) hFc (fun r_10 u tC H1 locs htC hvm hw_11 hB hz1 hk1 hS => ?_)
  obtain ⟨mdc9_12, sz_9_13, fEl9_14⟩ := u
  try dsimp only at hw_11 hB
  obtain ⟨hP1, hK1, hD1⟩ := hB
  rw [htC] at hP1
  have hK1 := va_K.moved hvm.symm hK1
  obtain ⟨hP, hD⟩ := va_join (wr := []) (w1 := [(zo1iri bo mdc9_12 aEl9_4 (nI sz_9_13)), (zaR aEl9_4 cEl9_5 10 fEl9_14)]) hP hD [0, 1] [] rfl rfl (by decide) (by decide) hk1 hFc hP1 hD1
  have hK := (hK.sub (tys' := []) [] rfl).app hK1
  generalize H1 = H at hP hS ⊢
  have hP : va_P (dC, dI) vwCl [(zo1iri bo mdc9_12 aEl9_4 (nI sz_9_13)), (zaR aEl9_4 cEl9_5 10 fEl9_14)] H := hP
  have hD : va_D A [(zo1iri bo mdc9_12 aEl9_4 (nI sz_9_13)), (zaR aEl9_4 cEl9_5 10 fEl9_14)] := hD
  have hK : va_K (dC, dI) vwCl [(cEl9_5, .object "java/lang/Object")] s := hK
  obtain ⟨er_15, e_16, hL_17⟩ := hw_11
  obtain rfl := (e_16).symm
  subst er_15
  refine lv_iconst (v := 2) hx hb dX3_doLooks_11 (by decide) ?_
  refine lv_imul hx hb dX3_doLooks_12 ?_
  rw [hQ]
  have hP9 := hP.sub (ws' := [(zo1iri bo mdc9_12 aEl9_4 (nI (1 + 3))), (zaR aEl9_4 cEl9_5 10 fEl9_14)]) [0, 1] rfl
  have hD9 := hD.sub (ws' := [(zo1iri bo mdc9_12 aEl9_4 (nI (1 + 3))), (zaR aEl9_4 cEl9_5 10 fEl9_14)]) [0, 1] (by decide) rfl
  have hK9 := hK.sub (tys' := [(cEl9_5, .object "java/lang/Object")]) [0] rfl
  refine W.widen (k := 1) (n := 10) (by omega) (by omega) ?_
  exact W.iret (v := ((x * 3 + nI i0) - sv) * 2) hx hb hr (fun tQ htQ hWQ => ⟨⟨(((x * 3 + nI i0) - sv) * 2), (mdc9_12, aEl9_4, cEl9_5, (1 + 3), fEl9_14), rfl, ⟨rfl, by omega, hL_17⟩, by rw [htQ]; exact hP9, va_K.moved hWQ.alike hK9, hD9⟩, hS.F htQ⟩) hS.2.2 dX3_doLooks_13

theorem kc_X3_doSees_X6_1_0 : (.fieldLink RX3 15 "MistHeaps$Heap" "number" "I" : Cond) ∈ wsX3_doSees := kc_of 231 rfl rfl rfl
theorem kc_X3_doSees_X6_1_1 : ∀ w ∈ wsX60, w ∈ wsX3_doSees := fun w h => List.mem_cons_of_mem _ (gin_wsX60 w h)
set_option maxHeartbeats 4000000 in
set_option maxRecDepth 100000 in
theorem c_X3_doSees_X6_1 (l : Launch) (dC : Nat → ClassId) (dI : Nat → Nat → Nat) (ad : Nat → Nat) (cB bS : Nat)    (bo : Nat) (aEl : Nat) (i0 : Nat) (sk : Int32) (sv : Int32) (scl : Int32) (x : Int32) (cEl : ClassId) (fEl : Nat → Option Nat) (a0 : Nat) (sz_ : Nat) (mdc : Int32) (tl : List Nat) (sz : Nat) (hsz : sz_ + 1 ≤ 10) (zL : okL ad fEl sz_ tl) : Met l yX3_doSees wsX3_doSees ({ frames := 3, cells := 0, slots := 0, locals := 65 } : Room) (va_Pc [.ref a0, .int x, .ref bo] (fun U => U.heap.size = sz ∧ va_P (dC, dI) vwCl [(zo1iri bo mdc aEl (nI sz_)), (zaR aEl cEl 10 fEl)] U.heap ∧ va_K (dC, dI) vwCl [(cEl, .object "java/lang/Object")] U ∧ va_D (fun _ => True) [(zo1iri bo mdc aEl (nI sz_)), (zaR aEl cEl 10 fEl)] ∧ Gi ad cB bS (va_A [(zo1iri bo mdc aEl (nI sz_)), (zaR aEl cEl 10 fEl)] sz) U ∧ Gb (va_A [(zo1iri bo mdc aEl (nI sz_)), (zaR aEl cEl 10 fEl)] sz) U ∧ Gw (va_A [(zo1iri bo mdc aEl (nI sz_)), (zaR aEl cEl 10 fEl)] sz) U ∧ Fz dC dI [(zo8iiii a0 sk (nI i0) sv scl)] [] (va_A [(zo1iri bo mdc aEl (nI sz_)), (zaR aEl cEl 10 fEl)] sz) U)) (va_Qi (fun (r : Int32) (u : (Int32) × (Nat) × (Nat → Option Nat)) => match u with | (mdc9, sz_9, fEl9) => r = x + nI i0 ∧ sz_9 = sz_ + 1 ∧ okL ad fEl9 sz_9 (tl ++ [1])) (fun (u : (Int32) × (Nat) × (Nat → Option Nat)) (t : State) => match u with | (mdc9, sz_9, fEl9) => va_P (dC, dI) vwCl [(zo1iri bo mdc9 aEl (nI sz_9)), (zaR aEl cEl 10 fEl9)] t.heap ∧ va_K (dC, dI) vwCl [(cEl, .object "java/lang/Object")] t ∧ va_D (va_A [(zo1iri bo mdc aEl (nI sz_)), (zaR aEl cEl 10 fEl)] sz) [(zo1iri bo mdc9 aEl (nI sz_9)), (zaR aEl cEl 10 fEl9)]) (va_A [(zo1iri bo mdc aEl (nI sz_)), (zaR aEl cEl 10 fEl)] sz)) 0 0 (va_A [(zo1iri bo mdc aEl (nI sz_)), (zaR aEl cEl 10 fEl)] sz) := by
  refine met_ofQ (cc := cX3_doSees) (maxL := 3) (ret := (some .int)) (by decide) rfl ?_
  intro p e s m args below meth c s₁ Q B hml hv hQ
  obtain ⟨rfl, hsz, hP, hK, hD0, hI_, hB_, hW_, hZ⟩ := hv
  have hx := B.exec
  have hb := B.bytes
  have hr := B.returns
  have hts := atoms_spec (ws := wsX3_doSees) B.pre
  have hown : s.vm.findClass RX3 = some m.cls := findClass_of_methodNamed B.named
  have hlocks := B.notSynchronized
  subst hsz
  have hD := hD0.self (sz := s.heap.size)
  generalize hAe : va_A [(zo1iri bo mdc aEl (nI sz_)), (zaR aEl cEl 10 fEl)] s.heap.size = A at hD hQ hI_ hB_ hW_ hZ ⊢
  have hA : ∀ q : Nat, s.heap.size ≤ q → A q := fun q h => by rw [← hAe]; exact Or.inr h
  have hS : va_S A s.heap s.heap [] := va_S.rf
  have hl := lv_entry [.ref a0, .int x, .ref bo] (n := 3) (Nat.le_of_ble_eq_true rfl)
  rw [lg_entry_eq]
  generalize (lg_sl [.ref a0, .int x, .ref bo] ++ List.replicate (3 - (lg_sl [.ref a0, .int x, .ref bo]).length) Slot.unset).toArray = ls at hl ⊢
  generalize hag : ([.ref a0, .int x, .ref bo] : List Value).toArray = args at hts hQ ⊢
  have hl : lv_has ls 3 [(0, .ref a0), (1, .int x), (2, .ref bo)] := hl
  obtain ⟨H, hH⟩ : ∃ H : Heap, H = s.heap := ⟨_, rfl⟩
  rw [← hH] at hP
  rw [← hH]
  have hS : va_S A s.heap H [] := by rw [hH]; exact hS
  obtain ⟨locs, hlo⟩ : ∃ L : List Loc, L = [] := ⟨_, rfl⟩
  rw [← hlo] at hS
  rw [← hlo]
  clear hH hlo
  refine lv_iconst (v := 1) hx hb dX3_doSees_0 (by decide) ?_
  refine lv_aload_n hx hb dX3_doSees_1 rfl (lv_at hl 2 rfl) ?_
  have hPc := hP.sub (ws' := [(zo1iri bo mdc aEl (nI sz_)), (zaR aEl cEl 10 fEl)]) [0, 1] rfl
  have hDc := hD.sub (ws' := [(zo1iri bo mdc aEl (nI sz_)), (zaR aEl cEl 10 fEl)]) [0, 1] (by decide) rfl
  have hKc := hK.sub (tys' := [(cEl, .object "java/lang/Object")]) [0] rfl
  have hFc := va_free (wc := [(zo1iri bo mdc aEl (nI sz_)), (zaR aEl cEl 10 fEl)]) hD hS hA [0, 1] rfl
  refine va_callv (va_runS (As := [.int 1, .ref bo]) (rest := []) ⟨hx, hb, hml, hown, hts⟩ (c_begin1 l dC dI ad cB bS bo aEl 1 cEl fEl sz_ mdc tl H.size (by omega) (by omega) (zL)) (va_cwS 2 hts gX3_doSees_X3_begin rfl rfl rfl hd_yX3_begin.2 ⟨Nat.le_of_ble_eq_true rfl, Nat.le_of_ble_eq_true rfl⟩) ⟨fun a U g mk q => by obtain ⟨q0, q1, qP, qK, qD, qhI_⟩ := q; exact ⟨q0, q1, qP, va_K.moved (u := U) (U := U.calling g mk a) (Vm.Alike.refl U.vm) qK, qD, qhI_.same rfl rfl⟩, fun U hU hW => ⟨rfl, by rw [hU], by rw [hU]; exact hPc, va_K.moved hW.alike hKc, hDc.weaken (fun _ _ _ _ => trivial), hI_.call hS hU hW (fun q h => hFc q h)⟩⟩ rfl rfl hl.1 rfl (lv_room (Nat.le_of_ble_eq_true rfl)) dX3_doSees_2 ⟨Nat.le_of_ble_eq_true rfl, Nat.le_of_ble_eq_true rfl⟩) hS (fun q _ h => hFc q h) hFc (fun u tC H1 locs htC hvm hw_2 hB hz1 hk1 hS => ?_)
  obtain ⟨mdc9_3, sz_9_4, fEl9_5⟩ := u
  try dsimp only at hw_2 hB
  obtain ⟨hP1, hK1, hD1⟩ := hB
  rw [htC] at hP1
  have hK1 := va_K.moved hvm.symm hK1
  obtain ⟨hP, hD⟩ := va_join (wr := []) (w1 := [(zo1iri bo mdc9_3 aEl (nI sz_9_4)), (zaR aEl cEl 10 fEl9_5)]) hP hD [0, 1] [] rfl rfl (by decide) (by decide) hk1 hFc hP1 hD1
  have hK := (hK.sub (tys' := []) [] rfl).app hK1
  generalize H1 = H at hP hS ⊢
  have hP : va_P (dC, dI) vwCl [(zo1iri bo mdc9_3 aEl (nI sz_9_4)), (zaR aEl cEl 10 fEl9_5)] H := hP
  have hD : va_D A [(zo1iri bo mdc9_3 aEl (nI sz_9_4)), (zaR aEl cEl 10 fEl9_5)] := hD
  have hK : va_K (dC, dI) vwCl [(cEl, .object "java/lang/Object")] s := hK
  obtain ⟨e_6, hL_7⟩ := hw_2
  obtain rfl := (e_6).symm
  refine lv_iload_n hx hb dX3_doSees_5 rfl (lv_at hl 1 rfl) ?_
  refine lv_aload_n hx hb dX3_doSees_6 rfl (lv_at hl 0 rfl) ?_
  refine va_get (D := (dC, dI)) (ci := 8) (v := .int (nI i0)) (C := RX6) (T := TX6) (N := 4) hx hb hts kc_X3_doSees_X6_1_1 hown hZ.2.1 (hZ.P hS) 0 rfl rfl 1 (by decide) (hts (.fieldLink RX3 15 "MistHeaps$Heap" "number" "I") kc_X3_doSees_X6_1_0) (fun _ h9 => h9) rfl dX3_doSees_7 ?_
  refine lv_iadd hx hb dX3_doSees_10 ?_
  rw [hQ]
  have hP9 := hP.sub (ws' := [(zo1iri bo mdc9_3 aEl (nI (sz_ + 1))), (zaR aEl cEl 10 fEl9_5)]) [0, 1] rfl
  have hD9 := hD.sub (ws' := [(zo1iri bo mdc9_3 aEl (nI (sz_ + 1))), (zaR aEl cEl 10 fEl9_5)]) [0, 1] (by decide) rfl
  have hK9 := hK.sub (tys' := [(cEl, .object "java/lang/Object")]) [0] rfl
  exact W.iret (v := x + (nI i0)) hx hb hr (fun tQ htQ hWQ => ⟨⟨(x + (nI i0)), (mdc9_3, (sz_ + 1), fEl9_5), rfl, ⟨rfl, by omega, by have h9 := hL_7; exact h9⟩, by rw [htQ]; exact hP9, va_K.moved hWQ.alike hK9, hD9⟩, hS.F htQ⟩) hS.2.2 dX3_doSees_11

theorem kc_X3_doSees_X6_0_0 : (.fieldLink RX3 15 "MistHeaps$Heap" "number" "I" : Cond) ∈ wsX3_doSees := kc_of 231 rfl rfl rfl
theorem kc_X3_doSees_X6_0_1 : ∀ w ∈ wsX60, w ∈ wsX3_doSees := fun w h => List.mem_cons_of_mem _ (gin_wsX60 w h)
set_option maxHeartbeats 4000000 in
set_option maxRecDepth 100000 in
theorem c_X3_doSees_X6_0 (l : Launch) (dC : Nat → ClassId) (dI : Nat → Nat → Nat) (ad : Nat → Nat) (cB bS : Nat)    (bo : Nat) (i0 : Nat) (sk : Int32) (sv : Int32) (scl : Int32) (x : Int32) (a0 : Nat) (mdc : Int32) (sz : Nat) : Met l yX3_doSees wsX3_doSees ({ frames := 6, cells := 1, slots := 10, locals := 122 } : Room) (va_Pc [.ref a0, .int x, .ref bo] (fun U => U.heap.size = sz ∧ va_P (dC, dI) vwCl [(zo1iri bo mdc bS 0)] U.heap ∧ va_K (dC, dI) vwCl [] U ∧ va_D (fun _ => True) [(zo1iri bo mdc bS 0)] ∧ Gi ad cB bS (va_A [(zo1iri bo mdc bS 0)] sz) U ∧ Gb (va_A [(zo1iri bo mdc bS 0)] sz) U ∧ Gw (va_A [(zo1iri bo mdc bS 0)] sz) U ∧ Fz dC dI [(zo8iiii a0 sk (nI i0) sv scl)] [] (va_A [(zo1iri bo mdc bS 0)] sz) U)) (va_Qi (fun (r : Int32) (u : (Int32) × (Nat) × (ClassId) × (Nat) × (Nat → Option Nat)) => match u with | (mdc9, aEl9, cEl9, sz_9, fEl9) => r = x + nI i0 ∧ sz_9 = 1 ∧ okL ad fEl9 sz_9 [1]) (fun (u : (Int32) × (Nat) × (ClassId) × (Nat) × (Nat → Option Nat)) (t : State) => match u with | (mdc9, aEl9, cEl9, sz_9, fEl9) => va_P (dC, dI) vwCl [(zo1iri bo mdc9 aEl9 (nI sz_9)), (zaR aEl9 cEl9 10 fEl9)] t.heap ∧ va_K (dC, dI) vwCl [(cEl9, .object "java/lang/Object")] t ∧ va_D (va_A [(zo1iri bo mdc bS 0)] sz) [(zo1iri bo mdc9 aEl9 (nI sz_9)), (zaR aEl9 cEl9 10 fEl9)]) (va_A [(zo1iri bo mdc bS 0)] sz)) 1 10 (va_A [(zo1iri bo mdc bS 0)] sz) := by
  refine met_ofQ (cc := cX3_doSees) (maxL := 3) (ret := (some .int)) (by decide) rfl ?_
  intro p e s m args below meth c s₁ Q B hml hv hQ
  obtain ⟨rfl, hsz, hP, hK, hD0, hI_, hB_, hW_, hZ⟩ := hv
  have hx := B.exec
  have hb := B.bytes
  have hr := B.returns
  have hts := atoms_spec (ws := wsX3_doSees) B.pre
  have hown : s.vm.findClass RX3 = some m.cls := findClass_of_methodNamed B.named
  have hlocks := B.notSynchronized
  subst hsz
  have hD := hD0.self (sz := s.heap.size)
  generalize hAe : va_A [(zo1iri bo mdc bS 0)] s.heap.size = A at hD hQ hI_ hB_ hW_ hZ ⊢
  have hA : ∀ q : Nat, s.heap.size ≤ q → A q := fun q h => by rw [← hAe]; exact Or.inr h
  have hS : va_S A s.heap s.heap [] := va_S.rf
  have hl := lv_entry [.ref a0, .int x, .ref bo] (n := 3) (Nat.le_of_ble_eq_true rfl)
  rw [lg_entry_eq]
  generalize (lg_sl [.ref a0, .int x, .ref bo] ++ List.replicate (3 - (lg_sl [.ref a0, .int x, .ref bo]).length) Slot.unset).toArray = ls at hl ⊢
  generalize hag : ([.ref a0, .int x, .ref bo] : List Value).toArray = args at hts hQ ⊢
  have hl : lv_has ls 3 [(0, .ref a0), (1, .int x), (2, .ref bo)] := hl
  obtain ⟨H, hH⟩ : ∃ H : Heap, H = s.heap := ⟨_, rfl⟩
  rw [← hH] at hP
  rw [← hH]
  have hS : va_S A s.heap H [] := by rw [hH]; exact hS
  obtain ⟨locs, hlo⟩ : ∃ L : List Loc, L = [] := ⟨_, rfl⟩
  rw [← hlo] at hS
  rw [← hlo]
  clear hH hlo
  refine lv_iconst (v := 1) hx hb dX3_doSees_0 (by decide) ?_
  refine lv_aload_n hx hb dX3_doSees_1 rfl (lv_at hl 2 rfl) ?_
  have hPc := hP.sub (ws' := [(zo1iri bo mdc bS 0)]) [0] rfl
  have hDc := hD.sub (ws' := [(zo1iri bo mdc bS 0)]) [0] (by decide) rfl
  have hKc := hK.sub (tys' := []) [] rfl
  have hFc := va_free (wc := [(zo1iri bo mdc bS 0)]) hD hS hA [0] rfl
  refine va_callv (va_runS (As := [.int 1, .ref bo]) (rest := []) ⟨hx, hb, hml, hown, hts⟩ (c_begin0 l dC dI ad cB bS bo mdc 1 H.size (by omega)) (va_cwS 2 hts gX3_doSees_X3_begin rfl rfl rfl hd_yX3_begin.2 ⟨Nat.le_of_ble_eq_true rfl, Nat.le_of_ble_eq_true rfl⟩) ⟨fun a U g mk q => by obtain ⟨q0, q1, qP, qK, qD, qhI_⟩ := q; exact ⟨q0, q1, qP, va_K.moved (u := U) (U := U.calling g mk a) (Vm.Alike.refl U.vm) qK, qD, qhI_.same rfl rfl⟩, fun U hU hW => ⟨rfl, by rw [hU], by rw [hU]; exact hPc, va_K.moved hW.alike hKc, hDc.weaken (fun _ _ _ _ => trivial), hI_.call hS hU hW (fun q h => hFc q h)⟩⟩ rfl rfl hl.1 rfl (lv_room (Nat.le_of_ble_eq_true rfl)) dX3_doSees_2 ⟨Nat.le_of_ble_eq_true rfl, Nat.le_of_ble_eq_true rfl⟩) hS (fun q _ h => hFc q h) hFc (fun u tC H1 locs htC hvm hw_2 hB hz1 hk1 hS => ?_)
  obtain ⟨mdc9_3, aEl9_4, cEl9_5, sz_9_6, fEl9_7⟩ := u
  try dsimp only at hw_2 hB
  obtain ⟨hP1, hK1, hD1⟩ := hB
  rw [htC] at hP1
  have hK1 := va_K.moved hvm.symm hK1
  obtain ⟨hP, hD⟩ := va_join (wr := []) (w1 := [(zo1iri bo mdc9_3 aEl9_4 (nI sz_9_6)), (zaR aEl9_4 cEl9_5 10 fEl9_7)]) hP hD [0] [] rfl rfl (by decide) (by decide) hk1 hFc hP1 hD1
  have hK := (hK.sub (tys' := []) [] rfl).app hK1
  generalize H1 = H at hP hS ⊢
  have hP : va_P (dC, dI) vwCl [(zo1iri bo mdc9_3 aEl9_4 (nI sz_9_6)), (zaR aEl9_4 cEl9_5 10 fEl9_7)] H := hP
  have hD : va_D A [(zo1iri bo mdc9_3 aEl9_4 (nI sz_9_6)), (zaR aEl9_4 cEl9_5 10 fEl9_7)] := hD
  have hK : va_K (dC, dI) vwCl [(cEl9_5, .object "java/lang/Object")] s := hK
  refine W.widen (k := 1) (n := 10) (by omega) (by omega) ?_
  obtain ⟨e_8, hL_9⟩ := hw_2
  obtain rfl := (e_8).symm
  refine lv_iload_n hx hb dX3_doSees_5 rfl (lv_at hl 1 rfl) ?_
  refine lv_aload_n hx hb dX3_doSees_6 rfl (lv_at hl 0 rfl) ?_
  refine va_get (D := (dC, dI)) (ci := 8) (v := .int (nI i0)) (C := RX6) (T := TX6) (N := 4) hx hb hts kc_X3_doSees_X6_0_1 hown hZ.2.1 (hZ.P hS) 0 rfl rfl 1 (by decide) (hts (.fieldLink RX3 15 "MistHeaps$Heap" "number" "I") kc_X3_doSees_X6_0_0) (fun _ h9 => h9) rfl dX3_doSees_7 ?_
  refine lv_iadd hx hb dX3_doSees_10 ?_
  rw [hQ]
  have hP9 := hP.sub (ws' := [(zo1iri bo mdc9_3 aEl9_4 (nI 1)), (zaR aEl9_4 cEl9_5 10 fEl9_7)]) [0, 1] rfl
  have hD9 := hD.sub (ws' := [(zo1iri bo mdc9_3 aEl9_4 (nI 1)), (zaR aEl9_4 cEl9_5 10 fEl9_7)]) [0, 1] (by decide) rfl
  have hK9 := hK.sub (tys' := [(cEl9_5, .object "java/lang/Object")]) [0] rfl
  refine W.widen (k := 1) (n := 10) (by omega) (by omega) ?_
  exact W.iret (v := x + (nI i0)) hx hb hr (fun tQ htQ hWQ => ⟨⟨(x + (nI i0)), (mdc9_3, aEl9_4, cEl9_5, 1, fEl9_7), rfl, ⟨rfl, by omega, hL_9⟩, by rw [htQ]; exact hP9, va_K.moved hWQ.alike hK9, hD9⟩, hS.F htQ⟩) hS.2.2 dX3_doSees_11

theorem kc_X3_doGoes_X6_1_0 : (.fieldLink RX3 18 "MistHeaps$Heap" "v" "I" : Cond) ∈ wsX3_doGoes := kc_of 236 rfl rfl rfl
theorem kc_X3_doGoes_X6_1_1 : ∀ w ∈ wsX60, w ∈ wsX3_doGoes := fun w h => List.mem_cons_of_mem _ (gin_wsX60 w h)
set_option maxHeartbeats 4000000 in
set_option maxRecDepth 100000 in
theorem c_X3_doGoes_X6_1 (l : Launch) (dC : Nat → ClassId) (dI : Nat → Nat → Nat) (ad : Nat → Nat) (cB bS : Nat)    (bo : Nat) (aEl : Nat) (i0 : Nat) (sk : Int32) (sv : Int32) (scl : Int32) (x : Int32) (cEl : ClassId) (fEl : Nat → Option Nat) (a0 : Nat) (sz_ : Nat) (mdc : Int32) (tl : List Nat) (sz : Nat) (hsz : sz_ + 2 ≤ 10) (zL : okL ad fEl sz_ tl) : Met l yX3_doGoes wsX3_doGoes ({ frames := 4, cells := 0, slots := 0, locals := 87 } : Room) (va_Pc [.ref a0, .int x, .ref bo] (fun U => U.heap.size = sz ∧ va_P (dC, dI) vwCl [(zo1iri bo mdc aEl (nI sz_)), (zaR aEl cEl 10 fEl)] U.heap ∧ va_K (dC, dI) vwCl [(cEl, .object "java/lang/Object")] U ∧ va_D (fun _ => True) [(zo1iri bo mdc aEl (nI sz_)), (zaR aEl cEl 10 fEl)] ∧ Gi ad cB bS (va_A [(zo1iri bo mdc aEl (nI sz_)), (zaR aEl cEl 10 fEl)] sz) U ∧ Gb (va_A [(zo1iri bo mdc aEl (nI sz_)), (zaR aEl cEl 10 fEl)] sz) U ∧ Gw (va_A [(zo1iri bo mdc aEl (nI sz_)), (zaR aEl cEl 10 fEl)] sz) U ∧ Fz dC dI [(zo8iiii a0 sk (nI i0) sv scl)] [] (va_A [(zo1iri bo mdc aEl (nI sz_)), (zaR aEl cEl 10 fEl)] sz) U)) (va_Qi (fun (r : Int32) (u : (Int32) × (Nat) × (Nat → Option Nat)) => match u with | (mdc9, sz_9, fEl9) => r = (x + nI i0) - sv ∧ sz_9 = sz_ + 2 ∧ okL ad fEl9 sz_9 (tl ++ [2, 1])) (fun (u : (Int32) × (Nat) × (Nat → Option Nat)) (t : State) => match u with | (mdc9, sz_9, fEl9) => va_P (dC, dI) vwCl [(zo1iri bo mdc9 aEl (nI sz_9)), (zaR aEl cEl 10 fEl9)] t.heap ∧ va_K (dC, dI) vwCl [(cEl, .object "java/lang/Object")] t ∧ va_D (va_A [(zo1iri bo mdc aEl (nI sz_)), (zaR aEl cEl 10 fEl)] sz) [(zo1iri bo mdc9 aEl (nI sz_9)), (zaR aEl cEl 10 fEl9)]) (va_A [(zo1iri bo mdc aEl (nI sz_)), (zaR aEl cEl 10 fEl)] sz)) 0 0 (va_A [(zo1iri bo mdc aEl (nI sz_)), (zaR aEl cEl 10 fEl)] sz) := by
  refine met_ofQ (cc := cX3_doGoes) (maxL := 3) (ret := (some .int)) (by decide) rfl ?_
  intro p e s m args below meth c s₁ Q B hml hv hQ
  obtain ⟨rfl, hsz, hP, hK, hD0, hI_, hB_, hW_, hZ⟩ := hv
  have hx := B.exec
  have hb := B.bytes
  have hr := B.returns
  have hts := atoms_spec (ws := wsX3_doGoes) B.pre
  have hown : s.vm.findClass RX3 = some m.cls := findClass_of_methodNamed B.named
  have hlocks := B.notSynchronized
  subst hsz
  have hD := hD0.self (sz := s.heap.size)
  generalize hAe : va_A [(zo1iri bo mdc aEl (nI sz_)), (zaR aEl cEl 10 fEl)] s.heap.size = A at hD hQ hI_ hB_ hW_ hZ ⊢
  have hA : ∀ q : Nat, s.heap.size ≤ q → A q := fun q h => by rw [← hAe]; exact Or.inr h
  have hS : va_S A s.heap s.heap [] := va_S.rf
  have hl := lv_entry [.ref a0, .int x, .ref bo] (n := 3) (Nat.le_of_ble_eq_true rfl)
  rw [lg_entry_eq]
  generalize (lg_sl [.ref a0, .int x, .ref bo] ++ List.replicate (3 - (lg_sl [.ref a0, .int x, .ref bo]).length) Slot.unset).toArray = ls at hl ⊢
  generalize hag : ([.ref a0, .int x, .ref bo] : List Value).toArray = args at hts hQ ⊢
  have hl : lv_has ls 3 [(0, .ref a0), (1, .int x), (2, .ref bo)] := hl
  obtain ⟨H, hH⟩ : ∃ H : Heap, H = s.heap := ⟨_, rfl⟩
  rw [← hH] at hP
  rw [← hH]
  have hS : va_S A s.heap H [] := by rw [hH]; exact hS
  obtain ⟨locs, hlo⟩ : ∃ L : List Loc, L = [] := ⟨_, rfl⟩
  rw [← hlo] at hS
  rw [← hlo]
  clear hH hlo
  refine lv_iconst (v := 2) hx hb dX3_doGoes_0 (by decide) ?_
  refine lv_aload_n hx hb dX3_doGoes_1 rfl (lv_at hl 2 rfl) ?_
  have hPc := hP.sub (ws' := [(zo1iri bo mdc aEl (nI sz_)), (zaR aEl cEl 10 fEl)]) [0, 1] rfl
  have hDc := hD.sub (ws' := [(zo1iri bo mdc aEl (nI sz_)), (zaR aEl cEl 10 fEl)]) [0, 1] (by decide) rfl
  have hKc := hK.sub (tys' := [(cEl, .object "java/lang/Object")]) [0] rfl
  have hFc := va_free (wc := [(zo1iri bo mdc aEl (nI sz_)), (zaR aEl cEl 10 fEl)]) hD hS hA [0, 1] rfl
  refine va_callv (va_runS (As := [.int 2, .ref bo]) (rest := []) ⟨hx, hb, hml, hown, hts⟩ (c_begin1 l dC dI ad cB bS bo aEl 2 cEl fEl sz_ mdc tl H.size (by omega) (by omega) (zL)) (va_cwS 2 hts gX3_doGoes_X3_begin rfl rfl rfl hd_yX3_begin.2 ⟨Nat.le_of_ble_eq_true rfl, Nat.le_of_ble_eq_true rfl⟩) ⟨fun a U g mk q => by obtain ⟨q0, q1, qP, qK, qD, qhI_⟩ := q; exact ⟨q0, q1, qP, va_K.moved (u := U) (U := U.calling g mk a) (Vm.Alike.refl U.vm) qK, qD, qhI_.same rfl rfl⟩, fun U hU hW => ⟨rfl, by rw [hU], by rw [hU]; exact hPc, va_K.moved hW.alike hKc, hDc.weaken (fun _ _ _ _ => trivial), hI_.call hS hU hW (fun q h => hFc q h)⟩⟩ rfl rfl hl.1 rfl (lv_room (Nat.le_of_ble_eq_true rfl)) dX3_doGoes_2 ⟨Nat.le_of_ble_eq_true rfl, Nat.le_of_ble_eq_true rfl⟩) hS (fun q _ h => hFc q h) hFc (fun u tC H1 locs htC hvm hw_2 hB hz1 hk1 hS => ?_)
  obtain ⟨mdc9_3, sz_9_4, fEl9_5⟩ := u
  try dsimp only at hw_2 hB
  obtain ⟨hP1, hK1, hD1⟩ := hB
  rw [htC] at hP1
  have hK1 := va_K.moved hvm.symm hK1
  obtain ⟨hP, hD⟩ := va_join (wr := []) (w1 := [(zo1iri bo mdc9_3 aEl (nI sz_9_4)), (zaR aEl cEl 10 fEl9_5)]) hP hD [0, 1] [] rfl rfl (by decide) (by decide) hk1 hFc hP1 hD1
  have hK := (hK.sub (tys' := []) [] rfl).app hK1
  generalize H1 = H at hP hS ⊢
  have hP : va_P (dC, dI) vwCl [(zo1iri bo mdc9_3 aEl (nI sz_9_4)), (zaR aEl cEl 10 fEl9_5)] H := hP
  have hD : va_D A [(zo1iri bo mdc9_3 aEl (nI sz_9_4)), (zaR aEl cEl 10 fEl9_5)] := hD
  have hK : va_K (dC, dI) vwCl [(cEl, .object "java/lang/Object")] s := hK
  obtain ⟨e_6, hL_7⟩ := hw_2
  obtain rfl := (e_6).symm
  refine lv_aload_n hx hb dX3_doGoes_5 rfl (lv_at hl 0 rfl) ?_
  refine lv_iload_n hx hb dX3_doGoes_6 rfl (lv_at hl 1 rfl) ?_
  refine lv_aload_n hx hb dX3_doGoes_7 rfl (lv_at hl 2 rfl) ?_
  have hPc := hP.sub (ws' := [(zo1iri bo mdc9_3 aEl (nI (sz_ + 1))), (zaR aEl cEl 10 fEl9_5)]) [0, 1] rfl
  have hDc := hD.sub (ws' := [(zo1iri bo mdc9_3 aEl (nI (sz_ + 1))), (zaR aEl cEl 10 fEl9_5)]) [0, 1] (by decide) rfl
  have hKc := hK.sub (tys' := [(cEl, .object "java/lang/Object")]) [0] rfl
  have hFc := va_free (wc := [(zo1iri bo mdc9_3 aEl (nI (sz_ + 1))), (zaR aEl cEl 10 fEl9_5)]) hD hS hA [0, 1] rfl
  refine va_calli (va_runU (As := [.int x, .ref bo]) (rest := []) ⟨hx, hb, hml, hown, hts⟩ (c_X3_doSees_X6_1 l dC dI ad cB bS    bo aEl i0 sk sv scl x cEl fEl9_5 a0 (sz_ + 1) mdc9_3 (tl ++ [2]) H.size (by omega) (hL_7)) (va_cwU 2 hts gX3_doGoes_X3_doSees_u38X6 rfl rfl rfl rfl (by decide +kernel) ⟨Nat.le_of_ble_eq_true rfl, Nat.le_of_ble_eq_true rfl⟩) ⟨fun a U g mk q => by obtain ⟨q0, q1, qP, qK, qD, qhI_, qhB_, qhW_, qhZ⟩ := q; exact ⟨q0, q1, qP, va_K.moved (u := U) (U := U.calling g mk a) (Vm.Alike.refl U.vm) qK, qD, qhI_.same rfl rfl, qhB_.same rfl rfl, qhW_.same rfl rfl, qhZ.same rfl rfl⟩, va_recv hZ.2.1 (hZ.P hS) (ci := 8) (q := (RX6, TX6, 4)) (q0 := 0) rfl rfl, fun U hU hW => ⟨rfl, by rw [hU], by rw [hU]; exact hPc, va_K.moved hW.alike hKc, hDc.weaken (fun _ _ _ _ => trivial), hI_.call hS hU hW (fun q h => hFc q h), hB_.call hS hU hW (fun q h => hFc q h), hW_.call hS hU hW (fun q h => hFc q h), (hZ.sub [0] [] rfl rfl).call hS hU hW (fun q h => hFc q h)⟩⟩ rfl rfl hl.1 rfl (lv_room (Nat.le_of_ble_eq_true rfl)) dX3_doGoes_8 ⟨Nat.le_of_ble_eq_true rfl, Nat.le_of_ble_eq_true rfl⟩) hS (fun q _ h => hFc q h) hFc (fun r_8 u tC H1 locs htC hvm hw_9 hB hz1 hk1 hS => ?_)
  obtain ⟨mdc9_10, sz_9_11, fEl9_12⟩ := u
  try dsimp only at hw_9 hB
  obtain ⟨hP1, hK1, hD1⟩ := hB
  rw [htC] at hP1
  have hK1 := va_K.moved hvm.symm hK1
  obtain ⟨hP, hD⟩ := va_join (wr := []) (w1 := [(zo1iri bo mdc9_10 aEl (nI sz_9_11)), (zaR aEl cEl 10 fEl9_12)]) hP hD [0, 1] [] rfl rfl (by decide) (by decide) hk1 hFc hP1 hD1
  have hK := (hK.sub (tys' := []) [] rfl).app hK1
  generalize H1 = H at hP hS ⊢
  have hP : va_P (dC, dI) vwCl [(zo1iri bo mdc9_10 aEl (nI sz_9_11)), (zaR aEl cEl 10 fEl9_12)] H := hP
  have hD : va_D A [(zo1iri bo mdc9_10 aEl (nI sz_9_11)), (zaR aEl cEl 10 fEl9_12)] := hD
  have hK : va_K (dC, dI) vwCl [(cEl, .object "java/lang/Object")] s := hK
  obtain ⟨er_13, e_14, hL_15⟩ := hw_9
  obtain rfl := (e_14).symm
  subst er_13
  refine lv_aload_n hx hb dX3_doGoes_11 rfl (lv_at hl 0 rfl) ?_
  refine va_get (D := (dC, dI)) (ci := 8) (v := .int sv) (C := RX6) (T := TX6) (N := 4) hx hb hts kc_X3_doGoes_X6_1_1 hown hZ.2.1 (hZ.P hS) 0 rfl rfl 2 (by decide) (hts (.fieldLink RX3 18 "MistHeaps$Heap" "v" "I") kc_X3_doGoes_X6_1_0) (fun _ h9 => h9) rfl dX3_doGoes_12 ?_
  refine lv_isub hx hb dX3_doGoes_15 ?_
  rw [hQ]
  have hP9 := hP.sub (ws' := [(zo1iri bo mdc9_10 aEl (nI ((sz_ + 1) + 1))), (zaR aEl cEl 10 fEl9_12)]) [0, 1] rfl
  have hD9 := hD.sub (ws' := [(zo1iri bo mdc9_10 aEl (nI ((sz_ + 1) + 1))), (zaR aEl cEl 10 fEl9_12)]) [0, 1] (by decide) rfl
  have hK9 := hK.sub (tys' := [(cEl, .object "java/lang/Object")]) [0] rfl
  exact W.iret (v := (x + nI i0) - sv) hx hb hr (fun tQ htQ hWQ => ⟨⟨((x + nI i0) - sv), (mdc9_10, ((sz_ + 1) + 1), fEl9_12), rfl, ⟨rfl, by omega, by have h9 := okL_as (hL_15); exact h9⟩, by rw [htQ]; exact hP9, va_K.moved hWQ.alike hK9, hD9⟩, hS.F htQ⟩) hS.2.2 dX3_doGoes_16

theorem kc_X3_doGoes_X6_0_0 : (.fieldLink RX3 18 "MistHeaps$Heap" "v" "I" : Cond) ∈ wsX3_doGoes := kc_of 236 rfl rfl rfl
theorem kc_X3_doGoes_X6_0_1 : ∀ w ∈ wsX60, w ∈ wsX3_doGoes := fun w h => List.mem_cons_of_mem _ (gin_wsX60 w h)
set_option maxHeartbeats 4000000 in
set_option maxRecDepth 100000 in
theorem c_X3_doGoes_X6_0 (l : Launch) (dC : Nat → ClassId) (dI : Nat → Nat → Nat) (ad : Nat → Nat) (cB bS : Nat)    (bo : Nat) (i0 : Nat) (sk : Int32) (sv : Int32) (scl : Int32) (x : Int32) (a0 : Nat) (mdc : Int32) (sz : Nat) : Met l yX3_doGoes wsX3_doGoes ({ frames := 6, cells := 1, slots := 10, locals := 122 } : Room) (va_Pc [.ref a0, .int x, .ref bo] (fun U => U.heap.size = sz ∧ va_P (dC, dI) vwCl [(zo1iri bo mdc bS 0)] U.heap ∧ va_K (dC, dI) vwCl [] U ∧ va_D (fun _ => True) [(zo1iri bo mdc bS 0)] ∧ Gi ad cB bS (va_A [(zo1iri bo mdc bS 0)] sz) U ∧ Gb (va_A [(zo1iri bo mdc bS 0)] sz) U ∧ Gw (va_A [(zo1iri bo mdc bS 0)] sz) U ∧ Fz dC dI [(zo8iiii a0 sk (nI i0) sv scl)] [] (va_A [(zo1iri bo mdc bS 0)] sz) U)) (va_Qi (fun (r : Int32) (u : (Int32) × (Nat) × (ClassId) × (Nat) × (Nat → Option Nat)) => match u with | (mdc9, aEl9, cEl9, sz_9, fEl9) => r = (x + nI i0) - sv ∧ sz_9 = 2 ∧ okL ad fEl9 sz_9 [2, 1]) (fun (u : (Int32) × (Nat) × (ClassId) × (Nat) × (Nat → Option Nat)) (t : State) => match u with | (mdc9, aEl9, cEl9, sz_9, fEl9) => va_P (dC, dI) vwCl [(zo1iri bo mdc9 aEl9 (nI sz_9)), (zaR aEl9 cEl9 10 fEl9)] t.heap ∧ va_K (dC, dI) vwCl [(cEl9, .object "java/lang/Object")] t ∧ va_D (va_A [(zo1iri bo mdc bS 0)] sz) [(zo1iri bo mdc9 aEl9 (nI sz_9)), (zaR aEl9 cEl9 10 fEl9)]) (va_A [(zo1iri bo mdc bS 0)] sz)) 1 10 (va_A [(zo1iri bo mdc bS 0)] sz) := by
  refine met_ofQ (cc := cX3_doGoes) (maxL := 3) (ret := (some .int)) (by decide) rfl ?_
  intro p e s m args below meth c s₁ Q B hml hv hQ
  obtain ⟨rfl, hsz, hP, hK, hD0, hI_, hB_, hW_, hZ⟩ := hv
  have hx := B.exec
  have hb := B.bytes
  have hr := B.returns
  have hts := atoms_spec (ws := wsX3_doGoes) B.pre
  have hown : s.vm.findClass RX3 = some m.cls := findClass_of_methodNamed B.named
  have hlocks := B.notSynchronized
  subst hsz
  have hD := hD0.self (sz := s.heap.size)
  generalize hAe : va_A [(zo1iri bo mdc bS 0)] s.heap.size = A at hD hQ hI_ hB_ hW_ hZ ⊢
  have hA : ∀ q : Nat, s.heap.size ≤ q → A q := fun q h => by rw [← hAe]; exact Or.inr h
  have hS : va_S A s.heap s.heap [] := va_S.rf
  have hl := lv_entry [.ref a0, .int x, .ref bo] (n := 3) (Nat.le_of_ble_eq_true rfl)
  rw [lg_entry_eq]
  generalize (lg_sl [.ref a0, .int x, .ref bo] ++ List.replicate (3 - (lg_sl [.ref a0, .int x, .ref bo]).length) Slot.unset).toArray = ls at hl ⊢
  generalize hag : ([.ref a0, .int x, .ref bo] : List Value).toArray = args at hts hQ ⊢
  have hl : lv_has ls 3 [(0, .ref a0), (1, .int x), (2, .ref bo)] := hl
  obtain ⟨H, hH⟩ : ∃ H : Heap, H = s.heap := ⟨_, rfl⟩
  rw [← hH] at hP
  rw [← hH]
  have hS : va_S A s.heap H [] := by rw [hH]; exact hS
  obtain ⟨locs, hlo⟩ : ∃ L : List Loc, L = [] := ⟨_, rfl⟩
  rw [← hlo] at hS
  rw [← hlo]
  clear hH hlo
  refine lv_iconst (v := 2) hx hb dX3_doGoes_0 (by decide) ?_
  refine lv_aload_n hx hb dX3_doGoes_1 rfl (lv_at hl 2 rfl) ?_
  have hPc := hP.sub (ws' := [(zo1iri bo mdc bS 0)]) [0] rfl
  have hDc := hD.sub (ws' := [(zo1iri bo mdc bS 0)]) [0] (by decide) rfl
  have hKc := hK.sub (tys' := []) [] rfl
  have hFc := va_free (wc := [(zo1iri bo mdc bS 0)]) hD hS hA [0] rfl
  refine va_callv (va_runS (As := [.int 2, .ref bo]) (rest := []) ⟨hx, hb, hml, hown, hts⟩ (c_begin0 l dC dI ad cB bS bo mdc 2 H.size (by omega)) (va_cwS 2 hts gX3_doGoes_X3_begin rfl rfl rfl hd_yX3_begin.2 ⟨Nat.le_of_ble_eq_true rfl, Nat.le_of_ble_eq_true rfl⟩) ⟨fun a U g mk q => by obtain ⟨q0, q1, qP, qK, qD, qhI_⟩ := q; exact ⟨q0, q1, qP, va_K.moved (u := U) (U := U.calling g mk a) (Vm.Alike.refl U.vm) qK, qD, qhI_.same rfl rfl⟩, fun U hU hW => ⟨rfl, by rw [hU], by rw [hU]; exact hPc, va_K.moved hW.alike hKc, hDc.weaken (fun _ _ _ _ => trivial), hI_.call hS hU hW (fun q h => hFc q h)⟩⟩ rfl rfl hl.1 rfl (lv_room (Nat.le_of_ble_eq_true rfl)) dX3_doGoes_2 ⟨Nat.le_of_ble_eq_true rfl, Nat.le_of_ble_eq_true rfl⟩) hS (fun q _ h => hFc q h) hFc (fun u tC H1 locs htC hvm hw_2 hB hz1 hk1 hS => ?_)
  obtain ⟨mdc9_3, aEl9_4, cEl9_5, sz_9_6, fEl9_7⟩ := u
  try dsimp only at hw_2 hB
  obtain ⟨hP1, hK1, hD1⟩ := hB
  rw [htC] at hP1
  have hK1 := va_K.moved hvm.symm hK1
  obtain ⟨hP, hD⟩ := va_join (wr := []) (w1 := [(zo1iri bo mdc9_3 aEl9_4 (nI sz_9_6)), (zaR aEl9_4 cEl9_5 10 fEl9_7)]) hP hD [0] [] rfl rfl (by decide) (by decide) hk1 hFc hP1 hD1
  have hK := (hK.sub (tys' := []) [] rfl).app hK1
  generalize H1 = H at hP hS ⊢
  have hP : va_P (dC, dI) vwCl [(zo1iri bo mdc9_3 aEl9_4 (nI sz_9_6)), (zaR aEl9_4 cEl9_5 10 fEl9_7)] H := hP
  have hD : va_D A [(zo1iri bo mdc9_3 aEl9_4 (nI sz_9_6)), (zaR aEl9_4 cEl9_5 10 fEl9_7)] := hD
  have hK : va_K (dC, dI) vwCl [(cEl9_5, .object "java/lang/Object")] s := hK
  refine W.widen (k := 1) (n := 10) (by omega) (by omega) ?_
  obtain ⟨e_8, hL_9⟩ := hw_2
  obtain rfl := (e_8).symm
  refine lv_aload_n hx hb dX3_doGoes_5 rfl (lv_at hl 0 rfl) ?_
  refine lv_iload_n hx hb dX3_doGoes_6 rfl (lv_at hl 1 rfl) ?_
  refine lv_aload_n hx hb dX3_doGoes_7 rfl (lv_at hl 2 rfl) ?_
  have hPc := hP.sub (ws' := [(zo1iri bo mdc9_3 aEl9_4 (nI 1)), (zaR aEl9_4 cEl9_5 10 fEl9_7)]) [0, 1] rfl
  have hDc := hD.sub (ws' := [(zo1iri bo mdc9_3 aEl9_4 (nI 1)), (zaR aEl9_4 cEl9_5 10 fEl9_7)]) [0, 1] (by decide) rfl
  have hKc := hK.sub (tys' := [(cEl9_5, .object "java/lang/Object")]) [0] rfl
  have hFc := va_free (wc := [(zo1iri bo mdc9_3 aEl9_4 (nI 1)), (zaR aEl9_4 cEl9_5 10 fEl9_7)]) hD hS hA [0, 1] rfl
  refine va_calli (va_runU (As := [.int x, .ref bo]) (rest := []) ⟨hx, hb, hml, hown, hts⟩ (c_X3_doSees_X6_1 l dC dI ad cB bS    bo aEl9_4 i0 sk sv scl x cEl9_5 fEl9_7 a0 1 mdc9_3 ([2]) H.size (by omega) (hL_9)) (va_cwU 2 hts gX3_doGoes_X3_doSees_u38X6 rfl rfl rfl rfl (by decide +kernel) ⟨Nat.le_of_ble_eq_true rfl, Nat.le_of_ble_eq_true rfl⟩) ⟨fun a U g mk q => by obtain ⟨q0, q1, qP, qK, qD, qhI_, qhB_, qhW_, qhZ⟩ := q; exact ⟨q0, q1, qP, va_K.moved (u := U) (U := U.calling g mk a) (Vm.Alike.refl U.vm) qK, qD, qhI_.same rfl rfl, qhB_.same rfl rfl, qhW_.same rfl rfl, qhZ.same rfl rfl⟩, va_recv hZ.2.1 (hZ.P hS) (ci := 8) (q := (RX6, TX6, 4)) (q0 := 0) rfl rfl, fun U hU hW => ⟨rfl, by rw [hU], by rw [hU]; exact hPc, va_K.moved hW.alike hKc, hDc.weaken (fun _ _ _ _ => trivial), hI_.call hS hU hW (fun q h => hFc q h), hB_.call hS hU hW (fun q h => hFc q h), hW_.call hS hU hW (fun q h => hFc q h), (hZ.sub [0] [] rfl rfl).call hS hU hW (fun q h => hFc q h)⟩⟩ rfl rfl hl.1 rfl (lv_room (Nat.le_of_ble_eq_true rfl)) dX3_doGoes_8 ⟨Nat.le_of_ble_eq_true rfl, Nat.le_of_ble_eq_true rfl⟩) hS (fun q _ h => hFc q h) hFc (fun r_10 u tC H1 locs htC hvm hw_11 hB hz1 hk1 hS => ?_)
  obtain ⟨mdc9_12, sz_9_13, fEl9_14⟩ := u
  try dsimp only at hw_11 hB
  obtain ⟨hP1, hK1, hD1⟩ := hB
  rw [htC] at hP1
  have hK1 := va_K.moved hvm.symm hK1
  obtain ⟨hP, hD⟩ := va_join (wr := []) (w1 := [(zo1iri bo mdc9_12 aEl9_4 (nI sz_9_13)), (zaR aEl9_4 cEl9_5 10 fEl9_14)]) hP hD [0, 1] [] rfl rfl (by decide) (by decide) hk1 hFc hP1 hD1
  have hK := (hK.sub (tys' := []) [] rfl).app hK1
  generalize H1 = H at hP hS ⊢
  have hP : va_P (dC, dI) vwCl [(zo1iri bo mdc9_12 aEl9_4 (nI sz_9_13)), (zaR aEl9_4 cEl9_5 10 fEl9_14)] H := hP
  have hD : va_D A [(zo1iri bo mdc9_12 aEl9_4 (nI sz_9_13)), (zaR aEl9_4 cEl9_5 10 fEl9_14)] := hD
  have hK : va_K (dC, dI) vwCl [(cEl9_5, .object "java/lang/Object")] s := hK
  obtain ⟨er_15, e_16, hL_17⟩ := hw_11
  obtain rfl := (e_16).symm
  subst er_15
  refine lv_aload_n hx hb dX3_doGoes_11 rfl (lv_at hl 0 rfl) ?_
  refine va_get (D := (dC, dI)) (ci := 8) (v := .int sv) (C := RX6) (T := TX6) (N := 4) hx hb hts kc_X3_doGoes_X6_0_1 hown hZ.2.1 (hZ.P hS) 0 rfl rfl 2 (by decide) (hts (.fieldLink RX3 18 "MistHeaps$Heap" "v" "I") kc_X3_doGoes_X6_0_0) (fun _ h9 => h9) rfl dX3_doGoes_12 ?_
  refine lv_isub hx hb dX3_doGoes_15 ?_
  rw [hQ]
  have hP9 := hP.sub (ws' := [(zo1iri bo mdc9_12 aEl9_4 (nI (1 + 1))), (zaR aEl9_4 cEl9_5 10 fEl9_14)]) [0, 1] rfl
  have hD9 := hD.sub (ws' := [(zo1iri bo mdc9_12 aEl9_4 (nI (1 + 1))), (zaR aEl9_4 cEl9_5 10 fEl9_14)]) [0, 1] (by decide) rfl
  have hK9 := hK.sub (tys' := [(cEl9_5, .object "java/lang/Object")]) [0] rfl
  refine W.widen (k := 1) (n := 10) (by omega) (by omega) ?_
  exact W.iret (v := (x + nI i0) - sv) hx hb hr (fun tQ htQ hWQ => ⟨⟨((x + nI i0) - sv), (mdc9_12, aEl9_4, cEl9_5, (1 + 1), fEl9_14), rfl, ⟨rfl, by omega, hL_17⟩, by rw [htQ]; exact hP9, va_K.moved hWQ.alike hK9, hD9⟩, hS.F htQ⟩) hS.2.2 dX3_doGoes_16

set_option maxHeartbeats 4000000 in
set_option maxRecDepth 100000 in
theorem c_X6_doGoes_X6_1 (l : Launch) (dC : Nat → ClassId) (dI : Nat → Nat → Nat) (ad : Nat → Nat) (cB bS : Nat)    (bo : Nat) (aEl : Nat) (i0 : Nat) (sk : Int32) (sv : Int32) (scl : Int32) (x : Int32) (cEl : ClassId) (fEl : Nat → Option Nat) (a0 : Nat) (sz_ : Nat) (mdc : Int32) (tl : List Nat) (sz : Nat) (hsz : sz_ + 3 ≤ 10) (zL : okL ad fEl sz_ tl) : Met l yX6_doGoes wsX6_doGoes ({ frames := 5, cells := 0, slots := 0, locals := 109 } : Room) (va_Pc [.ref a0, .int x, .ref bo] (fun U => U.heap.size = sz ∧ va_P (dC, dI) vwCl [(zo1iri bo mdc aEl (nI sz_)), (zaR aEl cEl 10 fEl)] U.heap ∧ va_K (dC, dI) vwCl [(cEl, .object "java/lang/Object")] U ∧ va_D (fun _ => True) [(zo1iri bo mdc aEl (nI sz_)), (zaR aEl cEl 10 fEl)] ∧ Gi ad cB bS (va_A [(zo1iri bo mdc aEl (nI sz_)), (zaR aEl cEl 10 fEl)] sz) U ∧ Gb (va_A [(zo1iri bo mdc aEl (nI sz_)), (zaR aEl cEl 10 fEl)] sz) U ∧ Gw (va_A [(zo1iri bo mdc aEl (nI sz_)), (zaR aEl cEl 10 fEl)] sz) U ∧ Fz dC dI [(zo8iiii a0 sk (nI i0) sv scl)] [] (va_A [(zo1iri bo mdc aEl (nI sz_)), (zaR aEl cEl 10 fEl)] sz) U)) (va_Qi (fun (r : Int32) (u : (Int32) × (Nat) × (Nat → Option Nat)) => match u with | (mdc9, sz_9, fEl9) => r = -((x + nI i0) - sv) ∧ sz_9 = sz_ + 3 ∧ okL ad fEl9 sz_9 (tl ++ [21, 2, 1])) (fun (u : (Int32) × (Nat) × (Nat → Option Nat)) (t : State) => match u with | (mdc9, sz_9, fEl9) => va_P (dC, dI) vwCl [(zo1iri bo mdc9 aEl (nI sz_9)), (zaR aEl cEl 10 fEl9)] t.heap ∧ va_K (dC, dI) vwCl [(cEl, .object "java/lang/Object")] t ∧ va_D (va_A [(zo1iri bo mdc aEl (nI sz_)), (zaR aEl cEl 10 fEl)] sz) [(zo1iri bo mdc9 aEl (nI sz_9)), (zaR aEl cEl 10 fEl9)]) (va_A [(zo1iri bo mdc aEl (nI sz_)), (zaR aEl cEl 10 fEl)] sz)) 0 0 (va_A [(zo1iri bo mdc aEl (nI sz_)), (zaR aEl cEl 10 fEl)] sz) := by
  refine met_ofQ (cc := cX6_doGoes) (maxL := 3) (ret := (some .int)) (by decide) rfl ?_
  intro p e s m args below meth c s₁ Q B hml hv hQ
  obtain ⟨rfl, hsz, hP, hK, hD0, hI_, hB_, hW_, hZ⟩ := hv
  have hx := B.exec
  have hb := B.bytes
  have hr := B.returns
  have hts := atoms_spec (ws := wsX6_doGoes) B.pre
  have hown : s.vm.findClass RX6 = some m.cls := findClass_of_methodNamed B.named
  have hlocks := B.notSynchronized
  subst hsz
  have hD := hD0.self (sz := s.heap.size)
  generalize hAe : va_A [(zo1iri bo mdc aEl (nI sz_)), (zaR aEl cEl 10 fEl)] s.heap.size = A at hD hQ hI_ hB_ hW_ hZ ⊢
  have hA : ∀ q : Nat, s.heap.size ≤ q → A q := fun q h => by rw [← hAe]; exact Or.inr h
  have hS : va_S A s.heap s.heap [] := va_S.rf
  have hl := lv_entry [.ref a0, .int x, .ref bo] (n := 3) (Nat.le_of_ble_eq_true rfl)
  rw [lg_entry_eq]
  generalize (lg_sl [.ref a0, .int x, .ref bo] ++ List.replicate (3 - (lg_sl [.ref a0, .int x, .ref bo]).length) Slot.unset).toArray = ls at hl ⊢
  generalize hag : ([.ref a0, .int x, .ref bo] : List Value).toArray = args at hts hQ ⊢
  have hl : lv_has ls 3 [(0, .ref a0), (1, .int x), (2, .ref bo)] := hl
  obtain ⟨H, hH⟩ : ∃ H : Heap, H = s.heap := ⟨_, rfl⟩
  rw [← hH] at hP
  rw [← hH]
  have hS : va_S A s.heap H [] := by rw [hH]; exact hS
  obtain ⟨locs, hlo⟩ : ∃ L : List Loc, L = [] := ⟨_, rfl⟩
  rw [← hlo] at hS
  rw [← hlo]
  clear hH hlo
  refine lv_bipush (v := 21) hx hb dX6_doGoes_0 (by decide) ?_
  refine lv_aload_n hx hb dX6_doGoes_2 rfl (lv_at hl 2 rfl) ?_
  have hPc := hP.sub (ws' := [(zo1iri bo mdc aEl (nI sz_)), (zaR aEl cEl 10 fEl)]) [0, 1] rfl
  have hDc := hD.sub (ws' := [(zo1iri bo mdc aEl (nI sz_)), (zaR aEl cEl 10 fEl)]) [0, 1] (by decide) rfl
  have hKc := hK.sub (tys' := [(cEl, .object "java/lang/Object")]) [0] rfl
  have hFc := va_free (wc := [(zo1iri bo mdc aEl (nI sz_)), (zaR aEl cEl 10 fEl)]) hD hS hA [0, 1] rfl
  refine va_callv (va_runU2 (As := [.int 21, .ref bo]) (rest := []) ⟨hx, hb, hml, hown, hts⟩ (c_begin1 l dC dI ad cB bS bo aEl 21 cEl fEl sz_ mdc tl H.size (by omega) (by omega) (zL)) (u2_cw (x := xb6) 2 hB_ inb6 rfl rfl rfl rfl rfl (by decide +kernel) ⟨Nat.le_of_ble_eq_true rfl, Nat.le_of_ble_eq_true rfl⟩) ⟨fun a U g mk q => by obtain ⟨q0, q1, qP, qK, qD, qhI_⟩ := q; exact ⟨q0, q1, qP, va_K.moved (u := U) (U := U.calling g mk a) (Vm.Alike.refl U.vm) qK, qD, qhI_.same rfl rfl⟩, fun U hU hW => ⟨rfl, by rw [hU], by rw [hU]; exact hPc, va_K.moved hW.alike hKc, hDc.weaken (fun _ _ _ _ => trivial), hI_.call hS hU hW (fun q h => hFc q h)⟩⟩ rfl rfl hl.1 rfl (lv_room (Nat.le_of_ble_eq_true rfl)) dX6_doGoes_3 ⟨Nat.le_of_ble_eq_true rfl, Nat.le_of_ble_eq_true rfl⟩) hS (fun q _ h => hFc q h) hFc (fun u tC H1 locs htC hvm hw_2 hB hz1 hk1 hS => ?_)
  obtain ⟨mdc9_3, sz_9_4, fEl9_5⟩ := u
  try dsimp only at hw_2 hB
  obtain ⟨hP1, hK1, hD1⟩ := hB
  rw [htC] at hP1
  have hK1 := va_K.moved hvm.symm hK1
  obtain ⟨hP, hD⟩ := va_join (wr := []) (w1 := [(zo1iri bo mdc9_3 aEl (nI sz_9_4)), (zaR aEl cEl 10 fEl9_5)]) hP hD [0, 1] [] rfl rfl (by decide) (by decide) hk1 hFc hP1 hD1
  have hK := (hK.sub (tys' := []) [] rfl).app hK1
  generalize H1 = H at hP hS ⊢
  have hP : va_P (dC, dI) vwCl [(zo1iri bo mdc9_3 aEl (nI sz_9_4)), (zaR aEl cEl 10 fEl9_5)] H := hP
  have hD : va_D A [(zo1iri bo mdc9_3 aEl (nI sz_9_4)), (zaR aEl cEl 10 fEl9_5)] := hD
  have hK : va_K (dC, dI) vwCl [(cEl, .object "java/lang/Object")] s := hK
  obtain ⟨e_6, hL_7⟩ := hw_2
  obtain rfl := (e_6).symm
  refine lv_aload_n hx hb dX6_doGoes_6 rfl (lv_at hl 0 rfl) ?_
  refine lv_iload_n hx hb dX6_doGoes_7 rfl (lv_at hl 1 rfl) ?_
  refine lv_aload_n hx hb dX6_doGoes_8 rfl (lv_at hl 2 rfl) ?_
  have hPc := hP.sub (ws' := [(zo1iri bo mdc9_3 aEl (nI (sz_ + 1))), (zaR aEl cEl 10 fEl9_5)]) [0, 1] rfl
  have hDc := hD.sub (ws' := [(zo1iri bo mdc9_3 aEl (nI (sz_ + 1))), (zaR aEl cEl 10 fEl9_5)]) [0, 1] (by decide) rfl
  have hKc := hK.sub (tys' := [(cEl, .object "java/lang/Object")]) [0] rfl
  have hFc := va_free (wc := [(zo1iri bo mdc9_3 aEl (nI (sz_ + 1))), (zaR aEl cEl 10 fEl9_5)]) hD hS hA [0, 1] rfl
  refine va_calli (va_runSU (hZ.2.1.1 8 (RX6, TX6, 4) rfl).2 (As := [.int x, .ref bo]) (rest := []) ⟨hx, hb, hml, hown, hts⟩ (c_X3_doGoes_X6_1 l dC dI ad cB bS    bo aEl i0 sk sv scl x cEl fEl9_5 a0 (sz_ + 1) mdc9_3 (tl ++ [21]) H.size (by omega) (hL_7)) (va_cwSU 2 hts gX6_doGoes_X3_doGoes_s17 rfl rfl rfl (by decide +kernel) ⟨Nat.le_of_ble_eq_true rfl, Nat.le_of_ble_eq_true rfl⟩) ⟨fun a U g mk q => by obtain ⟨q0, q1, qP, qK, qD, qhI_, qhB_, qhW_, qhZ⟩ := q; exact ⟨q0, q1, qP, va_K.moved (u := U) (U := U.calling g mk a) (Vm.Alike.refl U.vm) qK, qD, qhI_.same rfl rfl, qhB_.same rfl rfl, qhW_.same rfl rfl, qhZ.same rfl rfl⟩, va_recv hZ.2.1 (hZ.P hS) (ci := 8) (q := (RX6, TX6, 4)) (q0 := 0) rfl rfl, fun U hU hW => ⟨rfl, by rw [hU], by rw [hU]; exact hPc, va_K.moved hW.alike hKc, hDc.weaken (fun _ _ _ _ => trivial), hI_.call hS hU hW (fun q h => hFc q h), hB_.call hS hU hW (fun q h => hFc q h), hW_.call hS hU hW (fun q h => hFc q h), (hZ.sub [0] [] rfl rfl).call hS hU hW (fun q h => hFc q h)⟩⟩ rfl rfl hl.1 rfl (lv_room (Nat.le_of_ble_eq_true rfl)) dX6_doGoes_9 ⟨Nat.le_of_ble_eq_true rfl, Nat.le_of_ble_eq_true rfl⟩) hS (fun q _ h => hFc q h) hFc (fun r_8 u tC H1 locs htC hvm hw_9 hB hz1 hk1 hS => ?_)
  obtain ⟨mdc9_10, sz_9_11, fEl9_12⟩ := u
  try dsimp only at hw_9 hB
  obtain ⟨hP1, hK1, hD1⟩ := hB
  rw [htC] at hP1
  have hK1 := va_K.moved hvm.symm hK1
  obtain ⟨hP, hD⟩ := va_join (wr := []) (w1 := [(zo1iri bo mdc9_10 aEl (nI sz_9_11)), (zaR aEl cEl 10 fEl9_12)]) hP hD [0, 1] [] rfl rfl (by decide) (by decide) hk1 hFc hP1 hD1
  have hK := (hK.sub (tys' := []) [] rfl).app hK1
  generalize H1 = H at hP hS ⊢
  have hP : va_P (dC, dI) vwCl [(zo1iri bo mdc9_10 aEl (nI sz_9_11)), (zaR aEl cEl 10 fEl9_12)] H := hP
  have hD : va_D A [(zo1iri bo mdc9_10 aEl (nI sz_9_11)), (zaR aEl cEl 10 fEl9_12)] := hD
  have hK : va_K (dC, dI) vwCl [(cEl, .object "java/lang/Object")] s := hK
  obtain ⟨er_13, e_14, hL_15⟩ := hw_9
  obtain rfl := (e_14).symm
  subst er_13
  refine lv_ineg hx hb dX6_doGoes_12 ?_
  rw [hQ]
  have hP9 := hP.sub (ws' := [(zo1iri bo mdc9_10 aEl (nI ((sz_ + 1) + 2))), (zaR aEl cEl 10 fEl9_12)]) [0, 1] rfl
  have hD9 := hD.sub (ws' := [(zo1iri bo mdc9_10 aEl (nI ((sz_ + 1) + 2))), (zaR aEl cEl 10 fEl9_12)]) [0, 1] (by decide) rfl
  have hK9 := hK.sub (tys' := [(cEl, .object "java/lang/Object")]) [0] rfl
  exact W.iret (v := -((x + nI i0) - sv)) hx hb hr (fun tQ htQ hWQ => ⟨⟨(-((x + nI i0) - sv)), (mdc9_10, ((sz_ + 1) + 2), fEl9_12), rfl, ⟨rfl, by omega, by have h9 := okL_as (hL_15); exact h9⟩, by rw [htQ]; exact hP9, va_K.moved hWQ.alike hK9, hD9⟩, hS.F htQ⟩) hS.2.2 dX6_doGoes_13

set_option maxHeartbeats 4000000 in
set_option maxRecDepth 100000 in
theorem c_X6_doGoes_X6_0 (l : Launch) (dC : Nat → ClassId) (dI : Nat → Nat → Nat) (ad : Nat → Nat) (cB bS : Nat)    (bo : Nat) (i0 : Nat) (sk : Int32) (sv : Int32) (scl : Int32) (x : Int32) (a0 : Nat) (mdc : Int32) (sz : Nat) : Met l yX6_doGoes wsX6_doGoes ({ frames := 6, cells := 1, slots := 10, locals := 122 } : Room) (va_Pc [.ref a0, .int x, .ref bo] (fun U => U.heap.size = sz ∧ va_P (dC, dI) vwCl [(zo1iri bo mdc bS 0)] U.heap ∧ va_K (dC, dI) vwCl [] U ∧ va_D (fun _ => True) [(zo1iri bo mdc bS 0)] ∧ Gi ad cB bS (va_A [(zo1iri bo mdc bS 0)] sz) U ∧ Gb (va_A [(zo1iri bo mdc bS 0)] sz) U ∧ Gw (va_A [(zo1iri bo mdc bS 0)] sz) U ∧ Fz dC dI [(zo8iiii a0 sk (nI i0) sv scl)] [] (va_A [(zo1iri bo mdc bS 0)] sz) U)) (va_Qi (fun (r : Int32) (u : (Int32) × (Nat) × (ClassId) × (Nat) × (Nat → Option Nat)) => match u with | (mdc9, aEl9, cEl9, sz_9, fEl9) => r = -((x + nI i0) - sv) ∧ sz_9 = 3 ∧ okL ad fEl9 sz_9 [21, 2, 1]) (fun (u : (Int32) × (Nat) × (ClassId) × (Nat) × (Nat → Option Nat)) (t : State) => match u with | (mdc9, aEl9, cEl9, sz_9, fEl9) => va_P (dC, dI) vwCl [(zo1iri bo mdc9 aEl9 (nI sz_9)), (zaR aEl9 cEl9 10 fEl9)] t.heap ∧ va_K (dC, dI) vwCl [(cEl9, .object "java/lang/Object")] t ∧ va_D (va_A [(zo1iri bo mdc bS 0)] sz) [(zo1iri bo mdc9 aEl9 (nI sz_9)), (zaR aEl9 cEl9 10 fEl9)]) (va_A [(zo1iri bo mdc bS 0)] sz)) 1 10 (va_A [(zo1iri bo mdc bS 0)] sz) := by
  refine met_ofQ (cc := cX6_doGoes) (maxL := 3) (ret := (some .int)) (by decide) rfl ?_
  intro p e s m args below meth c s₁ Q B hml hv hQ
  obtain ⟨rfl, hsz, hP, hK, hD0, hI_, hB_, hW_, hZ⟩ := hv
  have hx := B.exec
  have hb := B.bytes
  have hr := B.returns
  have hts := atoms_spec (ws := wsX6_doGoes) B.pre
  have hown : s.vm.findClass RX6 = some m.cls := findClass_of_methodNamed B.named
  have hlocks := B.notSynchronized
  subst hsz
  have hD := hD0.self (sz := s.heap.size)
  generalize hAe : va_A [(zo1iri bo mdc bS 0)] s.heap.size = A at hD hQ hI_ hB_ hW_ hZ ⊢
  have hA : ∀ q : Nat, s.heap.size ≤ q → A q := fun q h => by rw [← hAe]; exact Or.inr h
  have hS : va_S A s.heap s.heap [] := va_S.rf
  have hl := lv_entry [.ref a0, .int x, .ref bo] (n := 3) (Nat.le_of_ble_eq_true rfl)
  rw [lg_entry_eq]
  generalize (lg_sl [.ref a0, .int x, .ref bo] ++ List.replicate (3 - (lg_sl [.ref a0, .int x, .ref bo]).length) Slot.unset).toArray = ls at hl ⊢
  generalize hag : ([.ref a0, .int x, .ref bo] : List Value).toArray = args at hts hQ ⊢
  have hl : lv_has ls 3 [(0, .ref a0), (1, .int x), (2, .ref bo)] := hl
  obtain ⟨H, hH⟩ : ∃ H : Heap, H = s.heap := ⟨_, rfl⟩
  rw [← hH] at hP
  rw [← hH]
  have hS : va_S A s.heap H [] := by rw [hH]; exact hS
  obtain ⟨locs, hlo⟩ : ∃ L : List Loc, L = [] := ⟨_, rfl⟩
  rw [← hlo] at hS
  rw [← hlo]
  clear hH hlo
  refine lv_bipush (v := 21) hx hb dX6_doGoes_0 (by decide) ?_
  refine lv_aload_n hx hb dX6_doGoes_2 rfl (lv_at hl 2 rfl) ?_
  have hPc := hP.sub (ws' := [(zo1iri bo mdc bS 0)]) [0] rfl
  have hDc := hD.sub (ws' := [(zo1iri bo mdc bS 0)]) [0] (by decide) rfl
  have hKc := hK.sub (tys' := []) [] rfl
  have hFc := va_free (wc := [(zo1iri bo mdc bS 0)]) hD hS hA [0] rfl
  refine va_callv (va_runU2 (As := [.int 21, .ref bo]) (rest := []) ⟨hx, hb, hml, hown, hts⟩ (c_begin0 l dC dI ad cB bS bo mdc 21 H.size (by omega)) (u2_cw (x := xb6) 2 hB_ inb6 rfl rfl rfl rfl rfl (by decide +kernel) ⟨Nat.le_of_ble_eq_true rfl, Nat.le_of_ble_eq_true rfl⟩) ⟨fun a U g mk q => by obtain ⟨q0, q1, qP, qK, qD, qhI_⟩ := q; exact ⟨q0, q1, qP, va_K.moved (u := U) (U := U.calling g mk a) (Vm.Alike.refl U.vm) qK, qD, qhI_.same rfl rfl⟩, fun U hU hW => ⟨rfl, by rw [hU], by rw [hU]; exact hPc, va_K.moved hW.alike hKc, hDc.weaken (fun _ _ _ _ => trivial), hI_.call hS hU hW (fun q h => hFc q h)⟩⟩ rfl rfl hl.1 rfl (lv_room (Nat.le_of_ble_eq_true rfl)) dX6_doGoes_3 ⟨Nat.le_of_ble_eq_true rfl, Nat.le_of_ble_eq_true rfl⟩) hS (fun q _ h => hFc q h) hFc (fun u tC H1 locs htC hvm hw_2 hB hz1 hk1 hS => ?_)
  obtain ⟨mdc9_3, aEl9_4, cEl9_5, sz_9_6, fEl9_7⟩ := u
  try dsimp only at hw_2 hB
  obtain ⟨hP1, hK1, hD1⟩ := hB
  rw [htC] at hP1
  have hK1 := va_K.moved hvm.symm hK1
  obtain ⟨hP, hD⟩ := va_join (wr := []) (w1 := [(zo1iri bo mdc9_3 aEl9_4 (nI sz_9_6)), (zaR aEl9_4 cEl9_5 10 fEl9_7)]) hP hD [0] [] rfl rfl (by decide) (by decide) hk1 hFc hP1 hD1
  have hK := (hK.sub (tys' := []) [] rfl).app hK1
  generalize H1 = H at hP hS ⊢
  have hP : va_P (dC, dI) vwCl [(zo1iri bo mdc9_3 aEl9_4 (nI sz_9_6)), (zaR aEl9_4 cEl9_5 10 fEl9_7)] H := hP
  have hD : va_D A [(zo1iri bo mdc9_3 aEl9_4 (nI sz_9_6)), (zaR aEl9_4 cEl9_5 10 fEl9_7)] := hD
  have hK : va_K (dC, dI) vwCl [(cEl9_5, .object "java/lang/Object")] s := hK
  refine W.widen (k := 1) (n := 10) (by omega) (by omega) ?_
  obtain ⟨e_8, hL_9⟩ := hw_2
  obtain rfl := (e_8).symm
  refine lv_aload_n hx hb dX6_doGoes_6 rfl (lv_at hl 0 rfl) ?_
  refine lv_iload_n hx hb dX6_doGoes_7 rfl (lv_at hl 1 rfl) ?_
  refine lv_aload_n hx hb dX6_doGoes_8 rfl (lv_at hl 2 rfl) ?_
  have hPc := hP.sub (ws' := [(zo1iri bo mdc9_3 aEl9_4 (nI 1)), (zaR aEl9_4 cEl9_5 10 fEl9_7)]) [0, 1] rfl
  have hDc := hD.sub (ws' := [(zo1iri bo mdc9_3 aEl9_4 (nI 1)), (zaR aEl9_4 cEl9_5 10 fEl9_7)]) [0, 1] (by decide) rfl
  have hKc := hK.sub (tys' := [(cEl9_5, .object "java/lang/Object")]) [0] rfl
  have hFc := va_free (wc := [(zo1iri bo mdc9_3 aEl9_4 (nI 1)), (zaR aEl9_4 cEl9_5 10 fEl9_7)]) hD hS hA [0, 1] rfl
  refine va_calli (va_runSU (hZ.2.1.1 8 (RX6, TX6, 4) rfl).2 (As := [.int x, .ref bo]) (rest := []) ⟨hx, hb, hml, hown, hts⟩ (c_X3_doGoes_X6_1 l dC dI ad cB bS    bo aEl9_4 i0 sk sv scl x cEl9_5 fEl9_7 a0 1 mdc9_3 ([21]) H.size (by omega) (hL_9)) (va_cwSU 2 hts gX6_doGoes_X3_doGoes_s17 rfl rfl rfl (by decide +kernel) ⟨Nat.le_of_ble_eq_true rfl, Nat.le_of_ble_eq_true rfl⟩) ⟨fun a U g mk q => by obtain ⟨q0, q1, qP, qK, qD, qhI_, qhB_, qhW_, qhZ⟩ := q; exact ⟨q0, q1, qP, va_K.moved (u := U) (U := U.calling g mk a) (Vm.Alike.refl U.vm) qK, qD, qhI_.same rfl rfl, qhB_.same rfl rfl, qhW_.same rfl rfl, qhZ.same rfl rfl⟩, va_recv hZ.2.1 (hZ.P hS) (ci := 8) (q := (RX6, TX6, 4)) (q0 := 0) rfl rfl, fun U hU hW => ⟨rfl, by rw [hU], by rw [hU]; exact hPc, va_K.moved hW.alike hKc, hDc.weaken (fun _ _ _ _ => trivial), hI_.call hS hU hW (fun q h => hFc q h), hB_.call hS hU hW (fun q h => hFc q h), hW_.call hS hU hW (fun q h => hFc q h), (hZ.sub [0] [] rfl rfl).call hS hU hW (fun q h => hFc q h)⟩⟩ rfl rfl hl.1 rfl (lv_room (Nat.le_of_ble_eq_true rfl)) dX6_doGoes_9 ⟨Nat.le_of_ble_eq_true rfl, Nat.le_of_ble_eq_true rfl⟩) hS (fun q _ h => hFc q h) hFc (fun r_10 u tC H1 locs htC hvm hw_11 hB hz1 hk1 hS => ?_)
  obtain ⟨mdc9_12, sz_9_13, fEl9_14⟩ := u
  try dsimp only at hw_11 hB
  obtain ⟨hP1, hK1, hD1⟩ := hB
  rw [htC] at hP1
  have hK1 := va_K.moved hvm.symm hK1
  obtain ⟨hP, hD⟩ := va_join (wr := []) (w1 := [(zo1iri bo mdc9_12 aEl9_4 (nI sz_9_13)), (zaR aEl9_4 cEl9_5 10 fEl9_14)]) hP hD [0, 1] [] rfl rfl (by decide) (by decide) hk1 hFc hP1 hD1
  have hK := (hK.sub (tys' := []) [] rfl).app hK1
  generalize H1 = H at hP hS ⊢
  have hP : va_P (dC, dI) vwCl [(zo1iri bo mdc9_12 aEl9_4 (nI sz_9_13)), (zaR aEl9_4 cEl9_5 10 fEl9_14)] H := hP
  have hD : va_D A [(zo1iri bo mdc9_12 aEl9_4 (nI sz_9_13)), (zaR aEl9_4 cEl9_5 10 fEl9_14)] := hD
  have hK : va_K (dC, dI) vwCl [(cEl9_5, .object "java/lang/Object")] s := hK
  obtain ⟨er_15, e_16, hL_17⟩ := hw_11
  obtain rfl := (e_16).symm
  subst er_15
  refine lv_ineg hx hb dX6_doGoes_12 ?_
  rw [hQ]
  have hP9 := hP.sub (ws' := [(zo1iri bo mdc9_12 aEl9_4 (nI (1 + 2))), (zaR aEl9_4 cEl9_5 10 fEl9_14)]) [0, 1] rfl
  have hD9 := hD.sub (ws' := [(zo1iri bo mdc9_12 aEl9_4 (nI (1 + 2))), (zaR aEl9_4 cEl9_5 10 fEl9_14)]) [0, 1] (by decide) rfl
  have hK9 := hK.sub (tys' := [(cEl9_5, .object "java/lang/Object")]) [0] rfl
  refine W.widen (k := 1) (n := 10) (by omega) (by omega) ?_
  exact W.iret (v := -((x + nI i0) - sv)) hx hb hr (fun tQ htQ hWQ => ⟨⟨(-((x + nI i0) - sv)), (mdc9_12, aEl9_4, cEl9_5, (1 + 2), fEl9_14), rfl, ⟨rfl, by omega, hL_17⟩, by rw [htQ]; exact hP9, va_K.moved hWQ.alike hK9, hD9⟩, hS.F htQ⟩) hS.2.2 dX6_doGoes_13

theorem kc_X3_doLooks_X6_1_0 : (.code yX3_doGoes cX3_doGoes 3 (some .int) : Cond) ∈ wsX3_doLooks := kc_of 1049 rfl rfl rfl
set_option maxHeartbeats 4000000 in
set_option maxRecDepth 100000 in
theorem c_X3_doLooks_X6_1 (l : Launch) (dC : Nat → ClassId) (dI : Nat → Nat → Nat) (ad : Nat → Nat) (cB bS : Nat)    (bo : Nat) (aEl : Nat) (i0 : Nat) (sk : Int32) (sv : Int32) (scl : Int32) (x : Int32) (cEl : ClassId) (fEl : Nat → Option Nat) (a0 : Nat) (sz_ : Nat) (mdc : Int32) (tl : List Nat) (sz : Nat) (hsz : sz_ + 4 ≤ 10) (zL : okL ad fEl sz_ tl) : Met l yX3_doLooks wsX3_doLooks ({ frames := 6, cells := 0, slots := 0, locals := 131 } : Room) (va_Pc [.ref a0, .int x, .ref bo] (fun U => U.heap.size = sz ∧ va_P (dC, dI) vwCl [(zo1iri bo mdc aEl (nI sz_)), (zaR aEl cEl 10 fEl)] U.heap ∧ va_K (dC, dI) vwCl [(cEl, .object "java/lang/Object")] U ∧ va_D (fun _ => True) [(zo1iri bo mdc aEl (nI sz_)), (zaR aEl cEl 10 fEl)] ∧ Gi ad cB bS (va_A [(zo1iri bo mdc aEl (nI sz_)), (zaR aEl cEl 10 fEl)] sz) U ∧ Gb (va_A [(zo1iri bo mdc aEl (nI sz_)), (zaR aEl cEl 10 fEl)] sz) U ∧ Gw (va_A [(zo1iri bo mdc aEl (nI sz_)), (zaR aEl cEl 10 fEl)] sz) U ∧ Fz dC dI [(zo8iiii a0 sk (nI i0) sv scl)] [] (va_A [(zo1iri bo mdc aEl (nI sz_)), (zaR aEl cEl 10 fEl)] sz) U)) (va_Qi (fun (r : Int32) (u : (Int32) × (Nat) × (Nat → Option Nat)) => match u with | (mdc9, sz_9, fEl9) => r = (-((x + nI i0) - sv)) * 2 ∧ sz_9 = sz_ + 4 ∧ okL ad fEl9 sz_9 (tl ++ [3, 21, 2, 1])) (fun (u : (Int32) × (Nat) × (Nat → Option Nat)) (t : State) => match u with | (mdc9, sz_9, fEl9) => va_P (dC, dI) vwCl [(zo1iri bo mdc9 aEl (nI sz_9)), (zaR aEl cEl 10 fEl9)] t.heap ∧ va_K (dC, dI) vwCl [(cEl, .object "java/lang/Object")] t ∧ va_D (va_A [(zo1iri bo mdc aEl (nI sz_)), (zaR aEl cEl 10 fEl)] sz) [(zo1iri bo mdc9 aEl (nI sz_9)), (zaR aEl cEl 10 fEl9)]) (va_A [(zo1iri bo mdc aEl (nI sz_)), (zaR aEl cEl 10 fEl)] sz)) 0 0 (va_A [(zo1iri bo mdc aEl (nI sz_)), (zaR aEl cEl 10 fEl)] sz) := by
  refine met_ofQ (cc := cX3_doLooks) (maxL := 3) (ret := (some .int)) (by decide) rfl ?_
  intro p e s m args below meth c s₁ Q B hml hv hQ
  obtain ⟨rfl, hsz, hP, hK, hD0, hI_, hB_, hW_, hZ⟩ := hv
  have hx := B.exec
  have hb := B.bytes
  have hr := B.returns
  have hts := atoms_spec (ws := wsX3_doLooks) B.pre
  have hown : s.vm.findClass RX3 = some m.cls := findClass_of_methodNamed B.named
  have hlocks := B.notSynchronized
  subst hsz
  have hD := hD0.self (sz := s.heap.size)
  generalize hAe : va_A [(zo1iri bo mdc aEl (nI sz_)), (zaR aEl cEl 10 fEl)] s.heap.size = A at hD hQ hI_ hB_ hW_ hZ ⊢
  have hA : ∀ q : Nat, s.heap.size ≤ q → A q := fun q h => by rw [← hAe]; exact Or.inr h
  have hS : va_S A s.heap s.heap [] := va_S.rf
  have hl := lv_entry [.ref a0, .int x, .ref bo] (n := 3) (Nat.le_of_ble_eq_true rfl)
  rw [lg_entry_eq]
  generalize (lg_sl [.ref a0, .int x, .ref bo] ++ List.replicate (3 - (lg_sl [.ref a0, .int x, .ref bo]).length) Slot.unset).toArray = ls at hl ⊢
  generalize hag : ([.ref a0, .int x, .ref bo] : List Value).toArray = args at hts hQ ⊢
  have hl : lv_has ls 3 [(0, .ref a0), (1, .int x), (2, .ref bo)] := hl
  obtain ⟨H, hH⟩ : ∃ H : Heap, H = s.heap := ⟨_, rfl⟩
  rw [← hH] at hP
  rw [← hH]
  have hS : va_S A s.heap H [] := by rw [hH]; exact hS
  obtain ⟨locs, hlo⟩ : ∃ L : List Loc, L = [] := ⟨_, rfl⟩
  rw [← hlo] at hS
  rw [← hlo]
  clear hH hlo
  refine lv_iconst (v := 3) hx hb dX3_doLooks_0 (by decide) ?_
  refine lv_aload_n hx hb dX3_doLooks_1 rfl (lv_at hl 2 rfl) ?_
  have hPc := hP.sub (ws' := [(zo1iri bo mdc aEl (nI sz_)), (zaR aEl cEl 10 fEl)]) [0, 1] rfl
  have hDc := hD.sub (ws' := [(zo1iri bo mdc aEl (nI sz_)), (zaR aEl cEl 10 fEl)]) [0, 1] (by decide) rfl
  have hKc := hK.sub (tys' := [(cEl, .object "java/lang/Object")]) [0] rfl
  have hFc := va_free (wc := [(zo1iri bo mdc aEl (nI sz_)), (zaR aEl cEl 10 fEl)]) hD hS hA [0, 1] rfl
  refine va_callv (va_runS (As := [.int 3, .ref bo]) (rest := []) ⟨hx, hb, hml, hown, hts⟩ (c_begin1 l dC dI ad cB bS bo aEl 3 cEl fEl sz_ mdc tl H.size (by omega) (by omega) (zL)) (va_cwS 2 hts gX3_doLooks_X3_begin rfl rfl rfl hd_yX3_begin.2 ⟨Nat.le_of_ble_eq_true rfl, Nat.le_of_ble_eq_true rfl⟩) ⟨fun a U g mk q => by obtain ⟨q0, q1, qP, qK, qD, qhI_⟩ := q; exact ⟨q0, q1, qP, va_K.moved (u := U) (U := U.calling g mk a) (Vm.Alike.refl U.vm) qK, qD, qhI_.same rfl rfl⟩, fun U hU hW => ⟨rfl, by rw [hU], by rw [hU]; exact hPc, va_K.moved hW.alike hKc, hDc.weaken (fun _ _ _ _ => trivial), hI_.call hS hU hW (fun q h => hFc q h)⟩⟩ rfl rfl hl.1 rfl (lv_room (Nat.le_of_ble_eq_true rfl)) dX3_doLooks_2 ⟨Nat.le_of_ble_eq_true rfl, Nat.le_of_ble_eq_true rfl⟩) hS (fun q _ h => hFc q h) hFc (fun u tC H1 locs htC hvm hw_2 hB hz1 hk1 hS => ?_)
  obtain ⟨mdc9_3, sz_9_4, fEl9_5⟩ := u
  try dsimp only at hw_2 hB
  obtain ⟨hP1, hK1, hD1⟩ := hB
  rw [htC] at hP1
  have hK1 := va_K.moved hvm.symm hK1
  obtain ⟨hP, hD⟩ := va_join (wr := []) (w1 := [(zo1iri bo mdc9_3 aEl (nI sz_9_4)), (zaR aEl cEl 10 fEl9_5)]) hP hD [0, 1] [] rfl rfl (by decide) (by decide) hk1 hFc hP1 hD1
  have hK := (hK.sub (tys' := []) [] rfl).app hK1
  generalize H1 = H at hP hS ⊢
  have hP : va_P (dC, dI) vwCl [(zo1iri bo mdc9_3 aEl (nI sz_9_4)), (zaR aEl cEl 10 fEl9_5)] H := hP
  have hD : va_D A [(zo1iri bo mdc9_3 aEl (nI sz_9_4)), (zaR aEl cEl 10 fEl9_5)] := hD
  have hK : va_K (dC, dI) vwCl [(cEl, .object "java/lang/Object")] s := hK
  obtain ⟨e_6, hL_7⟩ := hw_2
  obtain rfl := (e_6).symm
  refine lv_aload_n hx hb dX3_doLooks_5 rfl (lv_at hl 0 rfl) ?_
  refine lv_iload_n hx hb dX3_doLooks_6 rfl (lv_at hl 1 rfl) ?_
  refine lv_aload_n hx hb dX3_doLooks_7 rfl (lv_at hl 2 rfl) ?_
  have hPc := hP.sub (ws' := [(zo1iri bo mdc9_3 aEl (nI (sz_ + 1))), (zaR aEl cEl 10 fEl9_5)]) [0, 1] rfl
  have hDc := hD.sub (ws' := [(zo1iri bo mdc9_3 aEl (nI (sz_ + 1))), (zaR aEl cEl 10 fEl9_5)]) [0, 1] (by decide) rfl
  have hKc := hK.sub (tys' := [(cEl, .object "java/lang/Object")]) [0] rfl
  have hFc := va_free (wc := [(zo1iri bo mdc9_3 aEl (nI (sz_ + 1))), (zaR aEl cEl 10 fEl9_5)]) hD hS hA [0, 1] rfl
  refine va_calli (va_runU (As := [.int x, .ref bo]) (rest := []) ⟨hx, hb, hml, hown, hts⟩ (c_X6_doGoes_X6_1 l dC dI ad cB bS    bo aEl i0 sk sv scl x cEl fEl9_5 a0 (sz_ + 1) mdc9_3 (tl ++ [3]) H.size (by omega) (hL_7)) (va_cwO 2 hts gX3_doLooks_X6_doGoes_u42X6 rfl rfl rfl kc_X3_doLooks_X6_1_0 (by decide +kernel) ⟨Nat.le_of_ble_eq_true rfl, Nat.le_of_ble_eq_true rfl⟩) ⟨fun a U g mk q => by obtain ⟨q0, q1, qP, qK, qD, qhI_, qhB_, qhW_, qhZ⟩ := q; exact ⟨q0, q1, qP, va_K.moved (u := U) (U := U.calling g mk a) (Vm.Alike.refl U.vm) qK, qD, qhI_.same rfl rfl, qhB_.same rfl rfl, qhW_.same rfl rfl, qhZ.same rfl rfl⟩, va_recv hZ.2.1 (hZ.P hS) (ci := 8) (q := (RX6, TX6, 4)) (q0 := 0) rfl rfl, fun U hU hW => ⟨rfl, by rw [hU], by rw [hU]; exact hPc, va_K.moved hW.alike hKc, hDc.weaken (fun _ _ _ _ => trivial), hI_.call hS hU hW (fun q h => hFc q h), hB_.call hS hU hW (fun q h => hFc q h), hW_.call hS hU hW (fun q h => hFc q h), (hZ.sub [0] [] rfl rfl).call hS hU hW (fun q h => hFc q h)⟩⟩ rfl rfl hl.1 rfl (lv_room (Nat.le_of_ble_eq_true rfl)) dX3_doLooks_8 ⟨Nat.le_of_ble_eq_true rfl, Nat.le_of_ble_eq_true rfl⟩) hS (fun q _ h => hFc q h) hFc (fun r_8 u tC H1 locs htC hvm hw_9 hB hz1 hk1 hS => ?_)
  obtain ⟨mdc9_10, sz_9_11, fEl9_12⟩ := u
  try dsimp only at hw_9 hB
  obtain ⟨hP1, hK1, hD1⟩ := hB
  rw [htC] at hP1
  have hK1 := va_K.moved hvm.symm hK1
  obtain ⟨hP, hD⟩ := va_join (wr := []) (w1 := [(zo1iri bo mdc9_10 aEl (nI sz_9_11)), (zaR aEl cEl 10 fEl9_12)]) hP hD [0, 1] [] rfl rfl (by decide) (by decide) hk1 hFc hP1 hD1
  have hK := (hK.sub (tys' := []) [] rfl).app hK1
  generalize H1 = H at hP hS ⊢
  have hP : va_P (dC, dI) vwCl [(zo1iri bo mdc9_10 aEl (nI sz_9_11)), (zaR aEl cEl 10 fEl9_12)] H := hP
  have hD : va_D A [(zo1iri bo mdc9_10 aEl (nI sz_9_11)), (zaR aEl cEl 10 fEl9_12)] := hD
  have hK : va_K (dC, dI) vwCl [(cEl, .object "java/lang/Object")] s := hK
  obtain ⟨er_13, e_14, hL_15⟩ := hw_9
  obtain rfl := (e_14).symm
  subst er_13
  refine lv_iconst (v := 2) hx hb dX3_doLooks_11 (by decide) ?_
  refine lv_imul hx hb dX3_doLooks_12 ?_
  rw [hQ]
  have hP9 := hP.sub (ws' := [(zo1iri bo mdc9_10 aEl (nI ((sz_ + 1) + 3))), (zaR aEl cEl 10 fEl9_12)]) [0, 1] rfl
  have hD9 := hD.sub (ws' := [(zo1iri bo mdc9_10 aEl (nI ((sz_ + 1) + 3))), (zaR aEl cEl 10 fEl9_12)]) [0, 1] (by decide) rfl
  have hK9 := hK.sub (tys' := [(cEl, .object "java/lang/Object")]) [0] rfl
  exact W.iret (v := (-((x + nI i0) - sv)) * 2) hx hb hr (fun tQ htQ hWQ => ⟨⟨((-((x + nI i0) - sv)) * 2), (mdc9_10, ((sz_ + 1) + 3), fEl9_12), rfl, ⟨rfl, by omega, by have h9 := okL_as (hL_15); exact h9⟩, by rw [htQ]; exact hP9, va_K.moved hWQ.alike hK9, hD9⟩, hS.F htQ⟩) hS.2.2 dX3_doLooks_13

theorem kc_X3_doLooks_X6_0_0 : (.code yX3_doGoes cX3_doGoes 3 (some .int) : Cond) ∈ wsX3_doLooks := kc_of 1049 rfl rfl rfl
set_option maxHeartbeats 4000000 in
set_option maxRecDepth 100000 in
theorem c_X3_doLooks_X6_0 (l : Launch) (dC : Nat → ClassId) (dI : Nat → Nat → Nat) (ad : Nat → Nat) (cB bS : Nat)    (bo : Nat) (i0 : Nat) (sk : Int32) (sv : Int32) (scl : Int32) (x : Int32) (a0 : Nat) (mdc : Int32) (sz : Nat) : Met l yX3_doLooks wsX3_doLooks ({ frames := 6, cells := 1, slots := 10, locals := 131 } : Room) (va_Pc [.ref a0, .int x, .ref bo] (fun U => U.heap.size = sz ∧ va_P (dC, dI) vwCl [(zo1iri bo mdc bS 0)] U.heap ∧ va_K (dC, dI) vwCl [] U ∧ va_D (fun _ => True) [(zo1iri bo mdc bS 0)] ∧ Gi ad cB bS (va_A [(zo1iri bo mdc bS 0)] sz) U ∧ Gb (va_A [(zo1iri bo mdc bS 0)] sz) U ∧ Gw (va_A [(zo1iri bo mdc bS 0)] sz) U ∧ Fz dC dI [(zo8iiii a0 sk (nI i0) sv scl)] [] (va_A [(zo1iri bo mdc bS 0)] sz) U)) (va_Qi (fun (r : Int32) (u : (Int32) × (Nat) × (ClassId) × (Nat) × (Nat → Option Nat)) => match u with | (mdc9, aEl9, cEl9, sz_9, fEl9) => r = (-((x + nI i0) - sv)) * 2 ∧ sz_9 = 4 ∧ okL ad fEl9 sz_9 [3, 21, 2, 1]) (fun (u : (Int32) × (Nat) × (ClassId) × (Nat) × (Nat → Option Nat)) (t : State) => match u with | (mdc9, aEl9, cEl9, sz_9, fEl9) => va_P (dC, dI) vwCl [(zo1iri bo mdc9 aEl9 (nI sz_9)), (zaR aEl9 cEl9 10 fEl9)] t.heap ∧ va_K (dC, dI) vwCl [(cEl9, .object "java/lang/Object")] t ∧ va_D (va_A [(zo1iri bo mdc bS 0)] sz) [(zo1iri bo mdc9 aEl9 (nI sz_9)), (zaR aEl9 cEl9 10 fEl9)]) (va_A [(zo1iri bo mdc bS 0)] sz)) 1 10 (va_A [(zo1iri bo mdc bS 0)] sz) := by
  refine met_ofQ (cc := cX3_doLooks) (maxL := 3) (ret := (some .int)) (by decide) rfl ?_
  intro p e s m args below meth c s₁ Q B hml hv hQ
  obtain ⟨rfl, hsz, hP, hK, hD0, hI_, hB_, hW_, hZ⟩ := hv
  have hx := B.exec
  have hb := B.bytes
  have hr := B.returns
  have hts := atoms_spec (ws := wsX3_doLooks) B.pre
  have hown : s.vm.findClass RX3 = some m.cls := findClass_of_methodNamed B.named
  have hlocks := B.notSynchronized
  subst hsz
  have hD := hD0.self (sz := s.heap.size)
  generalize hAe : va_A [(zo1iri bo mdc bS 0)] s.heap.size = A at hD hQ hI_ hB_ hW_ hZ ⊢
  have hA : ∀ q : Nat, s.heap.size ≤ q → A q := fun q h => by rw [← hAe]; exact Or.inr h
  have hS : va_S A s.heap s.heap [] := va_S.rf
  have hl := lv_entry [.ref a0, .int x, .ref bo] (n := 3) (Nat.le_of_ble_eq_true rfl)
  rw [lg_entry_eq]
  generalize (lg_sl [.ref a0, .int x, .ref bo] ++ List.replicate (3 - (lg_sl [.ref a0, .int x, .ref bo]).length) Slot.unset).toArray = ls at hl ⊢
  generalize hag : ([.ref a0, .int x, .ref bo] : List Value).toArray = args at hts hQ ⊢
  have hl : lv_has ls 3 [(0, .ref a0), (1, .int x), (2, .ref bo)] := hl
  obtain ⟨H, hH⟩ : ∃ H : Heap, H = s.heap := ⟨_, rfl⟩
  rw [← hH] at hP
  rw [← hH]
  have hS : va_S A s.heap H [] := by rw [hH]; exact hS
  obtain ⟨locs, hlo⟩ : ∃ L : List Loc, L = [] := ⟨_, rfl⟩
  rw [← hlo] at hS
  rw [← hlo]
  clear hH hlo
  refine lv_iconst (v := 3) hx hb dX3_doLooks_0 (by decide) ?_
  refine lv_aload_n hx hb dX3_doLooks_1 rfl (lv_at hl 2 rfl) ?_
  have hPc := hP.sub (ws' := [(zo1iri bo mdc bS 0)]) [0] rfl
  have hDc := hD.sub (ws' := [(zo1iri bo mdc bS 0)]) [0] (by decide) rfl
  have hKc := hK.sub (tys' := []) [] rfl
  have hFc := va_free (wc := [(zo1iri bo mdc bS 0)]) hD hS hA [0] rfl
  refine va_callv (va_runS (As := [.int 3, .ref bo]) (rest := []) ⟨hx, hb, hml, hown, hts⟩ (c_begin0 l dC dI ad cB bS bo mdc 3 H.size (by omega)) (va_cwS 2 hts gX3_doLooks_X3_begin rfl rfl rfl hd_yX3_begin.2 ⟨Nat.le_of_ble_eq_true rfl, Nat.le_of_ble_eq_true rfl⟩) ⟨fun a U g mk q => by obtain ⟨q0, q1, qP, qK, qD, qhI_⟩ := q; exact ⟨q0, q1, qP, va_K.moved (u := U) (U := U.calling g mk a) (Vm.Alike.refl U.vm) qK, qD, qhI_.same rfl rfl⟩, fun U hU hW => ⟨rfl, by rw [hU], by rw [hU]; exact hPc, va_K.moved hW.alike hKc, hDc.weaken (fun _ _ _ _ => trivial), hI_.call hS hU hW (fun q h => hFc q h)⟩⟩ rfl rfl hl.1 rfl (lv_room (Nat.le_of_ble_eq_true rfl)) dX3_doLooks_2 ⟨Nat.le_of_ble_eq_true rfl, Nat.le_of_ble_eq_true rfl⟩) hS (fun q _ h => hFc q h) hFc (fun u tC H1 locs htC hvm hw_2 hB hz1 hk1 hS => ?_)
  obtain ⟨mdc9_3, aEl9_4, cEl9_5, sz_9_6, fEl9_7⟩ := u
  try dsimp only at hw_2 hB
  obtain ⟨hP1, hK1, hD1⟩ := hB
  rw [htC] at hP1
  have hK1 := va_K.moved hvm.symm hK1
  obtain ⟨hP, hD⟩ := va_join (wr := []) (w1 := [(zo1iri bo mdc9_3 aEl9_4 (nI sz_9_6)), (zaR aEl9_4 cEl9_5 10 fEl9_7)]) hP hD [0] [] rfl rfl (by decide) (by decide) hk1 hFc hP1 hD1
  have hK := (hK.sub (tys' := []) [] rfl).app hK1
  generalize H1 = H at hP hS ⊢
  have hP : va_P (dC, dI) vwCl [(zo1iri bo mdc9_3 aEl9_4 (nI sz_9_6)), (zaR aEl9_4 cEl9_5 10 fEl9_7)] H := hP
  have hD : va_D A [(zo1iri bo mdc9_3 aEl9_4 (nI sz_9_6)), (zaR aEl9_4 cEl9_5 10 fEl9_7)] := hD
  have hK : va_K (dC, dI) vwCl [(cEl9_5, .object "java/lang/Object")] s := hK
  refine W.widen (k := 1) (n := 10) (by omega) (by omega) ?_
  obtain ⟨e_8, hL_9⟩ := hw_2
  obtain rfl := (e_8).symm
  refine lv_aload_n hx hb dX3_doLooks_5 rfl (lv_at hl 0 rfl) ?_
  refine lv_iload_n hx hb dX3_doLooks_6 rfl (lv_at hl 1 rfl) ?_
  refine lv_aload_n hx hb dX3_doLooks_7 rfl (lv_at hl 2 rfl) ?_
  have hPc := hP.sub (ws' := [(zo1iri bo mdc9_3 aEl9_4 (nI 1)), (zaR aEl9_4 cEl9_5 10 fEl9_7)]) [0, 1] rfl
  have hDc := hD.sub (ws' := [(zo1iri bo mdc9_3 aEl9_4 (nI 1)), (zaR aEl9_4 cEl9_5 10 fEl9_7)]) [0, 1] (by decide) rfl
  have hKc := hK.sub (tys' := [(cEl9_5, .object "java/lang/Object")]) [0] rfl
  have hFc := va_free (wc := [(zo1iri bo mdc9_3 aEl9_4 (nI 1)), (zaR aEl9_4 cEl9_5 10 fEl9_7)]) hD hS hA [0, 1] rfl
  refine va_calli (va_runU (As := [.int x, .ref bo]) (rest := []) ⟨hx, hb, hml, hown, hts⟩ (c_X6_doGoes_X6_1 l dC dI ad cB bS    bo aEl9_4 i0 sk sv scl x cEl9_5 fEl9_7 a0 1 mdc9_3 ([3]) H.size (by omega) (hL_9)) (va_cwO 2 hts gX3_doLooks_X6_doGoes_u42X6 rfl rfl rfl kc_X3_doLooks_X6_0_0 (by decide +kernel) ⟨Nat.le_of_ble_eq_true rfl, Nat.le_of_ble_eq_true rfl⟩) ⟨fun a U g mk q => by obtain ⟨q0, q1, qP, qK, qD, qhI_, qhB_, qhW_, qhZ⟩ := q; exact ⟨q0, q1, qP, va_K.moved (u := U) (U := U.calling g mk a) (Vm.Alike.refl U.vm) qK, qD, qhI_.same rfl rfl, qhB_.same rfl rfl, qhW_.same rfl rfl, qhZ.same rfl rfl⟩, va_recv hZ.2.1 (hZ.P hS) (ci := 8) (q := (RX6, TX6, 4)) (q0 := 0) rfl rfl, fun U hU hW => ⟨rfl, by rw [hU], by rw [hU]; exact hPc, va_K.moved hW.alike hKc, hDc.weaken (fun _ _ _ _ => trivial), hI_.call hS hU hW (fun q h => hFc q h), hB_.call hS hU hW (fun q h => hFc q h), hW_.call hS hU hW (fun q h => hFc q h), (hZ.sub [0] [] rfl rfl).call hS hU hW (fun q h => hFc q h)⟩⟩ rfl rfl hl.1 rfl (lv_room (Nat.le_of_ble_eq_true rfl)) dX3_doLooks_8 ⟨Nat.le_of_ble_eq_true rfl, Nat.le_of_ble_eq_true rfl⟩) hS (fun q _ h => hFc q h) hFc (fun r_10 u tC H1 locs htC hvm hw_11 hB hz1 hk1 hS => ?_)
  obtain ⟨mdc9_12, sz_9_13, fEl9_14⟩ := u
  try dsimp only at hw_11 hB
  obtain ⟨hP1, hK1, hD1⟩ := hB
  rw [htC] at hP1
  have hK1 := va_K.moved hvm.symm hK1
  obtain ⟨hP, hD⟩ := va_join (wr := []) (w1 := [(zo1iri bo mdc9_12 aEl9_4 (nI sz_9_13)), (zaR aEl9_4 cEl9_5 10 fEl9_14)]) hP hD [0, 1] [] rfl rfl (by decide) (by decide) hk1 hFc hP1 hD1
  have hK := (hK.sub (tys' := []) [] rfl).app hK1
  generalize H1 = H at hP hS ⊢
  have hP : va_P (dC, dI) vwCl [(zo1iri bo mdc9_12 aEl9_4 (nI sz_9_13)), (zaR aEl9_4 cEl9_5 10 fEl9_14)] H := hP
  have hD : va_D A [(zo1iri bo mdc9_12 aEl9_4 (nI sz_9_13)), (zaR aEl9_4 cEl9_5 10 fEl9_14)] := hD
  have hK : va_K (dC, dI) vwCl [(cEl9_5, .object "java/lang/Object")] s := hK
  obtain ⟨er_15, e_16, hL_17⟩ := hw_11
  obtain rfl := (e_16).symm
  subst er_15
  refine lv_iconst (v := 2) hx hb dX3_doLooks_11 (by decide) ?_
  refine lv_imul hx hb dX3_doLooks_12 ?_
  rw [hQ]
  have hP9 := hP.sub (ws' := [(zo1iri bo mdc9_12 aEl9_4 (nI (1 + 3))), (zaR aEl9_4 cEl9_5 10 fEl9_14)]) [0, 1] rfl
  have hD9 := hD.sub (ws' := [(zo1iri bo mdc9_12 aEl9_4 (nI (1 + 3))), (zaR aEl9_4 cEl9_5 10 fEl9_14)]) [0, 1] (by decide) rfl
  have hK9 := hK.sub (tys' := [(cEl9_5, .object "java/lang/Object")]) [0] rfl
  refine W.widen (k := 1) (n := 10) (by omega) (by omega) ?_
  exact W.iret (v := (-((x + nI i0) - sv)) * 2) hx hb hr (fun tQ htQ hWQ => ⟨⟨((-((x + nI i0) - sv)) * 2), (mdc9_12, aEl9_4, cEl9_5, (1 + 3), fEl9_14), rfl, ⟨rfl, by omega, hL_17⟩, by rw [htQ]; exact hP9, va_K.moved hWQ.alike hK9, hD9⟩, hS.F htQ⟩) hS.2.2 dX3_doLooks_13

theorem kc_X3_doSees_X1_1_0 : (.fieldLink RX3 15 "MistHeaps$Heap" "number" "I" : Cond) ∈ wsX3_doSees := kc_of 231 rfl rfl rfl
theorem kc_X3_doSees_X1_1_1 : ∀ w ∈ wsX10, w ∈ wsX3_doSees := fun w h => List.mem_cons_of_mem _ (gin_wsX10 w h)
set_option maxHeartbeats 4000000 in
set_option maxRecDepth 100000 in
theorem c_X3_doSees_X1_1 (l : Launch) (dC : Nat → ClassId) (dI : Nat → Nat → Nat) (ad : Nat → Nat) (cB bS : Nat)    (bo : Nat) (aEl : Nat) (i0 : Nat) (sk : Int32) (sv : Int32) (scl : Int32) (x : Int32) (cEl : ClassId) (fEl : Nat → Option Nat) (a0 : Nat) (sz_ : Nat) (mdc : Int32) (tl : List Nat) (sz : Nat) (hsz : sz_ + 1 ≤ 10) (zL : okL ad fEl sz_ tl) : Met l yX3_doSees wsX3_doSees ({ frames := 3, cells := 0, slots := 0, locals := 65 } : Room) (va_Pc [.ref a0, .int x, .ref bo] (fun U => U.heap.size = sz ∧ va_P (dC, dI) vwCl [(zo1iri bo mdc aEl (nI sz_)), (zaR aEl cEl 10 fEl)] U.heap ∧ va_K (dC, dI) vwCl [(cEl, .object "java/lang/Object")] U ∧ va_D (fun _ => True) [(zo1iri bo mdc aEl (nI sz_)), (zaR aEl cEl 10 fEl)] ∧ Gi ad cB bS (va_A [(zo1iri bo mdc aEl (nI sz_)), (zaR aEl cEl 10 fEl)] sz) U ∧ Gb (va_A [(zo1iri bo mdc aEl (nI sz_)), (zaR aEl cEl 10 fEl)] sz) U ∧ Gw (va_A [(zo1iri bo mdc aEl (nI sz_)), (zaR aEl cEl 10 fEl)] sz) U ∧ Fz dC dI [(zo3iiii a0 sk (nI i0) sv scl)] [] (va_A [(zo1iri bo mdc aEl (nI sz_)), (zaR aEl cEl 10 fEl)] sz) U)) (va_Qi (fun (r : Int32) (u : (Int32) × (Nat) × (Nat → Option Nat)) => match u with | (mdc9, sz_9, fEl9) => r = x + nI i0 ∧ sz_9 = sz_ + 1 ∧ okL ad fEl9 sz_9 (tl ++ [1])) (fun (u : (Int32) × (Nat) × (Nat → Option Nat)) (t : State) => match u with | (mdc9, sz_9, fEl9) => va_P (dC, dI) vwCl [(zo1iri bo mdc9 aEl (nI sz_9)), (zaR aEl cEl 10 fEl9)] t.heap ∧ va_K (dC, dI) vwCl [(cEl, .object "java/lang/Object")] t ∧ va_D (va_A [(zo1iri bo mdc aEl (nI sz_)), (zaR aEl cEl 10 fEl)] sz) [(zo1iri bo mdc9 aEl (nI sz_9)), (zaR aEl cEl 10 fEl9)]) (va_A [(zo1iri bo mdc aEl (nI sz_)), (zaR aEl cEl 10 fEl)] sz)) 0 0 (va_A [(zo1iri bo mdc aEl (nI sz_)), (zaR aEl cEl 10 fEl)] sz) := by
  refine met_ofQ (cc := cX3_doSees) (maxL := 3) (ret := (some .int)) (by decide) rfl ?_
  intro p e s m args below meth c s₁ Q B hml hv hQ
  obtain ⟨rfl, hsz, hP, hK, hD0, hI_, hB_, hW_, hZ⟩ := hv
  have hx := B.exec
  have hb := B.bytes
  have hr := B.returns
  have hts := atoms_spec (ws := wsX3_doSees) B.pre
  have hown : s.vm.findClass RX3 = some m.cls := findClass_of_methodNamed B.named
  have hlocks := B.notSynchronized
  subst hsz
  have hD := hD0.self (sz := s.heap.size)
  generalize hAe : va_A [(zo1iri bo mdc aEl (nI sz_)), (zaR aEl cEl 10 fEl)] s.heap.size = A at hD hQ hI_ hB_ hW_ hZ ⊢
  have hA : ∀ q : Nat, s.heap.size ≤ q → A q := fun q h => by rw [← hAe]; exact Or.inr h
  have hS : va_S A s.heap s.heap [] := va_S.rf
  have hl := lv_entry [.ref a0, .int x, .ref bo] (n := 3) (Nat.le_of_ble_eq_true rfl)
  rw [lg_entry_eq]
  generalize (lg_sl [.ref a0, .int x, .ref bo] ++ List.replicate (3 - (lg_sl [.ref a0, .int x, .ref bo]).length) Slot.unset).toArray = ls at hl ⊢
  generalize hag : ([.ref a0, .int x, .ref bo] : List Value).toArray = args at hts hQ ⊢
  have hl : lv_has ls 3 [(0, .ref a0), (1, .int x), (2, .ref bo)] := hl
  obtain ⟨H, hH⟩ : ∃ H : Heap, H = s.heap := ⟨_, rfl⟩
  rw [← hH] at hP
  rw [← hH]
  have hS : va_S A s.heap H [] := by rw [hH]; exact hS
  obtain ⟨locs, hlo⟩ : ∃ L : List Loc, L = [] := ⟨_, rfl⟩
  rw [← hlo] at hS
  rw [← hlo]
  clear hH hlo
  refine lv_iconst (v := 1) hx hb dX3_doSees_0 (by decide) ?_
  refine lv_aload_n hx hb dX3_doSees_1 rfl (lv_at hl 2 rfl) ?_
  have hPc := hP.sub (ws' := [(zo1iri bo mdc aEl (nI sz_)), (zaR aEl cEl 10 fEl)]) [0, 1] rfl
  have hDc := hD.sub (ws' := [(zo1iri bo mdc aEl (nI sz_)), (zaR aEl cEl 10 fEl)]) [0, 1] (by decide) rfl
  have hKc := hK.sub (tys' := [(cEl, .object "java/lang/Object")]) [0] rfl
  have hFc := va_free (wc := [(zo1iri bo mdc aEl (nI sz_)), (zaR aEl cEl 10 fEl)]) hD hS hA [0, 1] rfl
  refine va_callv (va_runS (As := [.int 1, .ref bo]) (rest := []) ⟨hx, hb, hml, hown, hts⟩ (c_begin1 l dC dI ad cB bS bo aEl 1 cEl fEl sz_ mdc tl H.size (by omega) (by omega) (zL)) (va_cwS 2 hts gX3_doSees_X3_begin rfl rfl rfl hd_yX3_begin.2 ⟨Nat.le_of_ble_eq_true rfl, Nat.le_of_ble_eq_true rfl⟩) ⟨fun a U g mk q => by obtain ⟨q0, q1, qP, qK, qD, qhI_⟩ := q; exact ⟨q0, q1, qP, va_K.moved (u := U) (U := U.calling g mk a) (Vm.Alike.refl U.vm) qK, qD, qhI_.same rfl rfl⟩, fun U hU hW => ⟨rfl, by rw [hU], by rw [hU]; exact hPc, va_K.moved hW.alike hKc, hDc.weaken (fun _ _ _ _ => trivial), hI_.call hS hU hW (fun q h => hFc q h)⟩⟩ rfl rfl hl.1 rfl (lv_room (Nat.le_of_ble_eq_true rfl)) dX3_doSees_2 ⟨Nat.le_of_ble_eq_true rfl, Nat.le_of_ble_eq_true rfl⟩) hS (fun q _ h => hFc q h) hFc (fun u tC H1 locs htC hvm hw_2 hB hz1 hk1 hS => ?_)
  obtain ⟨mdc9_3, sz_9_4, fEl9_5⟩ := u
  try dsimp only at hw_2 hB
  obtain ⟨hP1, hK1, hD1⟩ := hB
  rw [htC] at hP1
  have hK1 := va_K.moved hvm.symm hK1
  obtain ⟨hP, hD⟩ := va_join (wr := []) (w1 := [(zo1iri bo mdc9_3 aEl (nI sz_9_4)), (zaR aEl cEl 10 fEl9_5)]) hP hD [0, 1] [] rfl rfl (by decide) (by decide) hk1 hFc hP1 hD1
  have hK := (hK.sub (tys' := []) [] rfl).app hK1
  generalize H1 = H at hP hS ⊢
  have hP : va_P (dC, dI) vwCl [(zo1iri bo mdc9_3 aEl (nI sz_9_4)), (zaR aEl cEl 10 fEl9_5)] H := hP
  have hD : va_D A [(zo1iri bo mdc9_3 aEl (nI sz_9_4)), (zaR aEl cEl 10 fEl9_5)] := hD
  have hK : va_K (dC, dI) vwCl [(cEl, .object "java/lang/Object")] s := hK
  obtain ⟨e_6, hL_7⟩ := hw_2
  obtain rfl := (e_6).symm
  refine lv_iload_n hx hb dX3_doSees_5 rfl (lv_at hl 1 rfl) ?_
  refine lv_aload_n hx hb dX3_doSees_6 rfl (lv_at hl 0 rfl) ?_
  refine va_get (D := (dC, dI)) (ci := 3) (v := .int (nI i0)) (C := RX1) (T := TX1) (N := 4) hx hb hts kc_X3_doSees_X1_1_1 hown hZ.2.1 (hZ.P hS) 0 rfl rfl 1 (by decide) (hts (.fieldLink RX3 15 "MistHeaps$Heap" "number" "I") kc_X3_doSees_X1_1_0) (fun _ h9 => h9) rfl dX3_doSees_7 ?_
  refine lv_iadd hx hb dX3_doSees_10 ?_
  rw [hQ]
  have hP9 := hP.sub (ws' := [(zo1iri bo mdc9_3 aEl (nI (sz_ + 1))), (zaR aEl cEl 10 fEl9_5)]) [0, 1] rfl
  have hD9 := hD.sub (ws' := [(zo1iri bo mdc9_3 aEl (nI (sz_ + 1))), (zaR aEl cEl 10 fEl9_5)]) [0, 1] (by decide) rfl
  have hK9 := hK.sub (tys' := [(cEl, .object "java/lang/Object")]) [0] rfl
  exact W.iret (v := x + (nI i0)) hx hb hr (fun tQ htQ hWQ => ⟨⟨(x + (nI i0)), (mdc9_3, (sz_ + 1), fEl9_5), rfl, ⟨rfl, by omega, by have h9 := hL_7; exact h9⟩, by rw [htQ]; exact hP9, va_K.moved hWQ.alike hK9, hD9⟩, hS.F htQ⟩) hS.2.2 dX3_doSees_11

theorem kc_X3_doSees_X1_0_0 : (.fieldLink RX3 15 "MistHeaps$Heap" "number" "I" : Cond) ∈ wsX3_doSees := kc_of 231 rfl rfl rfl
theorem kc_X3_doSees_X1_0_1 : ∀ w ∈ wsX10, w ∈ wsX3_doSees := fun w h => List.mem_cons_of_mem _ (gin_wsX10 w h)
set_option maxHeartbeats 4000000 in
set_option maxRecDepth 100000 in
theorem c_X3_doSees_X1_0 (l : Launch) (dC : Nat → ClassId) (dI : Nat → Nat → Nat) (ad : Nat → Nat) (cB bS : Nat)    (bo : Nat) (i0 : Nat) (sk : Int32) (sv : Int32) (scl : Int32) (x : Int32) (a0 : Nat) (mdc : Int32) (sz : Nat) : Met l yX3_doSees wsX3_doSees ({ frames := 6, cells := 1, slots := 10, locals := 122 } : Room) (va_Pc [.ref a0, .int x, .ref bo] (fun U => U.heap.size = sz ∧ va_P (dC, dI) vwCl [(zo1iri bo mdc bS 0)] U.heap ∧ va_K (dC, dI) vwCl [] U ∧ va_D (fun _ => True) [(zo1iri bo mdc bS 0)] ∧ Gi ad cB bS (va_A [(zo1iri bo mdc bS 0)] sz) U ∧ Gb (va_A [(zo1iri bo mdc bS 0)] sz) U ∧ Gw (va_A [(zo1iri bo mdc bS 0)] sz) U ∧ Fz dC dI [(zo3iiii a0 sk (nI i0) sv scl)] [] (va_A [(zo1iri bo mdc bS 0)] sz) U)) (va_Qi (fun (r : Int32) (u : (Int32) × (Nat) × (ClassId) × (Nat) × (Nat → Option Nat)) => match u with | (mdc9, aEl9, cEl9, sz_9, fEl9) => r = x + nI i0 ∧ sz_9 = 1 ∧ okL ad fEl9 sz_9 [1]) (fun (u : (Int32) × (Nat) × (ClassId) × (Nat) × (Nat → Option Nat)) (t : State) => match u with | (mdc9, aEl9, cEl9, sz_9, fEl9) => va_P (dC, dI) vwCl [(zo1iri bo mdc9 aEl9 (nI sz_9)), (zaR aEl9 cEl9 10 fEl9)] t.heap ∧ va_K (dC, dI) vwCl [(cEl9, .object "java/lang/Object")] t ∧ va_D (va_A [(zo1iri bo mdc bS 0)] sz) [(zo1iri bo mdc9 aEl9 (nI sz_9)), (zaR aEl9 cEl9 10 fEl9)]) (va_A [(zo1iri bo mdc bS 0)] sz)) 1 10 (va_A [(zo1iri bo mdc bS 0)] sz) := by
  refine met_ofQ (cc := cX3_doSees) (maxL := 3) (ret := (some .int)) (by decide) rfl ?_
  intro p e s m args below meth c s₁ Q B hml hv hQ
  obtain ⟨rfl, hsz, hP, hK, hD0, hI_, hB_, hW_, hZ⟩ := hv
  have hx := B.exec
  have hb := B.bytes
  have hr := B.returns
  have hts := atoms_spec (ws := wsX3_doSees) B.pre
  have hown : s.vm.findClass RX3 = some m.cls := findClass_of_methodNamed B.named
  have hlocks := B.notSynchronized
  subst hsz
  have hD := hD0.self (sz := s.heap.size)
  generalize hAe : va_A [(zo1iri bo mdc bS 0)] s.heap.size = A at hD hQ hI_ hB_ hW_ hZ ⊢
  have hA : ∀ q : Nat, s.heap.size ≤ q → A q := fun q h => by rw [← hAe]; exact Or.inr h
  have hS : va_S A s.heap s.heap [] := va_S.rf
  have hl := lv_entry [.ref a0, .int x, .ref bo] (n := 3) (Nat.le_of_ble_eq_true rfl)
  rw [lg_entry_eq]
  generalize (lg_sl [.ref a0, .int x, .ref bo] ++ List.replicate (3 - (lg_sl [.ref a0, .int x, .ref bo]).length) Slot.unset).toArray = ls at hl ⊢
  generalize hag : ([.ref a0, .int x, .ref bo] : List Value).toArray = args at hts hQ ⊢
  have hl : lv_has ls 3 [(0, .ref a0), (1, .int x), (2, .ref bo)] := hl
  obtain ⟨H, hH⟩ : ∃ H : Heap, H = s.heap := ⟨_, rfl⟩
  rw [← hH] at hP
  rw [← hH]
  have hS : va_S A s.heap H [] := by rw [hH]; exact hS
  obtain ⟨locs, hlo⟩ : ∃ L : List Loc, L = [] := ⟨_, rfl⟩
  rw [← hlo] at hS
  rw [← hlo]
  clear hH hlo
  refine lv_iconst (v := 1) hx hb dX3_doSees_0 (by decide) ?_
  refine lv_aload_n hx hb dX3_doSees_1 rfl (lv_at hl 2 rfl) ?_
  have hPc := hP.sub (ws' := [(zo1iri bo mdc bS 0)]) [0] rfl
  have hDc := hD.sub (ws' := [(zo1iri bo mdc bS 0)]) [0] (by decide) rfl
  have hKc := hK.sub (tys' := []) [] rfl
  have hFc := va_free (wc := [(zo1iri bo mdc bS 0)]) hD hS hA [0] rfl
  refine va_callv (va_runS (As := [.int 1, .ref bo]) (rest := []) ⟨hx, hb, hml, hown, hts⟩ (c_begin0 l dC dI ad cB bS bo mdc 1 H.size (by omega)) (va_cwS 2 hts gX3_doSees_X3_begin rfl rfl rfl hd_yX3_begin.2 ⟨Nat.le_of_ble_eq_true rfl, Nat.le_of_ble_eq_true rfl⟩) ⟨fun a U g mk q => by obtain ⟨q0, q1, qP, qK, qD, qhI_⟩ := q; exact ⟨q0, q1, qP, va_K.moved (u := U) (U := U.calling g mk a) (Vm.Alike.refl U.vm) qK, qD, qhI_.same rfl rfl⟩, fun U hU hW => ⟨rfl, by rw [hU], by rw [hU]; exact hPc, va_K.moved hW.alike hKc, hDc.weaken (fun _ _ _ _ => trivial), hI_.call hS hU hW (fun q h => hFc q h)⟩⟩ rfl rfl hl.1 rfl (lv_room (Nat.le_of_ble_eq_true rfl)) dX3_doSees_2 ⟨Nat.le_of_ble_eq_true rfl, Nat.le_of_ble_eq_true rfl⟩) hS (fun q _ h => hFc q h) hFc (fun u tC H1 locs htC hvm hw_2 hB hz1 hk1 hS => ?_)
  obtain ⟨mdc9_3, aEl9_4, cEl9_5, sz_9_6, fEl9_7⟩ := u
  try dsimp only at hw_2 hB
  obtain ⟨hP1, hK1, hD1⟩ := hB
  rw [htC] at hP1
  have hK1 := va_K.moved hvm.symm hK1
  obtain ⟨hP, hD⟩ := va_join (wr := []) (w1 := [(zo1iri bo mdc9_3 aEl9_4 (nI sz_9_6)), (zaR aEl9_4 cEl9_5 10 fEl9_7)]) hP hD [0] [] rfl rfl (by decide) (by decide) hk1 hFc hP1 hD1
  have hK := (hK.sub (tys' := []) [] rfl).app hK1
  generalize H1 = H at hP hS ⊢
  have hP : va_P (dC, dI) vwCl [(zo1iri bo mdc9_3 aEl9_4 (nI sz_9_6)), (zaR aEl9_4 cEl9_5 10 fEl9_7)] H := hP
  have hD : va_D A [(zo1iri bo mdc9_3 aEl9_4 (nI sz_9_6)), (zaR aEl9_4 cEl9_5 10 fEl9_7)] := hD
  have hK : va_K (dC, dI) vwCl [(cEl9_5, .object "java/lang/Object")] s := hK
  refine W.widen (k := 1) (n := 10) (by omega) (by omega) ?_
  obtain ⟨e_8, hL_9⟩ := hw_2
  obtain rfl := (e_8).symm
  refine lv_iload_n hx hb dX3_doSees_5 rfl (lv_at hl 1 rfl) ?_
  refine lv_aload_n hx hb dX3_doSees_6 rfl (lv_at hl 0 rfl) ?_
  refine va_get (D := (dC, dI)) (ci := 3) (v := .int (nI i0)) (C := RX1) (T := TX1) (N := 4) hx hb hts kc_X3_doSees_X1_0_1 hown hZ.2.1 (hZ.P hS) 0 rfl rfl 1 (by decide) (hts (.fieldLink RX3 15 "MistHeaps$Heap" "number" "I") kc_X3_doSees_X1_0_0) (fun _ h9 => h9) rfl dX3_doSees_7 ?_
  refine lv_iadd hx hb dX3_doSees_10 ?_
  rw [hQ]
  have hP9 := hP.sub (ws' := [(zo1iri bo mdc9_3 aEl9_4 (nI 1)), (zaR aEl9_4 cEl9_5 10 fEl9_7)]) [0, 1] rfl
  have hD9 := hD.sub (ws' := [(zo1iri bo mdc9_3 aEl9_4 (nI 1)), (zaR aEl9_4 cEl9_5 10 fEl9_7)]) [0, 1] (by decide) rfl
  have hK9 := hK.sub (tys' := [(cEl9_5, .object "java/lang/Object")]) [0] rfl
  refine W.widen (k := 1) (n := 10) (by omega) (by omega) ?_
  exact W.iret (v := x + (nI i0)) hx hb hr (fun tQ htQ hWQ => ⟨⟨(x + (nI i0)), (mdc9_3, aEl9_4, cEl9_5, 1, fEl9_7), rfl, ⟨rfl, by omega, hL_9⟩, by rw [htQ]; exact hP9, va_K.moved hWQ.alike hK9, hD9⟩, hS.F htQ⟩) hS.2.2 dX3_doSees_11

theorem kc_X3_doGoes_X1_1_0 : (.fieldLink RX3 18 "MistHeaps$Heap" "v" "I" : Cond) ∈ wsX3_doGoes := kc_of 236 rfl rfl rfl
theorem kc_X3_doGoes_X1_1_1 : ∀ w ∈ wsX10, w ∈ wsX3_doGoes := fun w h => List.mem_cons_of_mem _ (gin_wsX10 w h)
set_option maxHeartbeats 4000000 in
set_option maxRecDepth 100000 in
theorem c_X3_doGoes_X1_1 (l : Launch) (dC : Nat → ClassId) (dI : Nat → Nat → Nat) (ad : Nat → Nat) (cB bS : Nat)    (bo : Nat) (aEl : Nat) (i0 : Nat) (sk : Int32) (sv : Int32) (scl : Int32) (x : Int32) (cEl : ClassId) (fEl : Nat → Option Nat) (a0 : Nat) (sz_ : Nat) (mdc : Int32) (tl : List Nat) (sz : Nat) (hsz : sz_ + 2 ≤ 10) (zL : okL ad fEl sz_ tl) : Met l yX3_doGoes wsX3_doGoes ({ frames := 4, cells := 0, slots := 0, locals := 87 } : Room) (va_Pc [.ref a0, .int x, .ref bo] (fun U => U.heap.size = sz ∧ va_P (dC, dI) vwCl [(zo1iri bo mdc aEl (nI sz_)), (zaR aEl cEl 10 fEl)] U.heap ∧ va_K (dC, dI) vwCl [(cEl, .object "java/lang/Object")] U ∧ va_D (fun _ => True) [(zo1iri bo mdc aEl (nI sz_)), (zaR aEl cEl 10 fEl)] ∧ Gi ad cB bS (va_A [(zo1iri bo mdc aEl (nI sz_)), (zaR aEl cEl 10 fEl)] sz) U ∧ Gb (va_A [(zo1iri bo mdc aEl (nI sz_)), (zaR aEl cEl 10 fEl)] sz) U ∧ Gw (va_A [(zo1iri bo mdc aEl (nI sz_)), (zaR aEl cEl 10 fEl)] sz) U ∧ Fz dC dI [(zo3iiii a0 sk (nI i0) sv scl)] [] (va_A [(zo1iri bo mdc aEl (nI sz_)), (zaR aEl cEl 10 fEl)] sz) U)) (va_Qi (fun (r : Int32) (u : (Int32) × (Nat) × (Nat → Option Nat)) => match u with | (mdc9, sz_9, fEl9) => r = (x + nI i0) - sv ∧ sz_9 = sz_ + 2 ∧ okL ad fEl9 sz_9 (tl ++ [2, 1])) (fun (u : (Int32) × (Nat) × (Nat → Option Nat)) (t : State) => match u with | (mdc9, sz_9, fEl9) => va_P (dC, dI) vwCl [(zo1iri bo mdc9 aEl (nI sz_9)), (zaR aEl cEl 10 fEl9)] t.heap ∧ va_K (dC, dI) vwCl [(cEl, .object "java/lang/Object")] t ∧ va_D (va_A [(zo1iri bo mdc aEl (nI sz_)), (zaR aEl cEl 10 fEl)] sz) [(zo1iri bo mdc9 aEl (nI sz_9)), (zaR aEl cEl 10 fEl9)]) (va_A [(zo1iri bo mdc aEl (nI sz_)), (zaR aEl cEl 10 fEl)] sz)) 0 0 (va_A [(zo1iri bo mdc aEl (nI sz_)), (zaR aEl cEl 10 fEl)] sz) := by
  refine met_ofQ (cc := cX3_doGoes) (maxL := 3) (ret := (some .int)) (by decide) rfl ?_
  intro p e s m args below meth c s₁ Q B hml hv hQ
  obtain ⟨rfl, hsz, hP, hK, hD0, hI_, hB_, hW_, hZ⟩ := hv
  have hx := B.exec
  have hb := B.bytes
  have hr := B.returns
  have hts := atoms_spec (ws := wsX3_doGoes) B.pre
  have hown : s.vm.findClass RX3 = some m.cls := findClass_of_methodNamed B.named
  have hlocks := B.notSynchronized
  subst hsz
  have hD := hD0.self (sz := s.heap.size)
  generalize hAe : va_A [(zo1iri bo mdc aEl (nI sz_)), (zaR aEl cEl 10 fEl)] s.heap.size = A at hD hQ hI_ hB_ hW_ hZ ⊢
  have hA : ∀ q : Nat, s.heap.size ≤ q → A q := fun q h => by rw [← hAe]; exact Or.inr h
  have hS : va_S A s.heap s.heap [] := va_S.rf
  have hl := lv_entry [.ref a0, .int x, .ref bo] (n := 3) (Nat.le_of_ble_eq_true rfl)
  rw [lg_entry_eq]
  generalize (lg_sl [.ref a0, .int x, .ref bo] ++ List.replicate (3 - (lg_sl [.ref a0, .int x, .ref bo]).length) Slot.unset).toArray = ls at hl ⊢
  generalize hag : ([.ref a0, .int x, .ref bo] : List Value).toArray = args at hts hQ ⊢
  have hl : lv_has ls 3 [(0, .ref a0), (1, .int x), (2, .ref bo)] := hl
  obtain ⟨H, hH⟩ : ∃ H : Heap, H = s.heap := ⟨_, rfl⟩
  rw [← hH] at hP
  rw [← hH]
  have hS : va_S A s.heap H [] := by rw [hH]; exact hS
  obtain ⟨locs, hlo⟩ : ∃ L : List Loc, L = [] := ⟨_, rfl⟩
  rw [← hlo] at hS
  rw [← hlo]
  clear hH hlo
  refine lv_iconst (v := 2) hx hb dX3_doGoes_0 (by decide) ?_
  refine lv_aload_n hx hb dX3_doGoes_1 rfl (lv_at hl 2 rfl) ?_
  have hPc := hP.sub (ws' := [(zo1iri bo mdc aEl (nI sz_)), (zaR aEl cEl 10 fEl)]) [0, 1] rfl
  have hDc := hD.sub (ws' := [(zo1iri bo mdc aEl (nI sz_)), (zaR aEl cEl 10 fEl)]) [0, 1] (by decide) rfl
  have hKc := hK.sub (tys' := [(cEl, .object "java/lang/Object")]) [0] rfl
  have hFc := va_free (wc := [(zo1iri bo mdc aEl (nI sz_)), (zaR aEl cEl 10 fEl)]) hD hS hA [0, 1] rfl
  refine va_callv (va_runS (As := [.int 2, .ref bo]) (rest := []) ⟨hx, hb, hml, hown, hts⟩ (c_begin1 l dC dI ad cB bS bo aEl 2 cEl fEl sz_ mdc tl H.size (by omega) (by omega) (zL)) (va_cwS 2 hts gX3_doGoes_X3_begin rfl rfl rfl hd_yX3_begin.2 ⟨Nat.le_of_ble_eq_true rfl, Nat.le_of_ble_eq_true rfl⟩) ⟨fun a U g mk q => by obtain ⟨q0, q1, qP, qK, qD, qhI_⟩ := q; exact ⟨q0, q1, qP, va_K.moved (u := U) (U := U.calling g mk a) (Vm.Alike.refl U.vm) qK, qD, qhI_.same rfl rfl⟩, fun U hU hW => ⟨rfl, by rw [hU], by rw [hU]; exact hPc, va_K.moved hW.alike hKc, hDc.weaken (fun _ _ _ _ => trivial), hI_.call hS hU hW (fun q h => hFc q h)⟩⟩ rfl rfl hl.1 rfl (lv_room (Nat.le_of_ble_eq_true rfl)) dX3_doGoes_2 ⟨Nat.le_of_ble_eq_true rfl, Nat.le_of_ble_eq_true rfl⟩) hS (fun q _ h => hFc q h) hFc (fun u tC H1 locs htC hvm hw_2 hB hz1 hk1 hS => ?_)
  obtain ⟨mdc9_3, sz_9_4, fEl9_5⟩ := u
  try dsimp only at hw_2 hB
  obtain ⟨hP1, hK1, hD1⟩ := hB
  rw [htC] at hP1
  have hK1 := va_K.moved hvm.symm hK1
  obtain ⟨hP, hD⟩ := va_join (wr := []) (w1 := [(zo1iri bo mdc9_3 aEl (nI sz_9_4)), (zaR aEl cEl 10 fEl9_5)]) hP hD [0, 1] [] rfl rfl (by decide) (by decide) hk1 hFc hP1 hD1
  have hK := (hK.sub (tys' := []) [] rfl).app hK1
  generalize H1 = H at hP hS ⊢
  have hP : va_P (dC, dI) vwCl [(zo1iri bo mdc9_3 aEl (nI sz_9_4)), (zaR aEl cEl 10 fEl9_5)] H := hP
  have hD : va_D A [(zo1iri bo mdc9_3 aEl (nI sz_9_4)), (zaR aEl cEl 10 fEl9_5)] := hD
  have hK : va_K (dC, dI) vwCl [(cEl, .object "java/lang/Object")] s := hK
  obtain ⟨e_6, hL_7⟩ := hw_2
  obtain rfl := (e_6).symm
  refine lv_aload_n hx hb dX3_doGoes_5 rfl (lv_at hl 0 rfl) ?_
  refine lv_iload_n hx hb dX3_doGoes_6 rfl (lv_at hl 1 rfl) ?_
  refine lv_aload_n hx hb dX3_doGoes_7 rfl (lv_at hl 2 rfl) ?_
  have hPc := hP.sub (ws' := [(zo1iri bo mdc9_3 aEl (nI (sz_ + 1))), (zaR aEl cEl 10 fEl9_5)]) [0, 1] rfl
  have hDc := hD.sub (ws' := [(zo1iri bo mdc9_3 aEl (nI (sz_ + 1))), (zaR aEl cEl 10 fEl9_5)]) [0, 1] (by decide) rfl
  have hKc := hK.sub (tys' := [(cEl, .object "java/lang/Object")]) [0] rfl
  have hFc := va_free (wc := [(zo1iri bo mdc9_3 aEl (nI (sz_ + 1))), (zaR aEl cEl 10 fEl9_5)]) hD hS hA [0, 1] rfl
  refine va_calli (va_runU (As := [.int x, .ref bo]) (rest := []) ⟨hx, hb, hml, hown, hts⟩ (c_X3_doSees_X1_1 l dC dI ad cB bS    bo aEl i0 sk sv scl x cEl fEl9_5 a0 (sz_ + 1) mdc9_3 (tl ++ [2]) H.size (by omega) (hL_7)) (va_cwU 2 hts gX3_doGoes_X3_doSees_u38X1 rfl rfl rfl rfl (by decide +kernel) ⟨Nat.le_of_ble_eq_true rfl, Nat.le_of_ble_eq_true rfl⟩) ⟨fun a U g mk q => by obtain ⟨q0, q1, qP, qK, qD, qhI_, qhB_, qhW_, qhZ⟩ := q; exact ⟨q0, q1, qP, va_K.moved (u := U) (U := U.calling g mk a) (Vm.Alike.refl U.vm) qK, qD, qhI_.same rfl rfl, qhB_.same rfl rfl, qhW_.same rfl rfl, qhZ.same rfl rfl⟩, va_recv hZ.2.1 (hZ.P hS) (ci := 3) (q := (RX1, TX1, 4)) (q0 := 0) rfl rfl, fun U hU hW => ⟨rfl, by rw [hU], by rw [hU]; exact hPc, va_K.moved hW.alike hKc, hDc.weaken (fun _ _ _ _ => trivial), hI_.call hS hU hW (fun q h => hFc q h), hB_.call hS hU hW (fun q h => hFc q h), hW_.call hS hU hW (fun q h => hFc q h), (hZ.sub [0] [] rfl rfl).call hS hU hW (fun q h => hFc q h)⟩⟩ rfl rfl hl.1 rfl (lv_room (Nat.le_of_ble_eq_true rfl)) dX3_doGoes_8 ⟨Nat.le_of_ble_eq_true rfl, Nat.le_of_ble_eq_true rfl⟩) hS (fun q _ h => hFc q h) hFc (fun r_8 u tC H1 locs htC hvm hw_9 hB hz1 hk1 hS => ?_)
  obtain ⟨mdc9_10, sz_9_11, fEl9_12⟩ := u
  try dsimp only at hw_9 hB
  obtain ⟨hP1, hK1, hD1⟩ := hB
  rw [htC] at hP1
  have hK1 := va_K.moved hvm.symm hK1
  obtain ⟨hP, hD⟩ := va_join (wr := []) (w1 := [(zo1iri bo mdc9_10 aEl (nI sz_9_11)), (zaR aEl cEl 10 fEl9_12)]) hP hD [0, 1] [] rfl rfl (by decide) (by decide) hk1 hFc hP1 hD1
  have hK := (hK.sub (tys' := []) [] rfl).app hK1
  generalize H1 = H at hP hS ⊢
  have hP : va_P (dC, dI) vwCl [(zo1iri bo mdc9_10 aEl (nI sz_9_11)), (zaR aEl cEl 10 fEl9_12)] H := hP
  have hD : va_D A [(zo1iri bo mdc9_10 aEl (nI sz_9_11)), (zaR aEl cEl 10 fEl9_12)] := hD
  have hK : va_K (dC, dI) vwCl [(cEl, .object "java/lang/Object")] s := hK
  obtain ⟨er_13, e_14, hL_15⟩ := hw_9
  obtain rfl := (e_14).symm
  subst er_13
  refine lv_aload_n hx hb dX3_doGoes_11 rfl (lv_at hl 0 rfl) ?_
  refine va_get (D := (dC, dI)) (ci := 3) (v := .int sv) (C := RX1) (T := TX1) (N := 4) hx hb hts kc_X3_doGoes_X1_1_1 hown hZ.2.1 (hZ.P hS) 0 rfl rfl 2 (by decide) (hts (.fieldLink RX3 18 "MistHeaps$Heap" "v" "I") kc_X3_doGoes_X1_1_0) (fun _ h9 => h9) rfl dX3_doGoes_12 ?_
  refine lv_isub hx hb dX3_doGoes_15 ?_
  rw [hQ]
  have hP9 := hP.sub (ws' := [(zo1iri bo mdc9_10 aEl (nI ((sz_ + 1) + 1))), (zaR aEl cEl 10 fEl9_12)]) [0, 1] rfl
  have hD9 := hD.sub (ws' := [(zo1iri bo mdc9_10 aEl (nI ((sz_ + 1) + 1))), (zaR aEl cEl 10 fEl9_12)]) [0, 1] (by decide) rfl
  have hK9 := hK.sub (tys' := [(cEl, .object "java/lang/Object")]) [0] rfl
  exact W.iret (v := (x + nI i0) - sv) hx hb hr (fun tQ htQ hWQ => ⟨⟨((x + nI i0) - sv), (mdc9_10, ((sz_ + 1) + 1), fEl9_12), rfl, ⟨rfl, by omega, by have h9 := okL_as (hL_15); exact h9⟩, by rw [htQ]; exact hP9, va_K.moved hWQ.alike hK9, hD9⟩, hS.F htQ⟩) hS.2.2 dX3_doGoes_16

theorem kc_X3_doGoes_X1_0_0 : (.fieldLink RX3 18 "MistHeaps$Heap" "v" "I" : Cond) ∈ wsX3_doGoes := kc_of 236 rfl rfl rfl
theorem kc_X3_doGoes_X1_0_1 : ∀ w ∈ wsX10, w ∈ wsX3_doGoes := fun w h => List.mem_cons_of_mem _ (gin_wsX10 w h)
set_option maxHeartbeats 4000000 in
set_option maxRecDepth 100000 in
theorem c_X3_doGoes_X1_0 (l : Launch) (dC : Nat → ClassId) (dI : Nat → Nat → Nat) (ad : Nat → Nat) (cB bS : Nat)    (bo : Nat) (i0 : Nat) (sk : Int32) (sv : Int32) (scl : Int32) (x : Int32) (a0 : Nat) (mdc : Int32) (sz : Nat) : Met l yX3_doGoes wsX3_doGoes ({ frames := 6, cells := 1, slots := 10, locals := 122 } : Room) (va_Pc [.ref a0, .int x, .ref bo] (fun U => U.heap.size = sz ∧ va_P (dC, dI) vwCl [(zo1iri bo mdc bS 0)] U.heap ∧ va_K (dC, dI) vwCl [] U ∧ va_D (fun _ => True) [(zo1iri bo mdc bS 0)] ∧ Gi ad cB bS (va_A [(zo1iri bo mdc bS 0)] sz) U ∧ Gb (va_A [(zo1iri bo mdc bS 0)] sz) U ∧ Gw (va_A [(zo1iri bo mdc bS 0)] sz) U ∧ Fz dC dI [(zo3iiii a0 sk (nI i0) sv scl)] [] (va_A [(zo1iri bo mdc bS 0)] sz) U)) (va_Qi (fun (r : Int32) (u : (Int32) × (Nat) × (ClassId) × (Nat) × (Nat → Option Nat)) => match u with | (mdc9, aEl9, cEl9, sz_9, fEl9) => r = (x + nI i0) - sv ∧ sz_9 = 2 ∧ okL ad fEl9 sz_9 [2, 1]) (fun (u : (Int32) × (Nat) × (ClassId) × (Nat) × (Nat → Option Nat)) (t : State) => match u with | (mdc9, aEl9, cEl9, sz_9, fEl9) => va_P (dC, dI) vwCl [(zo1iri bo mdc9 aEl9 (nI sz_9)), (zaR aEl9 cEl9 10 fEl9)] t.heap ∧ va_K (dC, dI) vwCl [(cEl9, .object "java/lang/Object")] t ∧ va_D (va_A [(zo1iri bo mdc bS 0)] sz) [(zo1iri bo mdc9 aEl9 (nI sz_9)), (zaR aEl9 cEl9 10 fEl9)]) (va_A [(zo1iri bo mdc bS 0)] sz)) 1 10 (va_A [(zo1iri bo mdc bS 0)] sz) := by
  refine met_ofQ (cc := cX3_doGoes) (maxL := 3) (ret := (some .int)) (by decide) rfl ?_
  intro p e s m args below meth c s₁ Q B hml hv hQ
  obtain ⟨rfl, hsz, hP, hK, hD0, hI_, hB_, hW_, hZ⟩ := hv
  have hx := B.exec
  have hb := B.bytes
  have hr := B.returns
  have hts := atoms_spec (ws := wsX3_doGoes) B.pre
  have hown : s.vm.findClass RX3 = some m.cls := findClass_of_methodNamed B.named
  have hlocks := B.notSynchronized
  subst hsz
  have hD := hD0.self (sz := s.heap.size)
  generalize hAe : va_A [(zo1iri bo mdc bS 0)] s.heap.size = A at hD hQ hI_ hB_ hW_ hZ ⊢
  have hA : ∀ q : Nat, s.heap.size ≤ q → A q := fun q h => by rw [← hAe]; exact Or.inr h
  have hS : va_S A s.heap s.heap [] := va_S.rf
  have hl := lv_entry [.ref a0, .int x, .ref bo] (n := 3) (Nat.le_of_ble_eq_true rfl)
  rw [lg_entry_eq]
  generalize (lg_sl [.ref a0, .int x, .ref bo] ++ List.replicate (3 - (lg_sl [.ref a0, .int x, .ref bo]).length) Slot.unset).toArray = ls at hl ⊢
  generalize hag : ([.ref a0, .int x, .ref bo] : List Value).toArray = args at hts hQ ⊢
  have hl : lv_has ls 3 [(0, .ref a0), (1, .int x), (2, .ref bo)] := hl
  obtain ⟨H, hH⟩ : ∃ H : Heap, H = s.heap := ⟨_, rfl⟩
  rw [← hH] at hP
  rw [← hH]
  have hS : va_S A s.heap H [] := by rw [hH]; exact hS
  obtain ⟨locs, hlo⟩ : ∃ L : List Loc, L = [] := ⟨_, rfl⟩
  rw [← hlo] at hS
  rw [← hlo]
  clear hH hlo
  refine lv_iconst (v := 2) hx hb dX3_doGoes_0 (by decide) ?_
  refine lv_aload_n hx hb dX3_doGoes_1 rfl (lv_at hl 2 rfl) ?_
  have hPc := hP.sub (ws' := [(zo1iri bo mdc bS 0)]) [0] rfl
  have hDc := hD.sub (ws' := [(zo1iri bo mdc bS 0)]) [0] (by decide) rfl
  have hKc := hK.sub (tys' := []) [] rfl
  have hFc := va_free (wc := [(zo1iri bo mdc bS 0)]) hD hS hA [0] rfl
  refine va_callv (va_runS (As := [.int 2, .ref bo]) (rest := []) ⟨hx, hb, hml, hown, hts⟩ (c_begin0 l dC dI ad cB bS bo mdc 2 H.size (by omega)) (va_cwS 2 hts gX3_doGoes_X3_begin rfl rfl rfl hd_yX3_begin.2 ⟨Nat.le_of_ble_eq_true rfl, Nat.le_of_ble_eq_true rfl⟩) ⟨fun a U g mk q => by obtain ⟨q0, q1, qP, qK, qD, qhI_⟩ := q; exact ⟨q0, q1, qP, va_K.moved (u := U) (U := U.calling g mk a) (Vm.Alike.refl U.vm) qK, qD, qhI_.same rfl rfl⟩, fun U hU hW => ⟨rfl, by rw [hU], by rw [hU]; exact hPc, va_K.moved hW.alike hKc, hDc.weaken (fun _ _ _ _ => trivial), hI_.call hS hU hW (fun q h => hFc q h)⟩⟩ rfl rfl hl.1 rfl (lv_room (Nat.le_of_ble_eq_true rfl)) dX3_doGoes_2 ⟨Nat.le_of_ble_eq_true rfl, Nat.le_of_ble_eq_true rfl⟩) hS (fun q _ h => hFc q h) hFc (fun u tC H1 locs htC hvm hw_2 hB hz1 hk1 hS => ?_)
  obtain ⟨mdc9_3, aEl9_4, cEl9_5, sz_9_6, fEl9_7⟩ := u
  try dsimp only at hw_2 hB
  obtain ⟨hP1, hK1, hD1⟩ := hB
  rw [htC] at hP1
  have hK1 := va_K.moved hvm.symm hK1
  obtain ⟨hP, hD⟩ := va_join (wr := []) (w1 := [(zo1iri bo mdc9_3 aEl9_4 (nI sz_9_6)), (zaR aEl9_4 cEl9_5 10 fEl9_7)]) hP hD [0] [] rfl rfl (by decide) (by decide) hk1 hFc hP1 hD1
  have hK := (hK.sub (tys' := []) [] rfl).app hK1
  generalize H1 = H at hP hS ⊢
  have hP : va_P (dC, dI) vwCl [(zo1iri bo mdc9_3 aEl9_4 (nI sz_9_6)), (zaR aEl9_4 cEl9_5 10 fEl9_7)] H := hP
  have hD : va_D A [(zo1iri bo mdc9_3 aEl9_4 (nI sz_9_6)), (zaR aEl9_4 cEl9_5 10 fEl9_7)] := hD
  have hK : va_K (dC, dI) vwCl [(cEl9_5, .object "java/lang/Object")] s := hK
  refine W.widen (k := 1) (n := 10) (by omega) (by omega) ?_
  obtain ⟨e_8, hL_9⟩ := hw_2
  obtain rfl := (e_8).symm
  refine lv_aload_n hx hb dX3_doGoes_5 rfl (lv_at hl 0 rfl) ?_
  refine lv_iload_n hx hb dX3_doGoes_6 rfl (lv_at hl 1 rfl) ?_
  refine lv_aload_n hx hb dX3_doGoes_7 rfl (lv_at hl 2 rfl) ?_
  have hPc := hP.sub (ws' := [(zo1iri bo mdc9_3 aEl9_4 (nI 1)), (zaR aEl9_4 cEl9_5 10 fEl9_7)]) [0, 1] rfl
  have hDc := hD.sub (ws' := [(zo1iri bo mdc9_3 aEl9_4 (nI 1)), (zaR aEl9_4 cEl9_5 10 fEl9_7)]) [0, 1] (by decide) rfl
  have hKc := hK.sub (tys' := [(cEl9_5, .object "java/lang/Object")]) [0] rfl
  have hFc := va_free (wc := [(zo1iri bo mdc9_3 aEl9_4 (nI 1)), (zaR aEl9_4 cEl9_5 10 fEl9_7)]) hD hS hA [0, 1] rfl
  refine va_calli (va_runU (As := [.int x, .ref bo]) (rest := []) ⟨hx, hb, hml, hown, hts⟩ (c_X3_doSees_X1_1 l dC dI ad cB bS    bo aEl9_4 i0 sk sv scl x cEl9_5 fEl9_7 a0 1 mdc9_3 ([2]) H.size (by omega) (hL_9)) (va_cwU 2 hts gX3_doGoes_X3_doSees_u38X1 rfl rfl rfl rfl (by decide +kernel) ⟨Nat.le_of_ble_eq_true rfl, Nat.le_of_ble_eq_true rfl⟩) ⟨fun a U g mk q => by obtain ⟨q0, q1, qP, qK, qD, qhI_, qhB_, qhW_, qhZ⟩ := q; exact ⟨q0, q1, qP, va_K.moved (u := U) (U := U.calling g mk a) (Vm.Alike.refl U.vm) qK, qD, qhI_.same rfl rfl, qhB_.same rfl rfl, qhW_.same rfl rfl, qhZ.same rfl rfl⟩, va_recv hZ.2.1 (hZ.P hS) (ci := 3) (q := (RX1, TX1, 4)) (q0 := 0) rfl rfl, fun U hU hW => ⟨rfl, by rw [hU], by rw [hU]; exact hPc, va_K.moved hW.alike hKc, hDc.weaken (fun _ _ _ _ => trivial), hI_.call hS hU hW (fun q h => hFc q h), hB_.call hS hU hW (fun q h => hFc q h), hW_.call hS hU hW (fun q h => hFc q h), (hZ.sub [0] [] rfl rfl).call hS hU hW (fun q h => hFc q h)⟩⟩ rfl rfl hl.1 rfl (lv_room (Nat.le_of_ble_eq_true rfl)) dX3_doGoes_8 ⟨Nat.le_of_ble_eq_true rfl, Nat.le_of_ble_eq_true rfl⟩) hS (fun q _ h => hFc q h) hFc (fun r_10 u tC H1 locs htC hvm hw_11 hB hz1 hk1 hS => ?_)
  obtain ⟨mdc9_12, sz_9_13, fEl9_14⟩ := u
  try dsimp only at hw_11 hB
  obtain ⟨hP1, hK1, hD1⟩ := hB
  rw [htC] at hP1
  have hK1 := va_K.moved hvm.symm hK1
  obtain ⟨hP, hD⟩ := va_join (wr := []) (w1 := [(zo1iri bo mdc9_12 aEl9_4 (nI sz_9_13)), (zaR aEl9_4 cEl9_5 10 fEl9_14)]) hP hD [0, 1] [] rfl rfl (by decide) (by decide) hk1 hFc hP1 hD1
  have hK := (hK.sub (tys' := []) [] rfl).app hK1
  generalize H1 = H at hP hS ⊢
  have hP : va_P (dC, dI) vwCl [(zo1iri bo mdc9_12 aEl9_4 (nI sz_9_13)), (zaR aEl9_4 cEl9_5 10 fEl9_14)] H := hP
  have hD : va_D A [(zo1iri bo mdc9_12 aEl9_4 (nI sz_9_13)), (zaR aEl9_4 cEl9_5 10 fEl9_14)] := hD
  have hK : va_K (dC, dI) vwCl [(cEl9_5, .object "java/lang/Object")] s := hK
  obtain ⟨er_15, e_16, hL_17⟩ := hw_11
  obtain rfl := (e_16).symm
  subst er_15
  refine lv_aload_n hx hb dX3_doGoes_11 rfl (lv_at hl 0 rfl) ?_
  refine va_get (D := (dC, dI)) (ci := 3) (v := .int sv) (C := RX1) (T := TX1) (N := 4) hx hb hts kc_X3_doGoes_X1_0_1 hown hZ.2.1 (hZ.P hS) 0 rfl rfl 2 (by decide) (hts (.fieldLink RX3 18 "MistHeaps$Heap" "v" "I") kc_X3_doGoes_X1_0_0) (fun _ h9 => h9) rfl dX3_doGoes_12 ?_
  refine lv_isub hx hb dX3_doGoes_15 ?_
  rw [hQ]
  have hP9 := hP.sub (ws' := [(zo1iri bo mdc9_12 aEl9_4 (nI (1 + 1))), (zaR aEl9_4 cEl9_5 10 fEl9_14)]) [0, 1] rfl
  have hD9 := hD.sub (ws' := [(zo1iri bo mdc9_12 aEl9_4 (nI (1 + 1))), (zaR aEl9_4 cEl9_5 10 fEl9_14)]) [0, 1] (by decide) rfl
  have hK9 := hK.sub (tys' := [(cEl9_5, .object "java/lang/Object")]) [0] rfl
  refine W.widen (k := 1) (n := 10) (by omega) (by omega) ?_
  exact W.iret (v := (x + nI i0) - sv) hx hb hr (fun tQ htQ hWQ => ⟨⟨((x + nI i0) - sv), (mdc9_12, aEl9_4, cEl9_5, (1 + 1), fEl9_14), rfl, ⟨rfl, by omega, hL_17⟩, by rw [htQ]; exact hP9, va_K.moved hWQ.alike hK9, hD9⟩, hS.F htQ⟩) hS.2.2 dX3_doGoes_16

set_option maxHeartbeats 4000000 in
set_option maxRecDepth 100000 in
theorem c_X3_doLooks_X1_1 (l : Launch) (dC : Nat → ClassId) (dI : Nat → Nat → Nat) (ad : Nat → Nat) (cB bS : Nat)    (bo : Nat) (aEl : Nat) (i0 : Nat) (sk : Int32) (sv : Int32) (scl : Int32) (x : Int32) (cEl : ClassId) (fEl : Nat → Option Nat) (a0 : Nat) (sz_ : Nat) (mdc : Int32) (tl : List Nat) (sz : Nat) (hsz : sz_ + 3 ≤ 10) (zL : okL ad fEl sz_ tl) : Met l yX3_doLooks wsX3_doLooks ({ frames := 5, cells := 0, slots := 0, locals := 109 } : Room) (va_Pc [.ref a0, .int x, .ref bo] (fun U => U.heap.size = sz ∧ va_P (dC, dI) vwCl [(zo1iri bo mdc aEl (nI sz_)), (zaR aEl cEl 10 fEl)] U.heap ∧ va_K (dC, dI) vwCl [(cEl, .object "java/lang/Object")] U ∧ va_D (fun _ => True) [(zo1iri bo mdc aEl (nI sz_)), (zaR aEl cEl 10 fEl)] ∧ Gi ad cB bS (va_A [(zo1iri bo mdc aEl (nI sz_)), (zaR aEl cEl 10 fEl)] sz) U ∧ Gb (va_A [(zo1iri bo mdc aEl (nI sz_)), (zaR aEl cEl 10 fEl)] sz) U ∧ Gw (va_A [(zo1iri bo mdc aEl (nI sz_)), (zaR aEl cEl 10 fEl)] sz) U ∧ Fz dC dI [(zo3iiii a0 sk (nI i0) sv scl)] [] (va_A [(zo1iri bo mdc aEl (nI sz_)), (zaR aEl cEl 10 fEl)] sz) U)) (va_Qi (fun (r : Int32) (u : (Int32) × (Nat) × (Nat → Option Nat)) => match u with | (mdc9, sz_9, fEl9) => r = ((x + nI i0) - sv) * 2 ∧ sz_9 = sz_ + 3 ∧ okL ad fEl9 sz_9 (tl ++ [3, 2, 1])) (fun (u : (Int32) × (Nat) × (Nat → Option Nat)) (t : State) => match u with | (mdc9, sz_9, fEl9) => va_P (dC, dI) vwCl [(zo1iri bo mdc9 aEl (nI sz_9)), (zaR aEl cEl 10 fEl9)] t.heap ∧ va_K (dC, dI) vwCl [(cEl, .object "java/lang/Object")] t ∧ va_D (va_A [(zo1iri bo mdc aEl (nI sz_)), (zaR aEl cEl 10 fEl)] sz) [(zo1iri bo mdc9 aEl (nI sz_9)), (zaR aEl cEl 10 fEl9)]) (va_A [(zo1iri bo mdc aEl (nI sz_)), (zaR aEl cEl 10 fEl)] sz)) 0 0 (va_A [(zo1iri bo mdc aEl (nI sz_)), (zaR aEl cEl 10 fEl)] sz) := by
  refine met_ofQ (cc := cX3_doLooks) (maxL := 3) (ret := (some .int)) (by decide) rfl ?_
  intro p e s m args below meth c s₁ Q B hml hv hQ
  obtain ⟨rfl, hsz, hP, hK, hD0, hI_, hB_, hW_, hZ⟩ := hv
  have hx := B.exec
  have hb := B.bytes
  have hr := B.returns
  have hts := atoms_spec (ws := wsX3_doLooks) B.pre
  have hown : s.vm.findClass RX3 = some m.cls := findClass_of_methodNamed B.named
  have hlocks := B.notSynchronized
  subst hsz
  have hD := hD0.self (sz := s.heap.size)
  generalize hAe : va_A [(zo1iri bo mdc aEl (nI sz_)), (zaR aEl cEl 10 fEl)] s.heap.size = A at hD hQ hI_ hB_ hW_ hZ ⊢
  have hA : ∀ q : Nat, s.heap.size ≤ q → A q := fun q h => by rw [← hAe]; exact Or.inr h
  have hS : va_S A s.heap s.heap [] := va_S.rf
  have hl := lv_entry [.ref a0, .int x, .ref bo] (n := 3) (Nat.le_of_ble_eq_true rfl)
  rw [lg_entry_eq]
  generalize (lg_sl [.ref a0, .int x, .ref bo] ++ List.replicate (3 - (lg_sl [.ref a0, .int x, .ref bo]).length) Slot.unset).toArray = ls at hl ⊢
  generalize hag : ([.ref a0, .int x, .ref bo] : List Value).toArray = args at hts hQ ⊢
  have hl : lv_has ls 3 [(0, .ref a0), (1, .int x), (2, .ref bo)] := hl
  obtain ⟨H, hH⟩ : ∃ H : Heap, H = s.heap := ⟨_, rfl⟩
  rw [← hH] at hP
  rw [← hH]
  have hS : va_S A s.heap H [] := by rw [hH]; exact hS
  obtain ⟨locs, hlo⟩ : ∃ L : List Loc, L = [] := ⟨_, rfl⟩
  rw [← hlo] at hS
  rw [← hlo]
  clear hH hlo
  refine lv_iconst (v := 3) hx hb dX3_doLooks_0 (by decide) ?_
  refine lv_aload_n hx hb dX3_doLooks_1 rfl (lv_at hl 2 rfl) ?_
  have hPc := hP.sub (ws' := [(zo1iri bo mdc aEl (nI sz_)), (zaR aEl cEl 10 fEl)]) [0, 1] rfl
  have hDc := hD.sub (ws' := [(zo1iri bo mdc aEl (nI sz_)), (zaR aEl cEl 10 fEl)]) [0, 1] (by decide) rfl
  have hKc := hK.sub (tys' := [(cEl, .object "java/lang/Object")]) [0] rfl
  have hFc := va_free (wc := [(zo1iri bo mdc aEl (nI sz_)), (zaR aEl cEl 10 fEl)]) hD hS hA [0, 1] rfl
  refine va_callv (va_runS (As := [.int 3, .ref bo]) (rest := []) ⟨hx, hb, hml, hown, hts⟩ (c_begin1 l dC dI ad cB bS bo aEl 3 cEl fEl sz_ mdc tl H.size (by omega) (by omega) (zL)) (va_cwS 2 hts gX3_doLooks_X3_begin rfl rfl rfl hd_yX3_begin.2 ⟨Nat.le_of_ble_eq_true rfl, Nat.le_of_ble_eq_true rfl⟩) ⟨fun a U g mk q => by obtain ⟨q0, q1, qP, qK, qD, qhI_⟩ := q; exact ⟨q0, q1, qP, va_K.moved (u := U) (U := U.calling g mk a) (Vm.Alike.refl U.vm) qK, qD, qhI_.same rfl rfl⟩, fun U hU hW => ⟨rfl, by rw [hU], by rw [hU]; exact hPc, va_K.moved hW.alike hKc, hDc.weaken (fun _ _ _ _ => trivial), hI_.call hS hU hW (fun q h => hFc q h)⟩⟩ rfl rfl hl.1 rfl (lv_room (Nat.le_of_ble_eq_true rfl)) dX3_doLooks_2 ⟨Nat.le_of_ble_eq_true rfl, Nat.le_of_ble_eq_true rfl⟩) hS (fun q _ h => hFc q h) hFc (fun u tC H1 locs htC hvm hw_2 hB hz1 hk1 hS => ?_)
  obtain ⟨mdc9_3, sz_9_4, fEl9_5⟩ := u
  try dsimp only at hw_2 hB
  obtain ⟨hP1, hK1, hD1⟩ := hB
  rw [htC] at hP1
  have hK1 := va_K.moved hvm.symm hK1
  obtain ⟨hP, hD⟩ := va_join (wr := []) (w1 := [(zo1iri bo mdc9_3 aEl (nI sz_9_4)), (zaR aEl cEl 10 fEl9_5)]) hP hD [0, 1] [] rfl rfl (by decide) (by decide) hk1 hFc hP1 hD1
  have hK := (hK.sub (tys' := []) [] rfl).app hK1
  generalize H1 = H at hP hS ⊢
  have hP : va_P (dC, dI) vwCl [(zo1iri bo mdc9_3 aEl (nI sz_9_4)), (zaR aEl cEl 10 fEl9_5)] H := hP
  have hD : va_D A [(zo1iri bo mdc9_3 aEl (nI sz_9_4)), (zaR aEl cEl 10 fEl9_5)] := hD
  have hK : va_K (dC, dI) vwCl [(cEl, .object "java/lang/Object")] s := hK
  obtain ⟨e_6, hL_7⟩ := hw_2
  obtain rfl := (e_6).symm
  refine lv_aload_n hx hb dX3_doLooks_5 rfl (lv_at hl 0 rfl) ?_
  refine lv_iload_n hx hb dX3_doLooks_6 rfl (lv_at hl 1 rfl) ?_
  refine lv_aload_n hx hb dX3_doLooks_7 rfl (lv_at hl 2 rfl) ?_
  have hPc := hP.sub (ws' := [(zo1iri bo mdc9_3 aEl (nI (sz_ + 1))), (zaR aEl cEl 10 fEl9_5)]) [0, 1] rfl
  have hDc := hD.sub (ws' := [(zo1iri bo mdc9_3 aEl (nI (sz_ + 1))), (zaR aEl cEl 10 fEl9_5)]) [0, 1] (by decide) rfl
  have hKc := hK.sub (tys' := [(cEl, .object "java/lang/Object")]) [0] rfl
  have hFc := va_free (wc := [(zo1iri bo mdc9_3 aEl (nI (sz_ + 1))), (zaR aEl cEl 10 fEl9_5)]) hD hS hA [0, 1] rfl
  refine va_calli (va_runU (As := [.int x, .ref bo]) (rest := []) ⟨hx, hb, hml, hown, hts⟩ (c_X3_doGoes_X1_1 l dC dI ad cB bS    bo aEl i0 sk sv scl x cEl fEl9_5 a0 (sz_ + 1) mdc9_3 (tl ++ [3]) H.size (by omega) (hL_7)) (va_cwU 2 hts gX3_doLooks_X3_doGoes_u42X1 rfl rfl rfl rfl (by decide +kernel) ⟨Nat.le_of_ble_eq_true rfl, Nat.le_of_ble_eq_true rfl⟩) ⟨fun a U g mk q => by obtain ⟨q0, q1, qP, qK, qD, qhI_, qhB_, qhW_, qhZ⟩ := q; exact ⟨q0, q1, qP, va_K.moved (u := U) (U := U.calling g mk a) (Vm.Alike.refl U.vm) qK, qD, qhI_.same rfl rfl, qhB_.same rfl rfl, qhW_.same rfl rfl, qhZ.same rfl rfl⟩, va_recv hZ.2.1 (hZ.P hS) (ci := 3) (q := (RX1, TX1, 4)) (q0 := 0) rfl rfl, fun U hU hW => ⟨rfl, by rw [hU], by rw [hU]; exact hPc, va_K.moved hW.alike hKc, hDc.weaken (fun _ _ _ _ => trivial), hI_.call hS hU hW (fun q h => hFc q h), hB_.call hS hU hW (fun q h => hFc q h), hW_.call hS hU hW (fun q h => hFc q h), (hZ.sub [0] [] rfl rfl).call hS hU hW (fun q h => hFc q h)⟩⟩ rfl rfl hl.1 rfl (lv_room (Nat.le_of_ble_eq_true rfl)) dX3_doLooks_8 ⟨Nat.le_of_ble_eq_true rfl, Nat.le_of_ble_eq_true rfl⟩) hS (fun q _ h => hFc q h) hFc (fun r_8 u tC H1 locs htC hvm hw_9 hB hz1 hk1 hS => ?_)
  obtain ⟨mdc9_10, sz_9_11, fEl9_12⟩ := u
  try dsimp only at hw_9 hB
  obtain ⟨hP1, hK1, hD1⟩ := hB
  rw [htC] at hP1
  have hK1 := va_K.moved hvm.symm hK1
  obtain ⟨hP, hD⟩ := va_join (wr := []) (w1 := [(zo1iri bo mdc9_10 aEl (nI sz_9_11)), (zaR aEl cEl 10 fEl9_12)]) hP hD [0, 1] [] rfl rfl (by decide) (by decide) hk1 hFc hP1 hD1
  have hK := (hK.sub (tys' := []) [] rfl).app hK1
  generalize H1 = H at hP hS ⊢
  have hP : va_P (dC, dI) vwCl [(zo1iri bo mdc9_10 aEl (nI sz_9_11)), (zaR aEl cEl 10 fEl9_12)] H := hP
  have hD : va_D A [(zo1iri bo mdc9_10 aEl (nI sz_9_11)), (zaR aEl cEl 10 fEl9_12)] := hD
  have hK : va_K (dC, dI) vwCl [(cEl, .object "java/lang/Object")] s := hK
  obtain ⟨er_13, e_14, hL_15⟩ := hw_9
  obtain rfl := (e_14).symm
  subst er_13
  refine lv_iconst (v := 2) hx hb dX3_doLooks_11 (by decide) ?_
  refine lv_imul hx hb dX3_doLooks_12 ?_
  rw [hQ]
  have hP9 := hP.sub (ws' := [(zo1iri bo mdc9_10 aEl (nI ((sz_ + 1) + 2))), (zaR aEl cEl 10 fEl9_12)]) [0, 1] rfl
  have hD9 := hD.sub (ws' := [(zo1iri bo mdc9_10 aEl (nI ((sz_ + 1) + 2))), (zaR aEl cEl 10 fEl9_12)]) [0, 1] (by decide) rfl
  have hK9 := hK.sub (tys' := [(cEl, .object "java/lang/Object")]) [0] rfl
  exact W.iret (v := ((x + nI i0) - sv) * 2) hx hb hr (fun tQ htQ hWQ => ⟨⟨(((x + nI i0) - sv) * 2), (mdc9_10, ((sz_ + 1) + 2), fEl9_12), rfl, ⟨rfl, by omega, by have h9 := okL_as (hL_15); exact h9⟩, by rw [htQ]; exact hP9, va_K.moved hWQ.alike hK9, hD9⟩, hS.F htQ⟩) hS.2.2 dX3_doLooks_13

set_option maxHeartbeats 4000000 in
set_option maxRecDepth 100000 in
theorem c_X3_doLooks_X1_0 (l : Launch) (dC : Nat → ClassId) (dI : Nat → Nat → Nat) (ad : Nat → Nat) (cB bS : Nat)    (bo : Nat) (i0 : Nat) (sk : Int32) (sv : Int32) (scl : Int32) (x : Int32) (a0 : Nat) (mdc : Int32) (sz : Nat) : Met l yX3_doLooks wsX3_doLooks ({ frames := 6, cells := 1, slots := 10, locals := 122 } : Room) (va_Pc [.ref a0, .int x, .ref bo] (fun U => U.heap.size = sz ∧ va_P (dC, dI) vwCl [(zo1iri bo mdc bS 0)] U.heap ∧ va_K (dC, dI) vwCl [] U ∧ va_D (fun _ => True) [(zo1iri bo mdc bS 0)] ∧ Gi ad cB bS (va_A [(zo1iri bo mdc bS 0)] sz) U ∧ Gb (va_A [(zo1iri bo mdc bS 0)] sz) U ∧ Gw (va_A [(zo1iri bo mdc bS 0)] sz) U ∧ Fz dC dI [(zo3iiii a0 sk (nI i0) sv scl)] [] (va_A [(zo1iri bo mdc bS 0)] sz) U)) (va_Qi (fun (r : Int32) (u : (Int32) × (Nat) × (ClassId) × (Nat) × (Nat → Option Nat)) => match u with | (mdc9, aEl9, cEl9, sz_9, fEl9) => r = ((x + nI i0) - sv) * 2 ∧ sz_9 = 3 ∧ okL ad fEl9 sz_9 [3, 2, 1]) (fun (u : (Int32) × (Nat) × (ClassId) × (Nat) × (Nat → Option Nat)) (t : State) => match u with | (mdc9, aEl9, cEl9, sz_9, fEl9) => va_P (dC, dI) vwCl [(zo1iri bo mdc9 aEl9 (nI sz_9)), (zaR aEl9 cEl9 10 fEl9)] t.heap ∧ va_K (dC, dI) vwCl [(cEl9, .object "java/lang/Object")] t ∧ va_D (va_A [(zo1iri bo mdc bS 0)] sz) [(zo1iri bo mdc9 aEl9 (nI sz_9)), (zaR aEl9 cEl9 10 fEl9)]) (va_A [(zo1iri bo mdc bS 0)] sz)) 1 10 (va_A [(zo1iri bo mdc bS 0)] sz) := by
  refine met_ofQ (cc := cX3_doLooks) (maxL := 3) (ret := (some .int)) (by decide) rfl ?_
  intro p e s m args below meth c s₁ Q B hml hv hQ
  obtain ⟨rfl, hsz, hP, hK, hD0, hI_, hB_, hW_, hZ⟩ := hv
  have hx := B.exec
  have hb := B.bytes
  have hr := B.returns
  have hts := atoms_spec (ws := wsX3_doLooks) B.pre
  have hown : s.vm.findClass RX3 = some m.cls := findClass_of_methodNamed B.named
  have hlocks := B.notSynchronized
  subst hsz
  have hD := hD0.self (sz := s.heap.size)
  generalize hAe : va_A [(zo1iri bo mdc bS 0)] s.heap.size = A at hD hQ hI_ hB_ hW_ hZ ⊢
  have hA : ∀ q : Nat, s.heap.size ≤ q → A q := fun q h => by rw [← hAe]; exact Or.inr h
  have hS : va_S A s.heap s.heap [] := va_S.rf
  have hl := lv_entry [.ref a0, .int x, .ref bo] (n := 3) (Nat.le_of_ble_eq_true rfl)
  rw [lg_entry_eq]
  generalize (lg_sl [.ref a0, .int x, .ref bo] ++ List.replicate (3 - (lg_sl [.ref a0, .int x, .ref bo]).length) Slot.unset).toArray = ls at hl ⊢
  generalize hag : ([.ref a0, .int x, .ref bo] : List Value).toArray = args at hts hQ ⊢
  have hl : lv_has ls 3 [(0, .ref a0), (1, .int x), (2, .ref bo)] := hl
  obtain ⟨H, hH⟩ : ∃ H : Heap, H = s.heap := ⟨_, rfl⟩
  rw [← hH] at hP
  rw [← hH]
  have hS : va_S A s.heap H [] := by rw [hH]; exact hS
  obtain ⟨locs, hlo⟩ : ∃ L : List Loc, L = [] := ⟨_, rfl⟩
  rw [← hlo] at hS
  rw [← hlo]
  clear hH hlo
  refine lv_iconst (v := 3) hx hb dX3_doLooks_0 (by decide) ?_
  refine lv_aload_n hx hb dX3_doLooks_1 rfl (lv_at hl 2 rfl) ?_
  have hPc := hP.sub (ws' := [(zo1iri bo mdc bS 0)]) [0] rfl
  have hDc := hD.sub (ws' := [(zo1iri bo mdc bS 0)]) [0] (by decide) rfl
  have hKc := hK.sub (tys' := []) [] rfl
  have hFc := va_free (wc := [(zo1iri bo mdc bS 0)]) hD hS hA [0] rfl
  refine va_callv (va_runS (As := [.int 3, .ref bo]) (rest := []) ⟨hx, hb, hml, hown, hts⟩ (c_begin0 l dC dI ad cB bS bo mdc 3 H.size (by omega)) (va_cwS 2 hts gX3_doLooks_X3_begin rfl rfl rfl hd_yX3_begin.2 ⟨Nat.le_of_ble_eq_true rfl, Nat.le_of_ble_eq_true rfl⟩) ⟨fun a U g mk q => by obtain ⟨q0, q1, qP, qK, qD, qhI_⟩ := q; exact ⟨q0, q1, qP, va_K.moved (u := U) (U := U.calling g mk a) (Vm.Alike.refl U.vm) qK, qD, qhI_.same rfl rfl⟩, fun U hU hW => ⟨rfl, by rw [hU], by rw [hU]; exact hPc, va_K.moved hW.alike hKc, hDc.weaken (fun _ _ _ _ => trivial), hI_.call hS hU hW (fun q h => hFc q h)⟩⟩ rfl rfl hl.1 rfl (lv_room (Nat.le_of_ble_eq_true rfl)) dX3_doLooks_2 ⟨Nat.le_of_ble_eq_true rfl, Nat.le_of_ble_eq_true rfl⟩) hS (fun q _ h => hFc q h) hFc (fun u tC H1 locs htC hvm hw_2 hB hz1 hk1 hS => ?_)
  obtain ⟨mdc9_3, aEl9_4, cEl9_5, sz_9_6, fEl9_7⟩ := u
  try dsimp only at hw_2 hB
  obtain ⟨hP1, hK1, hD1⟩ := hB
  rw [htC] at hP1
  have hK1 := va_K.moved hvm.symm hK1
  obtain ⟨hP, hD⟩ := va_join (wr := []) (w1 := [(zo1iri bo mdc9_3 aEl9_4 (nI sz_9_6)), (zaR aEl9_4 cEl9_5 10 fEl9_7)]) hP hD [0] [] rfl rfl (by decide) (by decide) hk1 hFc hP1 hD1
  have hK := (hK.sub (tys' := []) [] rfl).app hK1
  generalize H1 = H at hP hS ⊢
  have hP : va_P (dC, dI) vwCl [(zo1iri bo mdc9_3 aEl9_4 (nI sz_9_6)), (zaR aEl9_4 cEl9_5 10 fEl9_7)] H := hP
  have hD : va_D A [(zo1iri bo mdc9_3 aEl9_4 (nI sz_9_6)), (zaR aEl9_4 cEl9_5 10 fEl9_7)] := hD
  have hK : va_K (dC, dI) vwCl [(cEl9_5, .object "java/lang/Object")] s := hK
  refine W.widen (k := 1) (n := 10) (by omega) (by omega) ?_
  obtain ⟨e_8, hL_9⟩ := hw_2
  obtain rfl := (e_8).symm
  refine lv_aload_n hx hb dX3_doLooks_5 rfl (lv_at hl 0 rfl) ?_
  refine lv_iload_n hx hb dX3_doLooks_6 rfl (lv_at hl 1 rfl) ?_
  refine lv_aload_n hx hb dX3_doLooks_7 rfl (lv_at hl 2 rfl) ?_
  have hPc := hP.sub (ws' := [(zo1iri bo mdc9_3 aEl9_4 (nI 1)), (zaR aEl9_4 cEl9_5 10 fEl9_7)]) [0, 1] rfl
  have hDc := hD.sub (ws' := [(zo1iri bo mdc9_3 aEl9_4 (nI 1)), (zaR aEl9_4 cEl9_5 10 fEl9_7)]) [0, 1] (by decide) rfl
  have hKc := hK.sub (tys' := [(cEl9_5, .object "java/lang/Object")]) [0] rfl
  have hFc := va_free (wc := [(zo1iri bo mdc9_3 aEl9_4 (nI 1)), (zaR aEl9_4 cEl9_5 10 fEl9_7)]) hD hS hA [0, 1] rfl
  refine va_calli (va_runU (As := [.int x, .ref bo]) (rest := []) ⟨hx, hb, hml, hown, hts⟩ (c_X3_doGoes_X1_1 l dC dI ad cB bS    bo aEl9_4 i0 sk sv scl x cEl9_5 fEl9_7 a0 1 mdc9_3 ([3]) H.size (by omega) (hL_9)) (va_cwU 2 hts gX3_doLooks_X3_doGoes_u42X1 rfl rfl rfl rfl (by decide +kernel) ⟨Nat.le_of_ble_eq_true rfl, Nat.le_of_ble_eq_true rfl⟩) ⟨fun a U g mk q => by obtain ⟨q0, q1, qP, qK, qD, qhI_, qhB_, qhW_, qhZ⟩ := q; exact ⟨q0, q1, qP, va_K.moved (u := U) (U := U.calling g mk a) (Vm.Alike.refl U.vm) qK, qD, qhI_.same rfl rfl, qhB_.same rfl rfl, qhW_.same rfl rfl, qhZ.same rfl rfl⟩, va_recv hZ.2.1 (hZ.P hS) (ci := 3) (q := (RX1, TX1, 4)) (q0 := 0) rfl rfl, fun U hU hW => ⟨rfl, by rw [hU], by rw [hU]; exact hPc, va_K.moved hW.alike hKc, hDc.weaken (fun _ _ _ _ => trivial), hI_.call hS hU hW (fun q h => hFc q h), hB_.call hS hU hW (fun q h => hFc q h), hW_.call hS hU hW (fun q h => hFc q h), (hZ.sub [0] [] rfl rfl).call hS hU hW (fun q h => hFc q h)⟩⟩ rfl rfl hl.1 rfl (lv_room (Nat.le_of_ble_eq_true rfl)) dX3_doLooks_8 ⟨Nat.le_of_ble_eq_true rfl, Nat.le_of_ble_eq_true rfl⟩) hS (fun q _ h => hFc q h) hFc (fun r_10 u tC H1 locs htC hvm hw_11 hB hz1 hk1 hS => ?_)
  obtain ⟨mdc9_12, sz_9_13, fEl9_14⟩ := u
  try dsimp only at hw_11 hB
  obtain ⟨hP1, hK1, hD1⟩ := hB
  rw [htC] at hP1
  have hK1 := va_K.moved hvm.symm hK1
  obtain ⟨hP, hD⟩ := va_join (wr := []) (w1 := [(zo1iri bo mdc9_12 aEl9_4 (nI sz_9_13)), (zaR aEl9_4 cEl9_5 10 fEl9_14)]) hP hD [0, 1] [] rfl rfl (by decide) (by decide) hk1 hFc hP1 hD1
  have hK := (hK.sub (tys' := []) [] rfl).app hK1
  generalize H1 = H at hP hS ⊢
  have hP : va_P (dC, dI) vwCl [(zo1iri bo mdc9_12 aEl9_4 (nI sz_9_13)), (zaR aEl9_4 cEl9_5 10 fEl9_14)] H := hP
  have hD : va_D A [(zo1iri bo mdc9_12 aEl9_4 (nI sz_9_13)), (zaR aEl9_4 cEl9_5 10 fEl9_14)] := hD
  have hK : va_K (dC, dI) vwCl [(cEl9_5, .object "java/lang/Object")] s := hK
  obtain ⟨er_15, e_16, hL_17⟩ := hw_11
  obtain rfl := (e_16).symm
  subst er_15
  refine lv_iconst (v := 2) hx hb dX3_doLooks_11 (by decide) ?_
  refine lv_imul hx hb dX3_doLooks_12 ?_
  rw [hQ]
  have hP9 := hP.sub (ws' := [(zo1iri bo mdc9_12 aEl9_4 (nI (1 + 2))), (zaR aEl9_4 cEl9_5 10 fEl9_14)]) [0, 1] rfl
  have hD9 := hD.sub (ws' := [(zo1iri bo mdc9_12 aEl9_4 (nI (1 + 2))), (zaR aEl9_4 cEl9_5 10 fEl9_14)]) [0, 1] (by decide) rfl
  have hK9 := hK.sub (tys' := [(cEl9_5, .object "java/lang/Object")]) [0] rfl
  refine W.widen (k := 1) (n := 10) (by omega) (by omega) ?_
  exact W.iret (v := ((x + nI i0) - sv) * 2) hx hb hr (fun tQ htQ hWQ => ⟨⟨(((x + nI i0) - sv) * 2), (mdc9_12, aEl9_4, cEl9_5, (1 + 2), fEl9_14), rfl, ⟨rfl, by omega, hL_17⟩, by rw [htQ]; exact hP9, va_K.moved hWQ.alike hK9, hD9⟩, hS.F htQ⟩) hS.2.2 dX3_doLooks_13

set_option maxHeartbeats 4000000 in
set_option maxRecDepth 100000 in
theorem c_X1_doLooks_X1_1 (l : Launch) (dC : Nat → ClassId) (dI : Nat → Nat → Nat) (ad : Nat → Nat) (cB bS : Nat)    (bo : Nat) (aEl : Nat) (i0 : Nat) (sk : Int32) (sv : Int32) (scl : Int32) (x : Int32) (cEl : ClassId) (fEl : Nat → Option Nat) (a0 : Nat) (sz_ : Nat) (mdc : Int32) (tl : List Nat) (sz : Nat) (hsz : sz_ + 4 ≤ 10) (zL : okL ad fEl sz_ tl) : Met l yX1_doLooks wsX1_doLooks ({ frames := 6, cells := 0, slots := 0, locals := 131 } : Room) (va_Pc [.ref a0, .int x, .ref bo] (fun U => U.heap.size = sz ∧ va_P (dC, dI) vwCl [(zo1iri bo mdc aEl (nI sz_)), (zaR aEl cEl 10 fEl)] U.heap ∧ va_K (dC, dI) vwCl [(cEl, .object "java/lang/Object")] U ∧ va_D (fun _ => True) [(zo1iri bo mdc aEl (nI sz_)), (zaR aEl cEl 10 fEl)] ∧ Gi ad cB bS (va_A [(zo1iri bo mdc aEl (nI sz_)), (zaR aEl cEl 10 fEl)] sz) U ∧ Gb (va_A [(zo1iri bo mdc aEl (nI sz_)), (zaR aEl cEl 10 fEl)] sz) U ∧ Gw (va_A [(zo1iri bo mdc aEl (nI sz_)), (zaR aEl cEl 10 fEl)] sz) U ∧ Fz dC dI [(zo3iiii a0 sk (nI i0) sv scl)] [] (va_A [(zo1iri bo mdc aEl (nI sz_)), (zaR aEl cEl 10 fEl)] sz) U)) (va_Qi (fun (r : Int32) (u : (Int32) × (Nat) × (Nat → Option Nat)) => match u with | (mdc9, sz_9, fEl9) => r = (((x + nI i0) - sv) * 2) ^^^ 7 ∧ sz_9 = sz_ + 4 ∧ okL ad fEl9 sz_9 (tl ++ [31, 3, 2, 1])) (fun (u : (Int32) × (Nat) × (Nat → Option Nat)) (t : State) => match u with | (mdc9, sz_9, fEl9) => va_P (dC, dI) vwCl [(zo1iri bo mdc9 aEl (nI sz_9)), (zaR aEl cEl 10 fEl9)] t.heap ∧ va_K (dC, dI) vwCl [(cEl, .object "java/lang/Object")] t ∧ va_D (va_A [(zo1iri bo mdc aEl (nI sz_)), (zaR aEl cEl 10 fEl)] sz) [(zo1iri bo mdc9 aEl (nI sz_9)), (zaR aEl cEl 10 fEl9)]) (va_A [(zo1iri bo mdc aEl (nI sz_)), (zaR aEl cEl 10 fEl)] sz)) 0 0 (va_A [(zo1iri bo mdc aEl (nI sz_)), (zaR aEl cEl 10 fEl)] sz) := by
  refine met_ofQ (cc := cX1_doLooks) (maxL := 3) (ret := (some .int)) (by decide) rfl ?_
  intro p e s m args below meth c s₁ Q B hml hv hQ
  obtain ⟨rfl, hsz, hP, hK, hD0, hI_, hB_, hW_, hZ⟩ := hv
  have hx := B.exec
  have hb := B.bytes
  have hr := B.returns
  have hts := atoms_spec (ws := wsX1_doLooks) B.pre
  have hown : s.vm.findClass RX1 = some m.cls := findClass_of_methodNamed B.named
  have hlocks := B.notSynchronized
  subst hsz
  have hD := hD0.self (sz := s.heap.size)
  generalize hAe : va_A [(zo1iri bo mdc aEl (nI sz_)), (zaR aEl cEl 10 fEl)] s.heap.size = A at hD hQ hI_ hB_ hW_ hZ ⊢
  have hA : ∀ q : Nat, s.heap.size ≤ q → A q := fun q h => by rw [← hAe]; exact Or.inr h
  have hS : va_S A s.heap s.heap [] := va_S.rf
  have hl := lv_entry [.ref a0, .int x, .ref bo] (n := 3) (Nat.le_of_ble_eq_true rfl)
  rw [lg_entry_eq]
  generalize (lg_sl [.ref a0, .int x, .ref bo] ++ List.replicate (3 - (lg_sl [.ref a0, .int x, .ref bo]).length) Slot.unset).toArray = ls at hl ⊢
  generalize hag : ([.ref a0, .int x, .ref bo] : List Value).toArray = args at hts hQ ⊢
  have hl : lv_has ls 3 [(0, .ref a0), (1, .int x), (2, .ref bo)] := hl
  obtain ⟨H, hH⟩ : ∃ H : Heap, H = s.heap := ⟨_, rfl⟩
  rw [← hH] at hP
  rw [← hH]
  have hS : va_S A s.heap H [] := by rw [hH]; exact hS
  obtain ⟨locs, hlo⟩ : ∃ L : List Loc, L = [] := ⟨_, rfl⟩
  rw [← hlo] at hS
  rw [← hlo]
  clear hH hlo
  refine lv_bipush (v := 31) hx hb dX1_doLooks_0 (by decide) ?_
  refine lv_aload_n hx hb dX1_doLooks_2 rfl (lv_at hl 2 rfl) ?_
  have hPc := hP.sub (ws' := [(zo1iri bo mdc aEl (nI sz_)), (zaR aEl cEl 10 fEl)]) [0, 1] rfl
  have hDc := hD.sub (ws' := [(zo1iri bo mdc aEl (nI sz_)), (zaR aEl cEl 10 fEl)]) [0, 1] (by decide) rfl
  have hKc := hK.sub (tys' := [(cEl, .object "java/lang/Object")]) [0] rfl
  have hFc := va_free (wc := [(zo1iri bo mdc aEl (nI sz_)), (zaR aEl cEl 10 fEl)]) hD hS hA [0, 1] rfl
  refine va_callv (va_runU2 (As := [.int 31, .ref bo]) (rest := []) ⟨hx, hb, hml, hown, hts⟩ (c_begin1 l dC dI ad cB bS bo aEl 31 cEl fEl sz_ mdc tl H.size (by omega) (by omega) (zL)) (u2_cw (x := xb1) 2 hB_ inb1 rfl rfl rfl rfl rfl (by decide +kernel) ⟨Nat.le_of_ble_eq_true rfl, Nat.le_of_ble_eq_true rfl⟩) ⟨fun a U g mk q => by obtain ⟨q0, q1, qP, qK, qD, qhI_⟩ := q; exact ⟨q0, q1, qP, va_K.moved (u := U) (U := U.calling g mk a) (Vm.Alike.refl U.vm) qK, qD, qhI_.same rfl rfl⟩, fun U hU hW => ⟨rfl, by rw [hU], by rw [hU]; exact hPc, va_K.moved hW.alike hKc, hDc.weaken (fun _ _ _ _ => trivial), hI_.call hS hU hW (fun q h => hFc q h)⟩⟩ rfl rfl hl.1 rfl (lv_room (Nat.le_of_ble_eq_true rfl)) dX1_doLooks_3 ⟨Nat.le_of_ble_eq_true rfl, Nat.le_of_ble_eq_true rfl⟩) hS (fun q _ h => hFc q h) hFc (fun u tC H1 locs htC hvm hw_2 hB hz1 hk1 hS => ?_)
  obtain ⟨mdc9_3, sz_9_4, fEl9_5⟩ := u
  try dsimp only at hw_2 hB
  obtain ⟨hP1, hK1, hD1⟩ := hB
  rw [htC] at hP1
  have hK1 := va_K.moved hvm.symm hK1
  obtain ⟨hP, hD⟩ := va_join (wr := []) (w1 := [(zo1iri bo mdc9_3 aEl (nI sz_9_4)), (zaR aEl cEl 10 fEl9_5)]) hP hD [0, 1] [] rfl rfl (by decide) (by decide) hk1 hFc hP1 hD1
  have hK := (hK.sub (tys' := []) [] rfl).app hK1
  generalize H1 = H at hP hS ⊢
  have hP : va_P (dC, dI) vwCl [(zo1iri bo mdc9_3 aEl (nI sz_9_4)), (zaR aEl cEl 10 fEl9_5)] H := hP
  have hD : va_D A [(zo1iri bo mdc9_3 aEl (nI sz_9_4)), (zaR aEl cEl 10 fEl9_5)] := hD
  have hK : va_K (dC, dI) vwCl [(cEl, .object "java/lang/Object")] s := hK
  obtain ⟨e_6, hL_7⟩ := hw_2
  obtain rfl := (e_6).symm
  refine lv_aload_n hx hb dX1_doLooks_6 rfl (lv_at hl 0 rfl) ?_
  refine lv_iload_n hx hb dX1_doLooks_7 rfl (lv_at hl 1 rfl) ?_
  refine lv_aload_n hx hb dX1_doLooks_8 rfl (lv_at hl 2 rfl) ?_
  have hPc := hP.sub (ws' := [(zo1iri bo mdc9_3 aEl (nI (sz_ + 1))), (zaR aEl cEl 10 fEl9_5)]) [0, 1] rfl
  have hDc := hD.sub (ws' := [(zo1iri bo mdc9_3 aEl (nI (sz_ + 1))), (zaR aEl cEl 10 fEl9_5)]) [0, 1] (by decide) rfl
  have hKc := hK.sub (tys' := [(cEl, .object "java/lang/Object")]) [0] rfl
  have hFc := va_free (wc := [(zo1iri bo mdc9_3 aEl (nI (sz_ + 1))), (zaR aEl cEl 10 fEl9_5)]) hD hS hA [0, 1] rfl
  refine va_calli (va_runSU (hZ.2.1.1 3 (RX1, TX1, 4) rfl).2 (As := [.int x, .ref bo]) (rest := []) ⟨hx, hb, hml, hown, hts⟩ (c_X3_doLooks_X1_1 l dC dI ad cB bS    bo aEl i0 sk sv scl x cEl fEl9_5 a0 (sz_ + 1) mdc9_3 (tl ++ [31]) H.size (by omega) (hL_7)) (va_cwSU 2 hts gX1_doLooks_X3_doLooks_s13 rfl rfl rfl (by decide +kernel) ⟨Nat.le_of_ble_eq_true rfl, Nat.le_of_ble_eq_true rfl⟩) ⟨fun a U g mk q => by obtain ⟨q0, q1, qP, qK, qD, qhI_, qhB_, qhW_, qhZ⟩ := q; exact ⟨q0, q1, qP, va_K.moved (u := U) (U := U.calling g mk a) (Vm.Alike.refl U.vm) qK, qD, qhI_.same rfl rfl, qhB_.same rfl rfl, qhW_.same rfl rfl, qhZ.same rfl rfl⟩, va_recv hZ.2.1 (hZ.P hS) (ci := 3) (q := (RX1, TX1, 4)) (q0 := 0) rfl rfl, fun U hU hW => ⟨rfl, by rw [hU], by rw [hU]; exact hPc, va_K.moved hW.alike hKc, hDc.weaken (fun _ _ _ _ => trivial), hI_.call hS hU hW (fun q h => hFc q h), hB_.call hS hU hW (fun q h => hFc q h), hW_.call hS hU hW (fun q h => hFc q h), (hZ.sub [0] [] rfl rfl).call hS hU hW (fun q h => hFc q h)⟩⟩ rfl rfl hl.1 rfl (lv_room (Nat.le_of_ble_eq_true rfl)) dX1_doLooks_9 ⟨Nat.le_of_ble_eq_true rfl, Nat.le_of_ble_eq_true rfl⟩) hS (fun q _ h => hFc q h) hFc (fun r_8 u tC H1 locs htC hvm hw_9 hB hz1 hk1 hS => ?_)
  obtain ⟨mdc9_10, sz_9_11, fEl9_12⟩ := u
  try dsimp only at hw_9 hB
  obtain ⟨hP1, hK1, hD1⟩ := hB
  rw [htC] at hP1
  have hK1 := va_K.moved hvm.symm hK1
  obtain ⟨hP, hD⟩ := va_join (wr := []) (w1 := [(zo1iri bo mdc9_10 aEl (nI sz_9_11)), (zaR aEl cEl 10 fEl9_12)]) hP hD [0, 1] [] rfl rfl (by decide) (by decide) hk1 hFc hP1 hD1
  have hK := (hK.sub (tys' := []) [] rfl).app hK1
  generalize H1 = H at hP hS ⊢
  have hP : va_P (dC, dI) vwCl [(zo1iri bo mdc9_10 aEl (nI sz_9_11)), (zaR aEl cEl 10 fEl9_12)] H := hP
  have hD : va_D A [(zo1iri bo mdc9_10 aEl (nI sz_9_11)), (zaR aEl cEl 10 fEl9_12)] := hD
  have hK : va_K (dC, dI) vwCl [(cEl, .object "java/lang/Object")] s := hK
  obtain ⟨er_13, e_14, hL_15⟩ := hw_9
  obtain rfl := (e_14).symm
  subst er_13
  refine lv_bipush (v := 7) hx hb dX1_doLooks_12 (by decide) ?_
  refine lv_ixor hx hb dX1_doLooks_14 ?_
  rw [hQ]
  have hP9 := hP.sub (ws' := [(zo1iri bo mdc9_10 aEl (nI ((sz_ + 1) + 3))), (zaR aEl cEl 10 fEl9_12)]) [0, 1] rfl
  have hD9 := hD.sub (ws' := [(zo1iri bo mdc9_10 aEl (nI ((sz_ + 1) + 3))), (zaR aEl cEl 10 fEl9_12)]) [0, 1] (by decide) rfl
  have hK9 := hK.sub (tys' := [(cEl, .object "java/lang/Object")]) [0] rfl
  exact W.iret (v := (((x + nI i0) - sv) * 2) ^^^ 7) hx hb hr (fun tQ htQ hWQ => ⟨⟨((((x + nI i0) - sv) * 2) ^^^ 7), (mdc9_10, ((sz_ + 1) + 3), fEl9_12), rfl, ⟨rfl, by omega, by have h9 := okL_as (hL_15); exact h9⟩, by rw [htQ]; exact hP9, va_K.moved hWQ.alike hK9, hD9⟩, hS.F htQ⟩) hS.2.2 dX1_doLooks_15

set_option maxHeartbeats 4000000 in
set_option maxRecDepth 100000 in
theorem c_X1_doLooks_X1_0 (l : Launch) (dC : Nat → ClassId) (dI : Nat → Nat → Nat) (ad : Nat → Nat) (cB bS : Nat)    (bo : Nat) (i0 : Nat) (sk : Int32) (sv : Int32) (scl : Int32) (x : Int32) (a0 : Nat) (mdc : Int32) (sz : Nat) : Met l yX1_doLooks wsX1_doLooks ({ frames := 6, cells := 1, slots := 10, locals := 131 } : Room) (va_Pc [.ref a0, .int x, .ref bo] (fun U => U.heap.size = sz ∧ va_P (dC, dI) vwCl [(zo1iri bo mdc bS 0)] U.heap ∧ va_K (dC, dI) vwCl [] U ∧ va_D (fun _ => True) [(zo1iri bo mdc bS 0)] ∧ Gi ad cB bS (va_A [(zo1iri bo mdc bS 0)] sz) U ∧ Gb (va_A [(zo1iri bo mdc bS 0)] sz) U ∧ Gw (va_A [(zo1iri bo mdc bS 0)] sz) U ∧ Fz dC dI [(zo3iiii a0 sk (nI i0) sv scl)] [] (va_A [(zo1iri bo mdc bS 0)] sz) U)) (va_Qi (fun (r : Int32) (u : (Int32) × (Nat) × (ClassId) × (Nat) × (Nat → Option Nat)) => match u with | (mdc9, aEl9, cEl9, sz_9, fEl9) => r = (((x + nI i0) - sv) * 2) ^^^ 7 ∧ sz_9 = 4 ∧ okL ad fEl9 sz_9 [31, 3, 2, 1]) (fun (u : (Int32) × (Nat) × (ClassId) × (Nat) × (Nat → Option Nat)) (t : State) => match u with | (mdc9, aEl9, cEl9, sz_9, fEl9) => va_P (dC, dI) vwCl [(zo1iri bo mdc9 aEl9 (nI sz_9)), (zaR aEl9 cEl9 10 fEl9)] t.heap ∧ va_K (dC, dI) vwCl [(cEl9, .object "java/lang/Object")] t ∧ va_D (va_A [(zo1iri bo mdc bS 0)] sz) [(zo1iri bo mdc9 aEl9 (nI sz_9)), (zaR aEl9 cEl9 10 fEl9)]) (va_A [(zo1iri bo mdc bS 0)] sz)) 1 10 (va_A [(zo1iri bo mdc bS 0)] sz) := by
  refine met_ofQ (cc := cX1_doLooks) (maxL := 3) (ret := (some .int)) (by decide) rfl ?_
  intro p e s m args below meth c s₁ Q B hml hv hQ
  obtain ⟨rfl, hsz, hP, hK, hD0, hI_, hB_, hW_, hZ⟩ := hv
  have hx := B.exec
  have hb := B.bytes
  have hr := B.returns
  have hts := atoms_spec (ws := wsX1_doLooks) B.pre
  have hown : s.vm.findClass RX1 = some m.cls := findClass_of_methodNamed B.named
  have hlocks := B.notSynchronized
  subst hsz
  have hD := hD0.self (sz := s.heap.size)
  generalize hAe : va_A [(zo1iri bo mdc bS 0)] s.heap.size = A at hD hQ hI_ hB_ hW_ hZ ⊢
  have hA : ∀ q : Nat, s.heap.size ≤ q → A q := fun q h => by rw [← hAe]; exact Or.inr h
  have hS : va_S A s.heap s.heap [] := va_S.rf
  have hl := lv_entry [.ref a0, .int x, .ref bo] (n := 3) (Nat.le_of_ble_eq_true rfl)
  rw [lg_entry_eq]
  generalize (lg_sl [.ref a0, .int x, .ref bo] ++ List.replicate (3 - (lg_sl [.ref a0, .int x, .ref bo]).length) Slot.unset).toArray = ls at hl ⊢
  generalize hag : ([.ref a0, .int x, .ref bo] : List Value).toArray = args at hts hQ ⊢
  have hl : lv_has ls 3 [(0, .ref a0), (1, .int x), (2, .ref bo)] := hl
  obtain ⟨H, hH⟩ : ∃ H : Heap, H = s.heap := ⟨_, rfl⟩
  rw [← hH] at hP
  rw [← hH]
  have hS : va_S A s.heap H [] := by rw [hH]; exact hS
  obtain ⟨locs, hlo⟩ : ∃ L : List Loc, L = [] := ⟨_, rfl⟩
  rw [← hlo] at hS
  rw [← hlo]
  clear hH hlo
  refine lv_bipush (v := 31) hx hb dX1_doLooks_0 (by decide) ?_
  refine lv_aload_n hx hb dX1_doLooks_2 rfl (lv_at hl 2 rfl) ?_
  have hPc := hP.sub (ws' := [(zo1iri bo mdc bS 0)]) [0] rfl
  have hDc := hD.sub (ws' := [(zo1iri bo mdc bS 0)]) [0] (by decide) rfl
  have hKc := hK.sub (tys' := []) [] rfl
  have hFc := va_free (wc := [(zo1iri bo mdc bS 0)]) hD hS hA [0] rfl
  refine va_callv (va_runU2 (As := [.int 31, .ref bo]) (rest := []) ⟨hx, hb, hml, hown, hts⟩ (c_begin0 l dC dI ad cB bS bo mdc 31 H.size (by omega)) (u2_cw (x := xb1) 2 hB_ inb1 rfl rfl rfl rfl rfl (by decide +kernel) ⟨Nat.le_of_ble_eq_true rfl, Nat.le_of_ble_eq_true rfl⟩) ⟨fun a U g mk q => by obtain ⟨q0, q1, qP, qK, qD, qhI_⟩ := q; exact ⟨q0, q1, qP, va_K.moved (u := U) (U := U.calling g mk a) (Vm.Alike.refl U.vm) qK, qD, qhI_.same rfl rfl⟩, fun U hU hW => ⟨rfl, by rw [hU], by rw [hU]; exact hPc, va_K.moved hW.alike hKc, hDc.weaken (fun _ _ _ _ => trivial), hI_.call hS hU hW (fun q h => hFc q h)⟩⟩ rfl rfl hl.1 rfl (lv_room (Nat.le_of_ble_eq_true rfl)) dX1_doLooks_3 ⟨Nat.le_of_ble_eq_true rfl, Nat.le_of_ble_eq_true rfl⟩) hS (fun q _ h => hFc q h) hFc (fun u tC H1 locs htC hvm hw_2 hB hz1 hk1 hS => ?_)
  obtain ⟨mdc9_3, aEl9_4, cEl9_5, sz_9_6, fEl9_7⟩ := u
  try dsimp only at hw_2 hB
  obtain ⟨hP1, hK1, hD1⟩ := hB
  rw [htC] at hP1
  have hK1 := va_K.moved hvm.symm hK1
  obtain ⟨hP, hD⟩ := va_join (wr := []) (w1 := [(zo1iri bo mdc9_3 aEl9_4 (nI sz_9_6)), (zaR aEl9_4 cEl9_5 10 fEl9_7)]) hP hD [0] [] rfl rfl (by decide) (by decide) hk1 hFc hP1 hD1
  have hK := (hK.sub (tys' := []) [] rfl).app hK1
  generalize H1 = H at hP hS ⊢
  have hP : va_P (dC, dI) vwCl [(zo1iri bo mdc9_3 aEl9_4 (nI sz_9_6)), (zaR aEl9_4 cEl9_5 10 fEl9_7)] H := hP
  have hD : va_D A [(zo1iri bo mdc9_3 aEl9_4 (nI sz_9_6)), (zaR aEl9_4 cEl9_5 10 fEl9_7)] := hD
  have hK : va_K (dC, dI) vwCl [(cEl9_5, .object "java/lang/Object")] s := hK
  refine W.widen (k := 1) (n := 10) (by omega) (by omega) ?_
  obtain ⟨e_8, hL_9⟩ := hw_2
  obtain rfl := (e_8).symm
  refine lv_aload_n hx hb dX1_doLooks_6 rfl (lv_at hl 0 rfl) ?_
  refine lv_iload_n hx hb dX1_doLooks_7 rfl (lv_at hl 1 rfl) ?_
  refine lv_aload_n hx hb dX1_doLooks_8 rfl (lv_at hl 2 rfl) ?_
  have hPc := hP.sub (ws' := [(zo1iri bo mdc9_3 aEl9_4 (nI 1)), (zaR aEl9_4 cEl9_5 10 fEl9_7)]) [0, 1] rfl
  have hDc := hD.sub (ws' := [(zo1iri bo mdc9_3 aEl9_4 (nI 1)), (zaR aEl9_4 cEl9_5 10 fEl9_7)]) [0, 1] (by decide) rfl
  have hKc := hK.sub (tys' := [(cEl9_5, .object "java/lang/Object")]) [0] rfl
  have hFc := va_free (wc := [(zo1iri bo mdc9_3 aEl9_4 (nI 1)), (zaR aEl9_4 cEl9_5 10 fEl9_7)]) hD hS hA [0, 1] rfl
  refine va_calli (va_runSU (hZ.2.1.1 3 (RX1, TX1, 4) rfl).2 (As := [.int x, .ref bo]) (rest := []) ⟨hx, hb, hml, hown, hts⟩ (c_X3_doLooks_X1_1 l dC dI ad cB bS    bo aEl9_4 i0 sk sv scl x cEl9_5 fEl9_7 a0 1 mdc9_3 ([31]) H.size (by omega) (hL_9)) (va_cwSU 2 hts gX1_doLooks_X3_doLooks_s13 rfl rfl rfl (by decide +kernel) ⟨Nat.le_of_ble_eq_true rfl, Nat.le_of_ble_eq_true rfl⟩) ⟨fun a U g mk q => by obtain ⟨q0, q1, qP, qK, qD, qhI_, qhB_, qhW_, qhZ⟩ := q; exact ⟨q0, q1, qP, va_K.moved (u := U) (U := U.calling g mk a) (Vm.Alike.refl U.vm) qK, qD, qhI_.same rfl rfl, qhB_.same rfl rfl, qhW_.same rfl rfl, qhZ.same rfl rfl⟩, va_recv hZ.2.1 (hZ.P hS) (ci := 3) (q := (RX1, TX1, 4)) (q0 := 0) rfl rfl, fun U hU hW => ⟨rfl, by rw [hU], by rw [hU]; exact hPc, va_K.moved hW.alike hKc, hDc.weaken (fun _ _ _ _ => trivial), hI_.call hS hU hW (fun q h => hFc q h), hB_.call hS hU hW (fun q h => hFc q h), hW_.call hS hU hW (fun q h => hFc q h), (hZ.sub [0] [] rfl rfl).call hS hU hW (fun q h => hFc q h)⟩⟩ rfl rfl hl.1 rfl (lv_room (Nat.le_of_ble_eq_true rfl)) dX1_doLooks_9 ⟨Nat.le_of_ble_eq_true rfl, Nat.le_of_ble_eq_true rfl⟩) hS (fun q _ h => hFc q h) hFc (fun r_10 u tC H1 locs htC hvm hw_11 hB hz1 hk1 hS => ?_)
  obtain ⟨mdc9_12, sz_9_13, fEl9_14⟩ := u
  try dsimp only at hw_11 hB
  obtain ⟨hP1, hK1, hD1⟩ := hB
  rw [htC] at hP1
  have hK1 := va_K.moved hvm.symm hK1
  obtain ⟨hP, hD⟩ := va_join (wr := []) (w1 := [(zo1iri bo mdc9_12 aEl9_4 (nI sz_9_13)), (zaR aEl9_4 cEl9_5 10 fEl9_14)]) hP hD [0, 1] [] rfl rfl (by decide) (by decide) hk1 hFc hP1 hD1
  have hK := (hK.sub (tys' := []) [] rfl).app hK1
  generalize H1 = H at hP hS ⊢
  have hP : va_P (dC, dI) vwCl [(zo1iri bo mdc9_12 aEl9_4 (nI sz_9_13)), (zaR aEl9_4 cEl9_5 10 fEl9_14)] H := hP
  have hD : va_D A [(zo1iri bo mdc9_12 aEl9_4 (nI sz_9_13)), (zaR aEl9_4 cEl9_5 10 fEl9_14)] := hD
  have hK : va_K (dC, dI) vwCl [(cEl9_5, .object "java/lang/Object")] s := hK
  obtain ⟨er_15, e_16, hL_17⟩ := hw_11
  obtain rfl := (e_16).symm
  subst er_15
  refine lv_bipush (v := 7) hx hb dX1_doLooks_12 (by decide) ?_
  refine lv_ixor hx hb dX1_doLooks_14 ?_
  rw [hQ]
  have hP9 := hP.sub (ws' := [(zo1iri bo mdc9_12 aEl9_4 (nI (1 + 3))), (zaR aEl9_4 cEl9_5 10 fEl9_14)]) [0, 1] rfl
  have hD9 := hD.sub (ws' := [(zo1iri bo mdc9_12 aEl9_4 (nI (1 + 3))), (zaR aEl9_4 cEl9_5 10 fEl9_14)]) [0, 1] (by decide) rfl
  have hK9 := hK.sub (tys' := [(cEl9_5, .object "java/lang/Object")]) [0] rfl
  refine W.widen (k := 1) (n := 10) (by omega) (by omega) ?_
  exact W.iret (v := (((x + nI i0) - sv) * 2) ^^^ 7) hx hb hr (fun tQ htQ hWQ => ⟨⟨((((x + nI i0) - sv) * 2) ^^^ 7), (mdc9_12, aEl9_4, cEl9_5, (1 + 3), fEl9_14), rfl, ⟨rfl, by omega, hL_17⟩, by rw [htQ]; exact hP9, va_K.moved hWQ.alike hK9, hD9⟩, hS.F htQ⟩) hS.2.2 dX1_doLooks_15

theorem kc_X3_doSees_X10_1_0 : (.fieldLink RX3 15 "MistHeaps$Heap" "number" "I" : Cond) ∈ wsX3_doSees := kc_of 231 rfl rfl rfl
theorem kc_X3_doSees_X10_1_1 : ∀ w ∈ wsX100, w ∈ wsX3_doSees := fun w h => List.mem_cons_of_mem _ (gin_wsX100 w h)
set_option maxHeartbeats 4000000 in
set_option maxRecDepth 100000 in
theorem c_X3_doSees_X10_1 (l : Launch) (dC : Nat → ClassId) (dI : Nat → Nat → Nat) (ad : Nat → Nat) (cB bS : Nat)    (bo : Nat) (aEl : Nat) (i0 : Nat) (sk : Int32) (sv : Int32) (scl : Int32) (x : Int32) (cEl : ClassId) (fEl : Nat → Option Nat) (a0 : Nat) (sz_ : Nat) (mdc : Int32) (tl : List Nat) (sz : Nat) (hsz : sz_ + 1 ≤ 10) (zL : okL ad fEl sz_ tl) : Met l yX3_doSees wsX3_doSees ({ frames := 3, cells := 0, slots := 0, locals := 65 } : Room) (va_Pc [.ref a0, .int x, .ref bo] (fun U => U.heap.size = sz ∧ va_P (dC, dI) vwCl [(zo1iri bo mdc aEl (nI sz_)), (zaR aEl cEl 10 fEl)] U.heap ∧ va_K (dC, dI) vwCl [(cEl, .object "java/lang/Object")] U ∧ va_D (fun _ => True) [(zo1iri bo mdc aEl (nI sz_)), (zaR aEl cEl 10 fEl)] ∧ Gi ad cB bS (va_A [(zo1iri bo mdc aEl (nI sz_)), (zaR aEl cEl 10 fEl)] sz) U ∧ Gb (va_A [(zo1iri bo mdc aEl (nI sz_)), (zaR aEl cEl 10 fEl)] sz) U ∧ Gw (va_A [(zo1iri bo mdc aEl (nI sz_)), (zaR aEl cEl 10 fEl)] sz) U ∧ Fz dC dI [(zo12iiii a0 sk (nI i0) sv scl)] [] (va_A [(zo1iri bo mdc aEl (nI sz_)), (zaR aEl cEl 10 fEl)] sz) U)) (va_Qi (fun (r : Int32) (u : (Int32) × (Nat) × (Nat → Option Nat)) => match u with | (mdc9, sz_9, fEl9) => r = x + nI i0 ∧ sz_9 = sz_ + 1 ∧ okL ad fEl9 sz_9 (tl ++ [1])) (fun (u : (Int32) × (Nat) × (Nat → Option Nat)) (t : State) => match u with | (mdc9, sz_9, fEl9) => va_P (dC, dI) vwCl [(zo1iri bo mdc9 aEl (nI sz_9)), (zaR aEl cEl 10 fEl9)] t.heap ∧ va_K (dC, dI) vwCl [(cEl, .object "java/lang/Object")] t ∧ va_D (va_A [(zo1iri bo mdc aEl (nI sz_)), (zaR aEl cEl 10 fEl)] sz) [(zo1iri bo mdc9 aEl (nI sz_9)), (zaR aEl cEl 10 fEl9)]) (va_A [(zo1iri bo mdc aEl (nI sz_)), (zaR aEl cEl 10 fEl)] sz)) 0 0 (va_A [(zo1iri bo mdc aEl (nI sz_)), (zaR aEl cEl 10 fEl)] sz) := by
  refine met_ofQ (cc := cX3_doSees) (maxL := 3) (ret := (some .int)) (by decide) rfl ?_
  intro p e s m args below meth c s₁ Q B hml hv hQ
  obtain ⟨rfl, hsz, hP, hK, hD0, hI_, hB_, hW_, hZ⟩ := hv
  have hx := B.exec
  have hb := B.bytes
  have hr := B.returns
  have hts := atoms_spec (ws := wsX3_doSees) B.pre
  have hown : s.vm.findClass RX3 = some m.cls := findClass_of_methodNamed B.named
  have hlocks := B.notSynchronized
  subst hsz
  have hD := hD0.self (sz := s.heap.size)
  generalize hAe : va_A [(zo1iri bo mdc aEl (nI sz_)), (zaR aEl cEl 10 fEl)] s.heap.size = A at hD hQ hI_ hB_ hW_ hZ ⊢
  have hA : ∀ q : Nat, s.heap.size ≤ q → A q := fun q h => by rw [← hAe]; exact Or.inr h
  have hS : va_S A s.heap s.heap [] := va_S.rf
  have hl := lv_entry [.ref a0, .int x, .ref bo] (n := 3) (Nat.le_of_ble_eq_true rfl)
  rw [lg_entry_eq]
  generalize (lg_sl [.ref a0, .int x, .ref bo] ++ List.replicate (3 - (lg_sl [.ref a0, .int x, .ref bo]).length) Slot.unset).toArray = ls at hl ⊢
  generalize hag : ([.ref a0, .int x, .ref bo] : List Value).toArray = args at hts hQ ⊢
  have hl : lv_has ls 3 [(0, .ref a0), (1, .int x), (2, .ref bo)] := hl
  obtain ⟨H, hH⟩ : ∃ H : Heap, H = s.heap := ⟨_, rfl⟩
  rw [← hH] at hP
  rw [← hH]
  have hS : va_S A s.heap H [] := by rw [hH]; exact hS
  obtain ⟨locs, hlo⟩ : ∃ L : List Loc, L = [] := ⟨_, rfl⟩
  rw [← hlo] at hS
  rw [← hlo]
  clear hH hlo
  refine lv_iconst (v := 1) hx hb dX3_doSees_0 (by decide) ?_
  refine lv_aload_n hx hb dX3_doSees_1 rfl (lv_at hl 2 rfl) ?_
  have hPc := hP.sub (ws' := [(zo1iri bo mdc aEl (nI sz_)), (zaR aEl cEl 10 fEl)]) [0, 1] rfl
  have hDc := hD.sub (ws' := [(zo1iri bo mdc aEl (nI sz_)), (zaR aEl cEl 10 fEl)]) [0, 1] (by decide) rfl
  have hKc := hK.sub (tys' := [(cEl, .object "java/lang/Object")]) [0] rfl
  have hFc := va_free (wc := [(zo1iri bo mdc aEl (nI sz_)), (zaR aEl cEl 10 fEl)]) hD hS hA [0, 1] rfl
  refine va_callv (va_runS (As := [.int 1, .ref bo]) (rest := []) ⟨hx, hb, hml, hown, hts⟩ (c_begin1 l dC dI ad cB bS bo aEl 1 cEl fEl sz_ mdc tl H.size (by omega) (by omega) (zL)) (va_cwS 2 hts gX3_doSees_X3_begin rfl rfl rfl hd_yX3_begin.2 ⟨Nat.le_of_ble_eq_true rfl, Nat.le_of_ble_eq_true rfl⟩) ⟨fun a U g mk q => by obtain ⟨q0, q1, qP, qK, qD, qhI_⟩ := q; exact ⟨q0, q1, qP, va_K.moved (u := U) (U := U.calling g mk a) (Vm.Alike.refl U.vm) qK, qD, qhI_.same rfl rfl⟩, fun U hU hW => ⟨rfl, by rw [hU], by rw [hU]; exact hPc, va_K.moved hW.alike hKc, hDc.weaken (fun _ _ _ _ => trivial), hI_.call hS hU hW (fun q h => hFc q h)⟩⟩ rfl rfl hl.1 rfl (lv_room (Nat.le_of_ble_eq_true rfl)) dX3_doSees_2 ⟨Nat.le_of_ble_eq_true rfl, Nat.le_of_ble_eq_true rfl⟩) hS (fun q _ h => hFc q h) hFc (fun u tC H1 locs htC hvm hw_2 hB hz1 hk1 hS => ?_)
  obtain ⟨mdc9_3, sz_9_4, fEl9_5⟩ := u
  try dsimp only at hw_2 hB
  obtain ⟨hP1, hK1, hD1⟩ := hB
  rw [htC] at hP1
  have hK1 := va_K.moved hvm.symm hK1
  obtain ⟨hP, hD⟩ := va_join (wr := []) (w1 := [(zo1iri bo mdc9_3 aEl (nI sz_9_4)), (zaR aEl cEl 10 fEl9_5)]) hP hD [0, 1] [] rfl rfl (by decide) (by decide) hk1 hFc hP1 hD1
  have hK := (hK.sub (tys' := []) [] rfl).app hK1
  generalize H1 = H at hP hS ⊢
  have hP : va_P (dC, dI) vwCl [(zo1iri bo mdc9_3 aEl (nI sz_9_4)), (zaR aEl cEl 10 fEl9_5)] H := hP
  have hD : va_D A [(zo1iri bo mdc9_3 aEl (nI sz_9_4)), (zaR aEl cEl 10 fEl9_5)] := hD
  have hK : va_K (dC, dI) vwCl [(cEl, .object "java/lang/Object")] s := hK
  obtain ⟨e_6, hL_7⟩ := hw_2
  obtain rfl := (e_6).symm
  refine lv_iload_n hx hb dX3_doSees_5 rfl (lv_at hl 1 rfl) ?_
  refine lv_aload_n hx hb dX3_doSees_6 rfl (lv_at hl 0 rfl) ?_
  refine va_get (D := (dC, dI)) (ci := 12) (v := .int (nI i0)) (C := RX10) (T := TX10) (N := 4) hx hb hts kc_X3_doSees_X10_1_1 hown hZ.2.1 (hZ.P hS) 0 rfl rfl 1 (by decide) (hts (.fieldLink RX3 15 "MistHeaps$Heap" "number" "I") kc_X3_doSees_X10_1_0) (fun _ h9 => h9) rfl dX3_doSees_7 ?_
  refine lv_iadd hx hb dX3_doSees_10 ?_
  rw [hQ]
  have hP9 := hP.sub (ws' := [(zo1iri bo mdc9_3 aEl (nI (sz_ + 1))), (zaR aEl cEl 10 fEl9_5)]) [0, 1] rfl
  have hD9 := hD.sub (ws' := [(zo1iri bo mdc9_3 aEl (nI (sz_ + 1))), (zaR aEl cEl 10 fEl9_5)]) [0, 1] (by decide) rfl
  have hK9 := hK.sub (tys' := [(cEl, .object "java/lang/Object")]) [0] rfl
  exact W.iret (v := x + (nI i0)) hx hb hr (fun tQ htQ hWQ => ⟨⟨(x + (nI i0)), (mdc9_3, (sz_ + 1), fEl9_5), rfl, ⟨rfl, by omega, by have h9 := hL_7; exact h9⟩, by rw [htQ]; exact hP9, va_K.moved hWQ.alike hK9, hD9⟩, hS.F htQ⟩) hS.2.2 dX3_doSees_11

theorem kc_X3_doSees_X10_0_0 : (.fieldLink RX3 15 "MistHeaps$Heap" "number" "I" : Cond) ∈ wsX3_doSees := kc_of 231 rfl rfl rfl
theorem kc_X3_doSees_X10_0_1 : ∀ w ∈ wsX100, w ∈ wsX3_doSees := fun w h => List.mem_cons_of_mem _ (gin_wsX100 w h)
set_option maxHeartbeats 4000000 in
set_option maxRecDepth 100000 in
theorem c_X3_doSees_X10_0 (l : Launch) (dC : Nat → ClassId) (dI : Nat → Nat → Nat) (ad : Nat → Nat) (cB bS : Nat)    (bo : Nat) (i0 : Nat) (sk : Int32) (sv : Int32) (scl : Int32) (x : Int32) (a0 : Nat) (mdc : Int32) (sz : Nat) : Met l yX3_doSees wsX3_doSees ({ frames := 6, cells := 1, slots := 10, locals := 122 } : Room) (va_Pc [.ref a0, .int x, .ref bo] (fun U => U.heap.size = sz ∧ va_P (dC, dI) vwCl [(zo1iri bo mdc bS 0)] U.heap ∧ va_K (dC, dI) vwCl [] U ∧ va_D (fun _ => True) [(zo1iri bo mdc bS 0)] ∧ Gi ad cB bS (va_A [(zo1iri bo mdc bS 0)] sz) U ∧ Gb (va_A [(zo1iri bo mdc bS 0)] sz) U ∧ Gw (va_A [(zo1iri bo mdc bS 0)] sz) U ∧ Fz dC dI [(zo12iiii a0 sk (nI i0) sv scl)] [] (va_A [(zo1iri bo mdc bS 0)] sz) U)) (va_Qi (fun (r : Int32) (u : (Int32) × (Nat) × (ClassId) × (Nat) × (Nat → Option Nat)) => match u with | (mdc9, aEl9, cEl9, sz_9, fEl9) => r = x + nI i0 ∧ sz_9 = 1 ∧ okL ad fEl9 sz_9 [1]) (fun (u : (Int32) × (Nat) × (ClassId) × (Nat) × (Nat → Option Nat)) (t : State) => match u with | (mdc9, aEl9, cEl9, sz_9, fEl9) => va_P (dC, dI) vwCl [(zo1iri bo mdc9 aEl9 (nI sz_9)), (zaR aEl9 cEl9 10 fEl9)] t.heap ∧ va_K (dC, dI) vwCl [(cEl9, .object "java/lang/Object")] t ∧ va_D (va_A [(zo1iri bo mdc bS 0)] sz) [(zo1iri bo mdc9 aEl9 (nI sz_9)), (zaR aEl9 cEl9 10 fEl9)]) (va_A [(zo1iri bo mdc bS 0)] sz)) 1 10 (va_A [(zo1iri bo mdc bS 0)] sz) := by
  refine met_ofQ (cc := cX3_doSees) (maxL := 3) (ret := (some .int)) (by decide) rfl ?_
  intro p e s m args below meth c s₁ Q B hml hv hQ
  obtain ⟨rfl, hsz, hP, hK, hD0, hI_, hB_, hW_, hZ⟩ := hv
  have hx := B.exec
  have hb := B.bytes
  have hr := B.returns
  have hts := atoms_spec (ws := wsX3_doSees) B.pre
  have hown : s.vm.findClass RX3 = some m.cls := findClass_of_methodNamed B.named
  have hlocks := B.notSynchronized
  subst hsz
  have hD := hD0.self (sz := s.heap.size)
  generalize hAe : va_A [(zo1iri bo mdc bS 0)] s.heap.size = A at hD hQ hI_ hB_ hW_ hZ ⊢
  have hA : ∀ q : Nat, s.heap.size ≤ q → A q := fun q h => by rw [← hAe]; exact Or.inr h
  have hS : va_S A s.heap s.heap [] := va_S.rf
  have hl := lv_entry [.ref a0, .int x, .ref bo] (n := 3) (Nat.le_of_ble_eq_true rfl)
  rw [lg_entry_eq]
  generalize (lg_sl [.ref a0, .int x, .ref bo] ++ List.replicate (3 - (lg_sl [.ref a0, .int x, .ref bo]).length) Slot.unset).toArray = ls at hl ⊢
  generalize hag : ([.ref a0, .int x, .ref bo] : List Value).toArray = args at hts hQ ⊢
  have hl : lv_has ls 3 [(0, .ref a0), (1, .int x), (2, .ref bo)] := hl
  obtain ⟨H, hH⟩ : ∃ H : Heap, H = s.heap := ⟨_, rfl⟩
  rw [← hH] at hP
  rw [← hH]
  have hS : va_S A s.heap H [] := by rw [hH]; exact hS
  obtain ⟨locs, hlo⟩ : ∃ L : List Loc, L = [] := ⟨_, rfl⟩
  rw [← hlo] at hS
  rw [← hlo]
  clear hH hlo
  refine lv_iconst (v := 1) hx hb dX3_doSees_0 (by decide) ?_
  refine lv_aload_n hx hb dX3_doSees_1 rfl (lv_at hl 2 rfl) ?_
  have hPc := hP.sub (ws' := [(zo1iri bo mdc bS 0)]) [0] rfl
  have hDc := hD.sub (ws' := [(zo1iri bo mdc bS 0)]) [0] (by decide) rfl
  have hKc := hK.sub (tys' := []) [] rfl
  have hFc := va_free (wc := [(zo1iri bo mdc bS 0)]) hD hS hA [0] rfl
  refine va_callv (va_runS (As := [.int 1, .ref bo]) (rest := []) ⟨hx, hb, hml, hown, hts⟩ (c_begin0 l dC dI ad cB bS bo mdc 1 H.size (by omega)) (va_cwS 2 hts gX3_doSees_X3_begin rfl rfl rfl hd_yX3_begin.2 ⟨Nat.le_of_ble_eq_true rfl, Nat.le_of_ble_eq_true rfl⟩) ⟨fun a U g mk q => by obtain ⟨q0, q1, qP, qK, qD, qhI_⟩ := q; exact ⟨q0, q1, qP, va_K.moved (u := U) (U := U.calling g mk a) (Vm.Alike.refl U.vm) qK, qD, qhI_.same rfl rfl⟩, fun U hU hW => ⟨rfl, by rw [hU], by rw [hU]; exact hPc, va_K.moved hW.alike hKc, hDc.weaken (fun _ _ _ _ => trivial), hI_.call hS hU hW (fun q h => hFc q h)⟩⟩ rfl rfl hl.1 rfl (lv_room (Nat.le_of_ble_eq_true rfl)) dX3_doSees_2 ⟨Nat.le_of_ble_eq_true rfl, Nat.le_of_ble_eq_true rfl⟩) hS (fun q _ h => hFc q h) hFc (fun u tC H1 locs htC hvm hw_2 hB hz1 hk1 hS => ?_)
  obtain ⟨mdc9_3, aEl9_4, cEl9_5, sz_9_6, fEl9_7⟩ := u
  try dsimp only at hw_2 hB
  obtain ⟨hP1, hK1, hD1⟩ := hB
  rw [htC] at hP1
  have hK1 := va_K.moved hvm.symm hK1
  obtain ⟨hP, hD⟩ := va_join (wr := []) (w1 := [(zo1iri bo mdc9_3 aEl9_4 (nI sz_9_6)), (zaR aEl9_4 cEl9_5 10 fEl9_7)]) hP hD [0] [] rfl rfl (by decide) (by decide) hk1 hFc hP1 hD1
  have hK := (hK.sub (tys' := []) [] rfl).app hK1
  generalize H1 = H at hP hS ⊢
  have hP : va_P (dC, dI) vwCl [(zo1iri bo mdc9_3 aEl9_4 (nI sz_9_6)), (zaR aEl9_4 cEl9_5 10 fEl9_7)] H := hP
  have hD : va_D A [(zo1iri bo mdc9_3 aEl9_4 (nI sz_9_6)), (zaR aEl9_4 cEl9_5 10 fEl9_7)] := hD
  have hK : va_K (dC, dI) vwCl [(cEl9_5, .object "java/lang/Object")] s := hK
  refine W.widen (k := 1) (n := 10) (by omega) (by omega) ?_
  obtain ⟨e_8, hL_9⟩ := hw_2
  obtain rfl := (e_8).symm
  refine lv_iload_n hx hb dX3_doSees_5 rfl (lv_at hl 1 rfl) ?_
  refine lv_aload_n hx hb dX3_doSees_6 rfl (lv_at hl 0 rfl) ?_
  refine va_get (D := (dC, dI)) (ci := 12) (v := .int (nI i0)) (C := RX10) (T := TX10) (N := 4) hx hb hts kc_X3_doSees_X10_0_1 hown hZ.2.1 (hZ.P hS) 0 rfl rfl 1 (by decide) (hts (.fieldLink RX3 15 "MistHeaps$Heap" "number" "I") kc_X3_doSees_X10_0_0) (fun _ h9 => h9) rfl dX3_doSees_7 ?_
  refine lv_iadd hx hb dX3_doSees_10 ?_
  rw [hQ]
  have hP9 := hP.sub (ws' := [(zo1iri bo mdc9_3 aEl9_4 (nI 1)), (zaR aEl9_4 cEl9_5 10 fEl9_7)]) [0, 1] rfl
  have hD9 := hD.sub (ws' := [(zo1iri bo mdc9_3 aEl9_4 (nI 1)), (zaR aEl9_4 cEl9_5 10 fEl9_7)]) [0, 1] (by decide) rfl
  have hK9 := hK.sub (tys' := [(cEl9_5, .object "java/lang/Object")]) [0] rfl
  refine W.widen (k := 1) (n := 10) (by omega) (by omega) ?_
  exact W.iret (v := x + (nI i0)) hx hb hr (fun tQ htQ hWQ => ⟨⟨(x + (nI i0)), (mdc9_3, aEl9_4, cEl9_5, 1, fEl9_7), rfl, ⟨rfl, by omega, hL_9⟩, by rw [htQ]; exact hP9, va_K.moved hWQ.alike hK9, hD9⟩, hS.F htQ⟩) hS.2.2 dX3_doSees_11

set_option maxHeartbeats 4000000 in
set_option maxRecDepth 100000 in
theorem c_X4_doSees_X10_1 (l : Launch) (dC : Nat → ClassId) (dI : Nat → Nat → Nat) (ad : Nat → Nat) (cB bS : Nat)    (bo : Nat) (aEl : Nat) (i0 : Nat) (sk : Int32) (sv : Int32) (scl : Int32) (x : Int32) (cEl : ClassId) (fEl : Nat → Option Nat) (a0 : Nat) (sz_ : Nat) (mdc : Int32) (tl : List Nat) (sz : Nat) (hsz : sz_ + 2 ≤ 10) (zL : okL ad fEl sz_ tl) : Met l yX4_doSees wsX4_doSees ({ frames := 4, cells := 0, slots := 0, locals := 87 } : Room) (va_Pc [.ref a0, .int x, .ref bo] (fun U => U.heap.size = sz ∧ va_P (dC, dI) vwCl [(zo1iri bo mdc aEl (nI sz_)), (zaR aEl cEl 10 fEl)] U.heap ∧ va_K (dC, dI) vwCl [(cEl, .object "java/lang/Object")] U ∧ va_D (fun _ => True) [(zo1iri bo mdc aEl (nI sz_)), (zaR aEl cEl 10 fEl)] ∧ Gi ad cB bS (va_A [(zo1iri bo mdc aEl (nI sz_)), (zaR aEl cEl 10 fEl)] sz) U ∧ Gb (va_A [(zo1iri bo mdc aEl (nI sz_)), (zaR aEl cEl 10 fEl)] sz) U ∧ Gw (va_A [(zo1iri bo mdc aEl (nI sz_)), (zaR aEl cEl 10 fEl)] sz) U ∧ Fz dC dI [(zo12iiii a0 sk (nI i0) sv scl)] [] (va_A [(zo1iri bo mdc aEl (nI sz_)), (zaR aEl cEl 10 fEl)] sz) U)) (va_Qi (fun (r : Int32) (u : (Int32) × (Nat) × (Nat → Option Nat)) => match u with | (mdc9, sz_9, fEl9) => r = x * 3 + nI i0 ∧ sz_9 = sz_ + 2 ∧ okL ad fEl9 sz_9 (tl ++ [11, 1])) (fun (u : (Int32) × (Nat) × (Nat → Option Nat)) (t : State) => match u with | (mdc9, sz_9, fEl9) => va_P (dC, dI) vwCl [(zo1iri bo mdc9 aEl (nI sz_9)), (zaR aEl cEl 10 fEl9)] t.heap ∧ va_K (dC, dI) vwCl [(cEl, .object "java/lang/Object")] t ∧ va_D (va_A [(zo1iri bo mdc aEl (nI sz_)), (zaR aEl cEl 10 fEl)] sz) [(zo1iri bo mdc9 aEl (nI sz_9)), (zaR aEl cEl 10 fEl9)]) (va_A [(zo1iri bo mdc aEl (nI sz_)), (zaR aEl cEl 10 fEl)] sz)) 0 0 (va_A [(zo1iri bo mdc aEl (nI sz_)), (zaR aEl cEl 10 fEl)] sz) := by
  refine met_ofQ (cc := cX4_doSees) (maxL := 3) (ret := (some .int)) (by decide) rfl ?_
  intro p e s m args below meth c s₁ Q B hml hv hQ
  obtain ⟨rfl, hsz, hP, hK, hD0, hI_, hB_, hW_, hZ⟩ := hv
  have hx := B.exec
  have hb := B.bytes
  have hr := B.returns
  have hts := atoms_spec (ws := wsX4_doSees) B.pre
  have hown : s.vm.findClass RX4 = some m.cls := findClass_of_methodNamed B.named
  have hlocks := B.notSynchronized
  subst hsz
  have hD := hD0.self (sz := s.heap.size)
  generalize hAe : va_A [(zo1iri bo mdc aEl (nI sz_)), (zaR aEl cEl 10 fEl)] s.heap.size = A at hD hQ hI_ hB_ hW_ hZ ⊢
  have hA : ∀ q : Nat, s.heap.size ≤ q → A q := fun q h => by rw [← hAe]; exact Or.inr h
  have hS : va_S A s.heap s.heap [] := va_S.rf
  have hl := lv_entry [.ref a0, .int x, .ref bo] (n := 3) (Nat.le_of_ble_eq_true rfl)
  rw [lg_entry_eq]
  generalize (lg_sl [.ref a0, .int x, .ref bo] ++ List.replicate (3 - (lg_sl [.ref a0, .int x, .ref bo]).length) Slot.unset).toArray = ls at hl ⊢
  generalize hag : ([.ref a0, .int x, .ref bo] : List Value).toArray = args at hts hQ ⊢
  have hl : lv_has ls 3 [(0, .ref a0), (1, .int x), (2, .ref bo)] := hl
  obtain ⟨H, hH⟩ : ∃ H : Heap, H = s.heap := ⟨_, rfl⟩
  rw [← hH] at hP
  rw [← hH]
  have hS : va_S A s.heap H [] := by rw [hH]; exact hS
  obtain ⟨locs, hlo⟩ : ∃ L : List Loc, L = [] := ⟨_, rfl⟩
  rw [← hlo] at hS
  rw [← hlo]
  clear hH hlo
  refine lv_bipush (v := 11) hx hb dX4_doSees_0 (by decide) ?_
  refine lv_aload_n hx hb dX4_doSees_2 rfl (lv_at hl 2 rfl) ?_
  have hPc := hP.sub (ws' := [(zo1iri bo mdc aEl (nI sz_)), (zaR aEl cEl 10 fEl)]) [0, 1] rfl
  have hDc := hD.sub (ws' := [(zo1iri bo mdc aEl (nI sz_)), (zaR aEl cEl 10 fEl)]) [0, 1] (by decide) rfl
  have hKc := hK.sub (tys' := [(cEl, .object "java/lang/Object")]) [0] rfl
  have hFc := va_free (wc := [(zo1iri bo mdc aEl (nI sz_)), (zaR aEl cEl 10 fEl)]) hD hS hA [0, 1] rfl
  refine va_callv (va_runU2 (As := [.int 11, .ref bo]) (rest := []) ⟨hx, hb, hml, hown, hts⟩ (c_begin1 l dC dI ad cB bS bo aEl 11 cEl fEl sz_ mdc tl H.size (by omega) (by omega) (zL)) (u2_cw (x := xb4) 2 hB_ inb4 rfl rfl rfl rfl rfl (by decide +kernel) ⟨Nat.le_of_ble_eq_true rfl, Nat.le_of_ble_eq_true rfl⟩) ⟨fun a U g mk q => by obtain ⟨q0, q1, qP, qK, qD, qhI_⟩ := q; exact ⟨q0, q1, qP, va_K.moved (u := U) (U := U.calling g mk a) (Vm.Alike.refl U.vm) qK, qD, qhI_.same rfl rfl⟩, fun U hU hW => ⟨rfl, by rw [hU], by rw [hU]; exact hPc, va_K.moved hW.alike hKc, hDc.weaken (fun _ _ _ _ => trivial), hI_.call hS hU hW (fun q h => hFc q h)⟩⟩ rfl rfl hl.1 rfl (lv_room (Nat.le_of_ble_eq_true rfl)) dX4_doSees_3 ⟨Nat.le_of_ble_eq_true rfl, Nat.le_of_ble_eq_true rfl⟩) hS (fun q _ h => hFc q h) hFc (fun u tC H1 locs htC hvm hw_2 hB hz1 hk1 hS => ?_)
  obtain ⟨mdc9_3, sz_9_4, fEl9_5⟩ := u
  try dsimp only at hw_2 hB
  obtain ⟨hP1, hK1, hD1⟩ := hB
  rw [htC] at hP1
  have hK1 := va_K.moved hvm.symm hK1
  obtain ⟨hP, hD⟩ := va_join (wr := []) (w1 := [(zo1iri bo mdc9_3 aEl (nI sz_9_4)), (zaR aEl cEl 10 fEl9_5)]) hP hD [0, 1] [] rfl rfl (by decide) (by decide) hk1 hFc hP1 hD1
  have hK := (hK.sub (tys' := []) [] rfl).app hK1
  generalize H1 = H at hP hS ⊢
  have hP : va_P (dC, dI) vwCl [(zo1iri bo mdc9_3 aEl (nI sz_9_4)), (zaR aEl cEl 10 fEl9_5)] H := hP
  have hD : va_D A [(zo1iri bo mdc9_3 aEl (nI sz_9_4)), (zaR aEl cEl 10 fEl9_5)] := hD
  have hK : va_K (dC, dI) vwCl [(cEl, .object "java/lang/Object")] s := hK
  obtain ⟨e_6, hL_7⟩ := hw_2
  obtain rfl := (e_6).symm
  refine lv_aload_n hx hb dX4_doSees_6 rfl (lv_at hl 0 rfl) ?_
  refine lv_iload_n hx hb dX4_doSees_7 rfl (lv_at hl 1 rfl) ?_
  refine lv_iconst (v := 3) hx hb dX4_doSees_8 (by decide) ?_
  refine lv_imul hx hb dX4_doSees_9 ?_
  refine lv_aload_n hx hb dX4_doSees_10 rfl (lv_at hl 2 rfl) ?_
  have hPc := hP.sub (ws' := [(zo1iri bo mdc9_3 aEl (nI (sz_ + 1))), (zaR aEl cEl 10 fEl9_5)]) [0, 1] rfl
  have hDc := hD.sub (ws' := [(zo1iri bo mdc9_3 aEl (nI (sz_ + 1))), (zaR aEl cEl 10 fEl9_5)]) [0, 1] (by decide) rfl
  have hKc := hK.sub (tys' := [(cEl, .object "java/lang/Object")]) [0] rfl
  have hFc := va_free (wc := [(zo1iri bo mdc9_3 aEl (nI (sz_ + 1))), (zaR aEl cEl 10 fEl9_5)]) hD hS hA [0, 1] rfl
  refine va_calli (va_runSU (hZ.2.1.1 12 (RX10, TX10, 4) rfl).2 (As := [.int (x * 3), .ref bo]) (rest := []) ⟨hx, hb, hml, hown, hts⟩ (c_X3_doSees_X10_1 l dC dI ad cB bS    bo aEl i0 sk sv scl (x * 3) cEl fEl9_5 a0 (sz_ + 1) mdc9_3 (tl ++ [11]) H.size (by omega) (hL_7)) (va_cwSU 2 hts gX4_doSees_X3_doSees_s21 rfl rfl rfl (by decide +kernel) ⟨Nat.le_of_ble_eq_true rfl, Nat.le_of_ble_eq_true rfl⟩) ⟨fun a U g mk q => by obtain ⟨q0, q1, qP, qK, qD, qhI_, qhB_, qhW_, qhZ⟩ := q; exact ⟨q0, q1, qP, va_K.moved (u := U) (U := U.calling g mk a) (Vm.Alike.refl U.vm) qK, qD, qhI_.same rfl rfl, qhB_.same rfl rfl, qhW_.same rfl rfl, qhZ.same rfl rfl⟩, va_recv hZ.2.1 (hZ.P hS) (ci := 12) (q := (RX10, TX10, 4)) (q0 := 0) rfl rfl, fun U hU hW => ⟨rfl, by rw [hU], by rw [hU]; exact hPc, va_K.moved hW.alike hKc, hDc.weaken (fun _ _ _ _ => trivial), hI_.call hS hU hW (fun q h => hFc q h), hB_.call hS hU hW (fun q h => hFc q h), hW_.call hS hU hW (fun q h => hFc q h), (hZ.sub [0] [] rfl rfl).call hS hU hW (fun q h => hFc q h)⟩⟩ rfl rfl hl.1 rfl (lv_room (Nat.le_of_ble_eq_true rfl)) dX4_doSees_11 ⟨Nat.le_of_ble_eq_true rfl, Nat.le_of_ble_eq_true rfl⟩) hS (fun q _ h => hFc q h) hFc (fun r_8 u tC H1 locs htC hvm hw_9 hB hz1 hk1 hS => ?_)
  obtain ⟨mdc9_10, sz_9_11, fEl9_12⟩ := u
  try dsimp only at hw_9 hB
  obtain ⟨hP1, hK1, hD1⟩ := hB
  rw [htC] at hP1
  have hK1 := va_K.moved hvm.symm hK1
  obtain ⟨hP, hD⟩ := va_join (wr := []) (w1 := [(zo1iri bo mdc9_10 aEl (nI sz_9_11)), (zaR aEl cEl 10 fEl9_12)]) hP hD [0, 1] [] rfl rfl (by decide) (by decide) hk1 hFc hP1 hD1
  have hK := (hK.sub (tys' := []) [] rfl).app hK1
  generalize H1 = H at hP hS ⊢
  have hP : va_P (dC, dI) vwCl [(zo1iri bo mdc9_10 aEl (nI sz_9_11)), (zaR aEl cEl 10 fEl9_12)] H := hP
  have hD : va_D A [(zo1iri bo mdc9_10 aEl (nI sz_9_11)), (zaR aEl cEl 10 fEl9_12)] := hD
  have hK : va_K (dC, dI) vwCl [(cEl, .object "java/lang/Object")] s := hK
  obtain ⟨er_13, e_14, hL_15⟩ := hw_9
  obtain rfl := (e_14).symm
  subst er_13
  rw [hQ]
  have hP9 := hP.sub (ws' := [(zo1iri bo mdc9_10 aEl (nI ((sz_ + 1) + 1))), (zaR aEl cEl 10 fEl9_12)]) [0, 1] rfl
  have hD9 := hD.sub (ws' := [(zo1iri bo mdc9_10 aEl (nI ((sz_ + 1) + 1))), (zaR aEl cEl 10 fEl9_12)]) [0, 1] (by decide) rfl
  have hK9 := hK.sub (tys' := [(cEl, .object "java/lang/Object")]) [0] rfl
  exact W.iret (v := (x * 3) + nI i0) hx hb hr (fun tQ htQ hWQ => ⟨⟨((x * 3) + nI i0), (mdc9_10, ((sz_ + 1) + 1), fEl9_12), rfl, ⟨rfl, by omega, by have h9 := okL_as (hL_15); exact h9⟩, by rw [htQ]; exact hP9, va_K.moved hWQ.alike hK9, hD9⟩, hS.F htQ⟩) hS.2.2 dX4_doSees_14

set_option maxHeartbeats 4000000 in
set_option maxRecDepth 100000 in
theorem c_X4_doSees_X10_0 (l : Launch) (dC : Nat → ClassId) (dI : Nat → Nat → Nat) (ad : Nat → Nat) (cB bS : Nat)    (bo : Nat) (i0 : Nat) (sk : Int32) (sv : Int32) (scl : Int32) (x : Int32) (a0 : Nat) (mdc : Int32) (sz : Nat) : Met l yX4_doSees wsX4_doSees ({ frames := 6, cells := 1, slots := 10, locals := 122 } : Room) (va_Pc [.ref a0, .int x, .ref bo] (fun U => U.heap.size = sz ∧ va_P (dC, dI) vwCl [(zo1iri bo mdc bS 0)] U.heap ∧ va_K (dC, dI) vwCl [] U ∧ va_D (fun _ => True) [(zo1iri bo mdc bS 0)] ∧ Gi ad cB bS (va_A [(zo1iri bo mdc bS 0)] sz) U ∧ Gb (va_A [(zo1iri bo mdc bS 0)] sz) U ∧ Gw (va_A [(zo1iri bo mdc bS 0)] sz) U ∧ Fz dC dI [(zo12iiii a0 sk (nI i0) sv scl)] [] (va_A [(zo1iri bo mdc bS 0)] sz) U)) (va_Qi (fun (r : Int32) (u : (Int32) × (Nat) × (ClassId) × (Nat) × (Nat → Option Nat)) => match u with | (mdc9, aEl9, cEl9, sz_9, fEl9) => r = x * 3 + nI i0 ∧ sz_9 = 2 ∧ okL ad fEl9 sz_9 [11, 1]) (fun (u : (Int32) × (Nat) × (ClassId) × (Nat) × (Nat → Option Nat)) (t : State) => match u with | (mdc9, aEl9, cEl9, sz_9, fEl9) => va_P (dC, dI) vwCl [(zo1iri bo mdc9 aEl9 (nI sz_9)), (zaR aEl9 cEl9 10 fEl9)] t.heap ∧ va_K (dC, dI) vwCl [(cEl9, .object "java/lang/Object")] t ∧ va_D (va_A [(zo1iri bo mdc bS 0)] sz) [(zo1iri bo mdc9 aEl9 (nI sz_9)), (zaR aEl9 cEl9 10 fEl9)]) (va_A [(zo1iri bo mdc bS 0)] sz)) 1 10 (va_A [(zo1iri bo mdc bS 0)] sz) := by
  refine met_ofQ (cc := cX4_doSees) (maxL := 3) (ret := (some .int)) (by decide) rfl ?_
  intro p e s m args below meth c s₁ Q B hml hv hQ
  obtain ⟨rfl, hsz, hP, hK, hD0, hI_, hB_, hW_, hZ⟩ := hv
  have hx := B.exec
  have hb := B.bytes
  have hr := B.returns
  have hts := atoms_spec (ws := wsX4_doSees) B.pre
  have hown : s.vm.findClass RX4 = some m.cls := findClass_of_methodNamed B.named
  have hlocks := B.notSynchronized
  subst hsz
  have hD := hD0.self (sz := s.heap.size)
  generalize hAe : va_A [(zo1iri bo mdc bS 0)] s.heap.size = A at hD hQ hI_ hB_ hW_ hZ ⊢
  have hA : ∀ q : Nat, s.heap.size ≤ q → A q := fun q h => by rw [← hAe]; exact Or.inr h
  have hS : va_S A s.heap s.heap [] := va_S.rf
  have hl := lv_entry [.ref a0, .int x, .ref bo] (n := 3) (Nat.le_of_ble_eq_true rfl)
  rw [lg_entry_eq]
  generalize (lg_sl [.ref a0, .int x, .ref bo] ++ List.replicate (3 - (lg_sl [.ref a0, .int x, .ref bo]).length) Slot.unset).toArray = ls at hl ⊢
  generalize hag : ([.ref a0, .int x, .ref bo] : List Value).toArray = args at hts hQ ⊢
  have hl : lv_has ls 3 [(0, .ref a0), (1, .int x), (2, .ref bo)] := hl
  obtain ⟨H, hH⟩ : ∃ H : Heap, H = s.heap := ⟨_, rfl⟩
  rw [← hH] at hP
  rw [← hH]
  have hS : va_S A s.heap H [] := by rw [hH]; exact hS
  obtain ⟨locs, hlo⟩ : ∃ L : List Loc, L = [] := ⟨_, rfl⟩
  rw [← hlo] at hS
  rw [← hlo]
  clear hH hlo
  refine lv_bipush (v := 11) hx hb dX4_doSees_0 (by decide) ?_
  refine lv_aload_n hx hb dX4_doSees_2 rfl (lv_at hl 2 rfl) ?_
  have hPc := hP.sub (ws' := [(zo1iri bo mdc bS 0)]) [0] rfl
  have hDc := hD.sub (ws' := [(zo1iri bo mdc bS 0)]) [0] (by decide) rfl
  have hKc := hK.sub (tys' := []) [] rfl
  have hFc := va_free (wc := [(zo1iri bo mdc bS 0)]) hD hS hA [0] rfl
  refine va_callv (va_runU2 (As := [.int 11, .ref bo]) (rest := []) ⟨hx, hb, hml, hown, hts⟩ (c_begin0 l dC dI ad cB bS bo mdc 11 H.size (by omega)) (u2_cw (x := xb4) 2 hB_ inb4 rfl rfl rfl rfl rfl (by decide +kernel) ⟨Nat.le_of_ble_eq_true rfl, Nat.le_of_ble_eq_true rfl⟩) ⟨fun a U g mk q => by obtain ⟨q0, q1, qP, qK, qD, qhI_⟩ := q; exact ⟨q0, q1, qP, va_K.moved (u := U) (U := U.calling g mk a) (Vm.Alike.refl U.vm) qK, qD, qhI_.same rfl rfl⟩, fun U hU hW => ⟨rfl, by rw [hU], by rw [hU]; exact hPc, va_K.moved hW.alike hKc, hDc.weaken (fun _ _ _ _ => trivial), hI_.call hS hU hW (fun q h => hFc q h)⟩⟩ rfl rfl hl.1 rfl (lv_room (Nat.le_of_ble_eq_true rfl)) dX4_doSees_3 ⟨Nat.le_of_ble_eq_true rfl, Nat.le_of_ble_eq_true rfl⟩) hS (fun q _ h => hFc q h) hFc (fun u tC H1 locs htC hvm hw_2 hB hz1 hk1 hS => ?_)
  obtain ⟨mdc9_3, aEl9_4, cEl9_5, sz_9_6, fEl9_7⟩ := u
  try dsimp only at hw_2 hB
  obtain ⟨hP1, hK1, hD1⟩ := hB
  rw [htC] at hP1
  have hK1 := va_K.moved hvm.symm hK1
  obtain ⟨hP, hD⟩ := va_join (wr := []) (w1 := [(zo1iri bo mdc9_3 aEl9_4 (nI sz_9_6)), (zaR aEl9_4 cEl9_5 10 fEl9_7)]) hP hD [0] [] rfl rfl (by decide) (by decide) hk1 hFc hP1 hD1
  have hK := (hK.sub (tys' := []) [] rfl).app hK1
  generalize H1 = H at hP hS ⊢
  have hP : va_P (dC, dI) vwCl [(zo1iri bo mdc9_3 aEl9_4 (nI sz_9_6)), (zaR aEl9_4 cEl9_5 10 fEl9_7)] H := hP
  have hD : va_D A [(zo1iri bo mdc9_3 aEl9_4 (nI sz_9_6)), (zaR aEl9_4 cEl9_5 10 fEl9_7)] := hD
  have hK : va_K (dC, dI) vwCl [(cEl9_5, .object "java/lang/Object")] s := hK
  refine W.widen (k := 1) (n := 10) (by omega) (by omega) ?_
  obtain ⟨e_8, hL_9⟩ := hw_2
  obtain rfl := (e_8).symm
  refine lv_aload_n hx hb dX4_doSees_6 rfl (lv_at hl 0 rfl) ?_
  refine lv_iload_n hx hb dX4_doSees_7 rfl (lv_at hl 1 rfl) ?_
  refine lv_iconst (v := 3) hx hb dX4_doSees_8 (by decide) ?_
  refine lv_imul hx hb dX4_doSees_9 ?_
  refine lv_aload_n hx hb dX4_doSees_10 rfl (lv_at hl 2 rfl) ?_
  have hPc := hP.sub (ws' := [(zo1iri bo mdc9_3 aEl9_4 (nI 1)), (zaR aEl9_4 cEl9_5 10 fEl9_7)]) [0, 1] rfl
  have hDc := hD.sub (ws' := [(zo1iri bo mdc9_3 aEl9_4 (nI 1)), (zaR aEl9_4 cEl9_5 10 fEl9_7)]) [0, 1] (by decide) rfl
  have hKc := hK.sub (tys' := [(cEl9_5, .object "java/lang/Object")]) [0] rfl
  have hFc := va_free (wc := [(zo1iri bo mdc9_3 aEl9_4 (nI 1)), (zaR aEl9_4 cEl9_5 10 fEl9_7)]) hD hS hA [0, 1] rfl
  refine va_calli (va_runSU (hZ.2.1.1 12 (RX10, TX10, 4) rfl).2 (As := [.int (x * 3), .ref bo]) (rest := []) ⟨hx, hb, hml, hown, hts⟩ (c_X3_doSees_X10_1 l dC dI ad cB bS    bo aEl9_4 i0 sk sv scl (x * 3) cEl9_5 fEl9_7 a0 1 mdc9_3 ([11]) H.size (by omega) (hL_9)) (va_cwSU 2 hts gX4_doSees_X3_doSees_s21 rfl rfl rfl (by decide +kernel) ⟨Nat.le_of_ble_eq_true rfl, Nat.le_of_ble_eq_true rfl⟩) ⟨fun a U g mk q => by obtain ⟨q0, q1, qP, qK, qD, qhI_, qhB_, qhW_, qhZ⟩ := q; exact ⟨q0, q1, qP, va_K.moved (u := U) (U := U.calling g mk a) (Vm.Alike.refl U.vm) qK, qD, qhI_.same rfl rfl, qhB_.same rfl rfl, qhW_.same rfl rfl, qhZ.same rfl rfl⟩, va_recv hZ.2.1 (hZ.P hS) (ci := 12) (q := (RX10, TX10, 4)) (q0 := 0) rfl rfl, fun U hU hW => ⟨rfl, by rw [hU], by rw [hU]; exact hPc, va_K.moved hW.alike hKc, hDc.weaken (fun _ _ _ _ => trivial), hI_.call hS hU hW (fun q h => hFc q h), hB_.call hS hU hW (fun q h => hFc q h), hW_.call hS hU hW (fun q h => hFc q h), (hZ.sub [0] [] rfl rfl).call hS hU hW (fun q h => hFc q h)⟩⟩ rfl rfl hl.1 rfl (lv_room (Nat.le_of_ble_eq_true rfl)) dX4_doSees_11 ⟨Nat.le_of_ble_eq_true rfl, Nat.le_of_ble_eq_true rfl⟩) hS (fun q _ h => hFc q h) hFc (fun r_10 u tC H1 locs htC hvm hw_11 hB hz1 hk1 hS => ?_)
  obtain ⟨mdc9_12, sz_9_13, fEl9_14⟩ := u
  try dsimp only at hw_11 hB
  obtain ⟨hP1, hK1, hD1⟩ := hB
  rw [htC] at hP1
  have hK1 := va_K.moved hvm.symm hK1
  obtain ⟨hP, hD⟩ := va_join (wr := []) (w1 := [(zo1iri bo mdc9_12 aEl9_4 (nI sz_9_13)), (zaR aEl9_4 cEl9_5 10 fEl9_14)]) hP hD [0, 1] [] rfl rfl (by decide) (by decide) hk1 hFc hP1 hD1
  have hK := (hK.sub (tys' := []) [] rfl).app hK1
  generalize H1 = H at hP hS ⊢
  have hP : va_P (dC, dI) vwCl [(zo1iri bo mdc9_12 aEl9_4 (nI sz_9_13)), (zaR aEl9_4 cEl9_5 10 fEl9_14)] H := hP
  have hD : va_D A [(zo1iri bo mdc9_12 aEl9_4 (nI sz_9_13)), (zaR aEl9_4 cEl9_5 10 fEl9_14)] := hD
  have hK : va_K (dC, dI) vwCl [(cEl9_5, .object "java/lang/Object")] s := hK
  obtain ⟨er_15, e_16, hL_17⟩ := hw_11
  obtain rfl := (e_16).symm
  subst er_15
  rw [hQ]
  have hP9 := hP.sub (ws' := [(zo1iri bo mdc9_12 aEl9_4 (nI (1 + 1))), (zaR aEl9_4 cEl9_5 10 fEl9_14)]) [0, 1] rfl
  have hD9 := hD.sub (ws' := [(zo1iri bo mdc9_12 aEl9_4 (nI (1 + 1))), (zaR aEl9_4 cEl9_5 10 fEl9_14)]) [0, 1] (by decide) rfl
  have hK9 := hK.sub (tys' := [(cEl9_5, .object "java/lang/Object")]) [0] rfl
  refine W.widen (k := 1) (n := 10) (by omega) (by omega) ?_
  exact W.iret (v := (x * 3) + nI i0) hx hb hr (fun tQ htQ hWQ => ⟨⟨((x * 3) + nI i0), (mdc9_12, aEl9_4, cEl9_5, (1 + 1), fEl9_14), rfl, ⟨rfl, by omega, hL_17⟩, by rw [htQ]; exact hP9, va_K.moved hWQ.alike hK9, hD9⟩, hS.F htQ⟩) hS.2.2 dX4_doSees_14

theorem kc_X3_doGoes_X10_1_0 : (.code yX3_doSees cX3_doSees 3 (some .int) : Cond) ∈ wsX3_doGoes := kc_of 1025 rfl rfl rfl
theorem kc_X3_doGoes_X10_1_1 : (.fieldLink RX3 18 "MistHeaps$Heap" "v" "I" : Cond) ∈ wsX3_doGoes := kc_of 236 rfl rfl rfl
theorem kc_X3_doGoes_X10_1_2 : ∀ w ∈ wsX100, w ∈ wsX3_doGoes := fun w h => List.mem_cons_of_mem _ (gin_wsX100 w h)
set_option maxHeartbeats 4000000 in
set_option maxRecDepth 100000 in
theorem c_X3_doGoes_X10_1 (l : Launch) (dC : Nat → ClassId) (dI : Nat → Nat → Nat) (ad : Nat → Nat) (cB bS : Nat)    (bo : Nat) (aEl : Nat) (i0 : Nat) (sk : Int32) (sv : Int32) (scl : Int32) (x : Int32) (cEl : ClassId) (fEl : Nat → Option Nat) (a0 : Nat) (sz_ : Nat) (mdc : Int32) (tl : List Nat) (sz : Nat) (hsz : sz_ + 3 ≤ 10) (zL : okL ad fEl sz_ tl) : Met l yX3_doGoes wsX3_doGoes ({ frames := 5, cells := 0, slots := 0, locals := 109 } : Room) (va_Pc [.ref a0, .int x, .ref bo] (fun U => U.heap.size = sz ∧ va_P (dC, dI) vwCl [(zo1iri bo mdc aEl (nI sz_)), (zaR aEl cEl 10 fEl)] U.heap ∧ va_K (dC, dI) vwCl [(cEl, .object "java/lang/Object")] U ∧ va_D (fun _ => True) [(zo1iri bo mdc aEl (nI sz_)), (zaR aEl cEl 10 fEl)] ∧ Gi ad cB bS (va_A [(zo1iri bo mdc aEl (nI sz_)), (zaR aEl cEl 10 fEl)] sz) U ∧ Gb (va_A [(zo1iri bo mdc aEl (nI sz_)), (zaR aEl cEl 10 fEl)] sz) U ∧ Gw (va_A [(zo1iri bo mdc aEl (nI sz_)), (zaR aEl cEl 10 fEl)] sz) U ∧ Fz dC dI [(zo12iiii a0 sk (nI i0) sv scl)] [] (va_A [(zo1iri bo mdc aEl (nI sz_)), (zaR aEl cEl 10 fEl)] sz) U)) (va_Qi (fun (r : Int32) (u : (Int32) × (Nat) × (Nat → Option Nat)) => match u with | (mdc9, sz_9, fEl9) => r = (x * 3 + nI i0) - sv ∧ sz_9 = sz_ + 3 ∧ okL ad fEl9 sz_9 (tl ++ [2, 11, 1])) (fun (u : (Int32) × (Nat) × (Nat → Option Nat)) (t : State) => match u with | (mdc9, sz_9, fEl9) => va_P (dC, dI) vwCl [(zo1iri bo mdc9 aEl (nI sz_9)), (zaR aEl cEl 10 fEl9)] t.heap ∧ va_K (dC, dI) vwCl [(cEl, .object "java/lang/Object")] t ∧ va_D (va_A [(zo1iri bo mdc aEl (nI sz_)), (zaR aEl cEl 10 fEl)] sz) [(zo1iri bo mdc9 aEl (nI sz_9)), (zaR aEl cEl 10 fEl9)]) (va_A [(zo1iri bo mdc aEl (nI sz_)), (zaR aEl cEl 10 fEl)] sz)) 0 0 (va_A [(zo1iri bo mdc aEl (nI sz_)), (zaR aEl cEl 10 fEl)] sz) := by
  refine met_ofQ (cc := cX3_doGoes) (maxL := 3) (ret := (some .int)) (by decide) rfl ?_
  intro p e s m args below meth c s₁ Q B hml hv hQ
  obtain ⟨rfl, hsz, hP, hK, hD0, hI_, hB_, hW_, hZ⟩ := hv
  have hx := B.exec
  have hb := B.bytes
  have hr := B.returns
  have hts := atoms_spec (ws := wsX3_doGoes) B.pre
  have hown : s.vm.findClass RX3 = some m.cls := findClass_of_methodNamed B.named
  have hlocks := B.notSynchronized
  subst hsz
  have hD := hD0.self (sz := s.heap.size)
  generalize hAe : va_A [(zo1iri bo mdc aEl (nI sz_)), (zaR aEl cEl 10 fEl)] s.heap.size = A at hD hQ hI_ hB_ hW_ hZ ⊢
  have hA : ∀ q : Nat, s.heap.size ≤ q → A q := fun q h => by rw [← hAe]; exact Or.inr h
  have hS : va_S A s.heap s.heap [] := va_S.rf
  have hl := lv_entry [.ref a0, .int x, .ref bo] (n := 3) (Nat.le_of_ble_eq_true rfl)
  rw [lg_entry_eq]
  generalize (lg_sl [.ref a0, .int x, .ref bo] ++ List.replicate (3 - (lg_sl [.ref a0, .int x, .ref bo]).length) Slot.unset).toArray = ls at hl ⊢
  generalize hag : ([.ref a0, .int x, .ref bo] : List Value).toArray = args at hts hQ ⊢
  have hl : lv_has ls 3 [(0, .ref a0), (1, .int x), (2, .ref bo)] := hl
  obtain ⟨H, hH⟩ : ∃ H : Heap, H = s.heap := ⟨_, rfl⟩
  rw [← hH] at hP
  rw [← hH]
  have hS : va_S A s.heap H [] := by rw [hH]; exact hS
  obtain ⟨locs, hlo⟩ : ∃ L : List Loc, L = [] := ⟨_, rfl⟩
  rw [← hlo] at hS
  rw [← hlo]
  clear hH hlo
  refine lv_iconst (v := 2) hx hb dX3_doGoes_0 (by decide) ?_
  refine lv_aload_n hx hb dX3_doGoes_1 rfl (lv_at hl 2 rfl) ?_
  have hPc := hP.sub (ws' := [(zo1iri bo mdc aEl (nI sz_)), (zaR aEl cEl 10 fEl)]) [0, 1] rfl
  have hDc := hD.sub (ws' := [(zo1iri bo mdc aEl (nI sz_)), (zaR aEl cEl 10 fEl)]) [0, 1] (by decide) rfl
  have hKc := hK.sub (tys' := [(cEl, .object "java/lang/Object")]) [0] rfl
  have hFc := va_free (wc := [(zo1iri bo mdc aEl (nI sz_)), (zaR aEl cEl 10 fEl)]) hD hS hA [0, 1] rfl
  refine va_callv (va_runS (As := [.int 2, .ref bo]) (rest := []) ⟨hx, hb, hml, hown, hts⟩ (c_begin1 l dC dI ad cB bS bo aEl 2 cEl fEl sz_ mdc tl H.size (by omega) (by omega) (zL)) (va_cwS 2 hts gX3_doGoes_X3_begin rfl rfl rfl hd_yX3_begin.2 ⟨Nat.le_of_ble_eq_true rfl, Nat.le_of_ble_eq_true rfl⟩) ⟨fun a U g mk q => by obtain ⟨q0, q1, qP, qK, qD, qhI_⟩ := q; exact ⟨q0, q1, qP, va_K.moved (u := U) (U := U.calling g mk a) (Vm.Alike.refl U.vm) qK, qD, qhI_.same rfl rfl⟩, fun U hU hW => ⟨rfl, by rw [hU], by rw [hU]; exact hPc, va_K.moved hW.alike hKc, hDc.weaken (fun _ _ _ _ => trivial), hI_.call hS hU hW (fun q h => hFc q h)⟩⟩ rfl rfl hl.1 rfl (lv_room (Nat.le_of_ble_eq_true rfl)) dX3_doGoes_2 ⟨Nat.le_of_ble_eq_true rfl, Nat.le_of_ble_eq_true rfl⟩) hS (fun q _ h => hFc q h) hFc (fun u tC H1 locs htC hvm hw_2 hB hz1 hk1 hS => ?_)
  obtain ⟨mdc9_3, sz_9_4, fEl9_5⟩ := u
  try dsimp only at hw_2 hB
  obtain ⟨hP1, hK1, hD1⟩ := hB
  rw [htC] at hP1
  have hK1 := va_K.moved hvm.symm hK1
  obtain ⟨hP, hD⟩ := va_join (wr := []) (w1 := [(zo1iri bo mdc9_3 aEl (nI sz_9_4)), (zaR aEl cEl 10 fEl9_5)]) hP hD [0, 1] [] rfl rfl (by decide) (by decide) hk1 hFc hP1 hD1
  have hK := (hK.sub (tys' := []) [] rfl).app hK1
  generalize H1 = H at hP hS ⊢
  have hP : va_P (dC, dI) vwCl [(zo1iri bo mdc9_3 aEl (nI sz_9_4)), (zaR aEl cEl 10 fEl9_5)] H := hP
  have hD : va_D A [(zo1iri bo mdc9_3 aEl (nI sz_9_4)), (zaR aEl cEl 10 fEl9_5)] := hD
  have hK : va_K (dC, dI) vwCl [(cEl, .object "java/lang/Object")] s := hK
  obtain ⟨e_6, hL_7⟩ := hw_2
  obtain rfl := (e_6).symm
  refine lv_aload_n hx hb dX3_doGoes_5 rfl (lv_at hl 0 rfl) ?_
  refine lv_iload_n hx hb dX3_doGoes_6 rfl (lv_at hl 1 rfl) ?_
  refine lv_aload_n hx hb dX3_doGoes_7 rfl (lv_at hl 2 rfl) ?_
  have hPc := hP.sub (ws' := [(zo1iri bo mdc9_3 aEl (nI (sz_ + 1))), (zaR aEl cEl 10 fEl9_5)]) [0, 1] rfl
  have hDc := hD.sub (ws' := [(zo1iri bo mdc9_3 aEl (nI (sz_ + 1))), (zaR aEl cEl 10 fEl9_5)]) [0, 1] (by decide) rfl
  have hKc := hK.sub (tys' := [(cEl, .object "java/lang/Object")]) [0] rfl
  have hFc := va_free (wc := [(zo1iri bo mdc9_3 aEl (nI (sz_ + 1))), (zaR aEl cEl 10 fEl9_5)]) hD hS hA [0, 1] rfl
  refine va_calli (va_runU (As := [.int x, .ref bo]) (rest := []) ⟨hx, hb, hml, hown, hts⟩ (c_X4_doSees_X10_1 l dC dI ad cB bS    bo aEl i0 sk sv scl x cEl fEl9_5 a0 (sz_ + 1) mdc9_3 (tl ++ [2]) H.size (by omega) (hL_7)) (va_cwO 2 hts gX3_doGoes_X4_doSees_u38X10 rfl rfl rfl kc_X3_doGoes_X10_1_0 (by decide +kernel) ⟨Nat.le_of_ble_eq_true rfl, Nat.le_of_ble_eq_true rfl⟩) ⟨fun a U g mk q => by obtain ⟨q0, q1, qP, qK, qD, qhI_, qhB_, qhW_, qhZ⟩ := q; exact ⟨q0, q1, qP, va_K.moved (u := U) (U := U.calling g mk a) (Vm.Alike.refl U.vm) qK, qD, qhI_.same rfl rfl, qhB_.same rfl rfl, qhW_.same rfl rfl, qhZ.same rfl rfl⟩, va_recv hZ.2.1 (hZ.P hS) (ci := 12) (q := (RX10, TX10, 4)) (q0 := 0) rfl rfl, fun U hU hW => ⟨rfl, by rw [hU], by rw [hU]; exact hPc, va_K.moved hW.alike hKc, hDc.weaken (fun _ _ _ _ => trivial), hI_.call hS hU hW (fun q h => hFc q h), hB_.call hS hU hW (fun q h => hFc q h), hW_.call hS hU hW (fun q h => hFc q h), (hZ.sub [0] [] rfl rfl).call hS hU hW (fun q h => hFc q h)⟩⟩ rfl rfl hl.1 rfl (lv_room (Nat.le_of_ble_eq_true rfl)) dX3_doGoes_8 ⟨Nat.le_of_ble_eq_true rfl, Nat.le_of_ble_eq_true rfl⟩) hS (fun q _ h => hFc q h) hFc (fun r_8 u tC H1 locs htC hvm hw_9 hB hz1 hk1 hS => ?_)
  obtain ⟨mdc9_10, sz_9_11, fEl9_12⟩ := u
  try dsimp only at hw_9 hB
  obtain ⟨hP1, hK1, hD1⟩ := hB
  rw [htC] at hP1
  have hK1 := va_K.moved hvm.symm hK1
  obtain ⟨hP, hD⟩ := va_join (wr := []) (w1 := [(zo1iri bo mdc9_10 aEl (nI sz_9_11)), (zaR aEl cEl 10 fEl9_12)]) hP hD [0, 1] [] rfl rfl (by decide) (by decide) hk1 hFc hP1 hD1
  have hK := (hK.sub (tys' := []) [] rfl).app hK1
  generalize H1 = H at hP hS ⊢
  have hP : va_P (dC, dI) vwCl [(zo1iri bo mdc9_10 aEl (nI sz_9_11)), (zaR aEl cEl 10 fEl9_12)] H := hP
  have hD : va_D A [(zo1iri bo mdc9_10 aEl (nI sz_9_11)), (zaR aEl cEl 10 fEl9_12)] := hD
  have hK : va_K (dC, dI) vwCl [(cEl, .object "java/lang/Object")] s := hK
  obtain ⟨er_13, e_14, hL_15⟩ := hw_9
  obtain rfl := (e_14).symm
  subst er_13
  refine lv_aload_n hx hb dX3_doGoes_11 rfl (lv_at hl 0 rfl) ?_
  refine va_get (D := (dC, dI)) (ci := 12) (v := .int sv) (C := RX10) (T := TX10) (N := 4) hx hb hts kc_X3_doGoes_X10_1_2 hown hZ.2.1 (hZ.P hS) 0 rfl rfl 2 (by decide) (hts (.fieldLink RX3 18 "MistHeaps$Heap" "v" "I") kc_X3_doGoes_X10_1_1) (fun _ h9 => h9) rfl dX3_doGoes_12 ?_
  refine lv_isub hx hb dX3_doGoes_15 ?_
  rw [hQ]
  have hP9 := hP.sub (ws' := [(zo1iri bo mdc9_10 aEl (nI ((sz_ + 1) + 2))), (zaR aEl cEl 10 fEl9_12)]) [0, 1] rfl
  have hD9 := hD.sub (ws' := [(zo1iri bo mdc9_10 aEl (nI ((sz_ + 1) + 2))), (zaR aEl cEl 10 fEl9_12)]) [0, 1] (by decide) rfl
  have hK9 := hK.sub (tys' := [(cEl, .object "java/lang/Object")]) [0] rfl
  exact W.iret (v := (x * 3 + nI i0) - sv) hx hb hr (fun tQ htQ hWQ => ⟨⟨((x * 3 + nI i0) - sv), (mdc9_10, ((sz_ + 1) + 2), fEl9_12), rfl, ⟨rfl, by omega, by have h9 := okL_as (hL_15); exact h9⟩, by rw [htQ]; exact hP9, va_K.moved hWQ.alike hK9, hD9⟩, hS.F htQ⟩) hS.2.2 dX3_doGoes_16

theorem kc_X3_doGoes_X10_0_0 : (.code yX3_doSees cX3_doSees 3 (some .int) : Cond) ∈ wsX3_doGoes := kc_of 1025 rfl rfl rfl
theorem kc_X3_doGoes_X10_0_1 : (.fieldLink RX3 18 "MistHeaps$Heap" "v" "I" : Cond) ∈ wsX3_doGoes := kc_of 236 rfl rfl rfl
theorem kc_X3_doGoes_X10_0_2 : ∀ w ∈ wsX100, w ∈ wsX3_doGoes := fun w h => List.mem_cons_of_mem _ (gin_wsX100 w h)
set_option maxHeartbeats 4000000 in
set_option maxRecDepth 100000 in
theorem c_X3_doGoes_X10_0 (l : Launch) (dC : Nat → ClassId) (dI : Nat → Nat → Nat) (ad : Nat → Nat) (cB bS : Nat)    (bo : Nat) (i0 : Nat) (sk : Int32) (sv : Int32) (scl : Int32) (x : Int32) (a0 : Nat) (mdc : Int32) (sz : Nat) : Met l yX3_doGoes wsX3_doGoes ({ frames := 6, cells := 1, slots := 10, locals := 122 } : Room) (va_Pc [.ref a0, .int x, .ref bo] (fun U => U.heap.size = sz ∧ va_P (dC, dI) vwCl [(zo1iri bo mdc bS 0)] U.heap ∧ va_K (dC, dI) vwCl [] U ∧ va_D (fun _ => True) [(zo1iri bo mdc bS 0)] ∧ Gi ad cB bS (va_A [(zo1iri bo mdc bS 0)] sz) U ∧ Gb (va_A [(zo1iri bo mdc bS 0)] sz) U ∧ Gw (va_A [(zo1iri bo mdc bS 0)] sz) U ∧ Fz dC dI [(zo12iiii a0 sk (nI i0) sv scl)] [] (va_A [(zo1iri bo mdc bS 0)] sz) U)) (va_Qi (fun (r : Int32) (u : (Int32) × (Nat) × (ClassId) × (Nat) × (Nat → Option Nat)) => match u with | (mdc9, aEl9, cEl9, sz_9, fEl9) => r = (x * 3 + nI i0) - sv ∧ sz_9 = 3 ∧ okL ad fEl9 sz_9 [2, 11, 1]) (fun (u : (Int32) × (Nat) × (ClassId) × (Nat) × (Nat → Option Nat)) (t : State) => match u with | (mdc9, aEl9, cEl9, sz_9, fEl9) => va_P (dC, dI) vwCl [(zo1iri bo mdc9 aEl9 (nI sz_9)), (zaR aEl9 cEl9 10 fEl9)] t.heap ∧ va_K (dC, dI) vwCl [(cEl9, .object "java/lang/Object")] t ∧ va_D (va_A [(zo1iri bo mdc bS 0)] sz) [(zo1iri bo mdc9 aEl9 (nI sz_9)), (zaR aEl9 cEl9 10 fEl9)]) (va_A [(zo1iri bo mdc bS 0)] sz)) 1 10 (va_A [(zo1iri bo mdc bS 0)] sz) := by
  refine met_ofQ (cc := cX3_doGoes) (maxL := 3) (ret := (some .int)) (by decide) rfl ?_
  intro p e s m args below meth c s₁ Q B hml hv hQ
  obtain ⟨rfl, hsz, hP, hK, hD0, hI_, hB_, hW_, hZ⟩ := hv
  have hx := B.exec
  have hb := B.bytes
  have hr := B.returns
  have hts := atoms_spec (ws := wsX3_doGoes) B.pre
  have hown : s.vm.findClass RX3 = some m.cls := findClass_of_methodNamed B.named
  have hlocks := B.notSynchronized
  subst hsz
  have hD := hD0.self (sz := s.heap.size)
  generalize hAe : va_A [(zo1iri bo mdc bS 0)] s.heap.size = A at hD hQ hI_ hB_ hW_ hZ ⊢
  have hA : ∀ q : Nat, s.heap.size ≤ q → A q := fun q h => by rw [← hAe]; exact Or.inr h
  have hS : va_S A s.heap s.heap [] := va_S.rf
  have hl := lv_entry [.ref a0, .int x, .ref bo] (n := 3) (Nat.le_of_ble_eq_true rfl)
  rw [lg_entry_eq]
  generalize (lg_sl [.ref a0, .int x, .ref bo] ++ List.replicate (3 - (lg_sl [.ref a0, .int x, .ref bo]).length) Slot.unset).toArray = ls at hl ⊢
  generalize hag : ([.ref a0, .int x, .ref bo] : List Value).toArray = args at hts hQ ⊢
  have hl : lv_has ls 3 [(0, .ref a0), (1, .int x), (2, .ref bo)] := hl
  obtain ⟨H, hH⟩ : ∃ H : Heap, H = s.heap := ⟨_, rfl⟩
  rw [← hH] at hP
  rw [← hH]
  have hS : va_S A s.heap H [] := by rw [hH]; exact hS
  obtain ⟨locs, hlo⟩ : ∃ L : List Loc, L = [] := ⟨_, rfl⟩
  rw [← hlo] at hS
  rw [← hlo]
  clear hH hlo
  refine lv_iconst (v := 2) hx hb dX3_doGoes_0 (by decide) ?_
  refine lv_aload_n hx hb dX3_doGoes_1 rfl (lv_at hl 2 rfl) ?_
  have hPc := hP.sub (ws' := [(zo1iri bo mdc bS 0)]) [0] rfl
  have hDc := hD.sub (ws' := [(zo1iri bo mdc bS 0)]) [0] (by decide) rfl
  have hKc := hK.sub (tys' := []) [] rfl
  have hFc := va_free (wc := [(zo1iri bo mdc bS 0)]) hD hS hA [0] rfl
  refine va_callv (va_runS (As := [.int 2, .ref bo]) (rest := []) ⟨hx, hb, hml, hown, hts⟩ (c_begin0 l dC dI ad cB bS bo mdc 2 H.size (by omega)) (va_cwS 2 hts gX3_doGoes_X3_begin rfl rfl rfl hd_yX3_begin.2 ⟨Nat.le_of_ble_eq_true rfl, Nat.le_of_ble_eq_true rfl⟩) ⟨fun a U g mk q => by obtain ⟨q0, q1, qP, qK, qD, qhI_⟩ := q; exact ⟨q0, q1, qP, va_K.moved (u := U) (U := U.calling g mk a) (Vm.Alike.refl U.vm) qK, qD, qhI_.same rfl rfl⟩, fun U hU hW => ⟨rfl, by rw [hU], by rw [hU]; exact hPc, va_K.moved hW.alike hKc, hDc.weaken (fun _ _ _ _ => trivial), hI_.call hS hU hW (fun q h => hFc q h)⟩⟩ rfl rfl hl.1 rfl (lv_room (Nat.le_of_ble_eq_true rfl)) dX3_doGoes_2 ⟨Nat.le_of_ble_eq_true rfl, Nat.le_of_ble_eq_true rfl⟩) hS (fun q _ h => hFc q h) hFc (fun u tC H1 locs htC hvm hw_2 hB hz1 hk1 hS => ?_)
  obtain ⟨mdc9_3, aEl9_4, cEl9_5, sz_9_6, fEl9_7⟩ := u
  try dsimp only at hw_2 hB
  obtain ⟨hP1, hK1, hD1⟩ := hB
  rw [htC] at hP1
  have hK1 := va_K.moved hvm.symm hK1
  obtain ⟨hP, hD⟩ := va_join (wr := []) (w1 := [(zo1iri bo mdc9_3 aEl9_4 (nI sz_9_6)), (zaR aEl9_4 cEl9_5 10 fEl9_7)]) hP hD [0] [] rfl rfl (by decide) (by decide) hk1 hFc hP1 hD1
  have hK := (hK.sub (tys' := []) [] rfl).app hK1
  generalize H1 = H at hP hS ⊢
  have hP : va_P (dC, dI) vwCl [(zo1iri bo mdc9_3 aEl9_4 (nI sz_9_6)), (zaR aEl9_4 cEl9_5 10 fEl9_7)] H := hP
  have hD : va_D A [(zo1iri bo mdc9_3 aEl9_4 (nI sz_9_6)), (zaR aEl9_4 cEl9_5 10 fEl9_7)] := hD
  have hK : va_K (dC, dI) vwCl [(cEl9_5, .object "java/lang/Object")] s := hK
  refine W.widen (k := 1) (n := 10) (by omega) (by omega) ?_
  obtain ⟨e_8, hL_9⟩ := hw_2
  obtain rfl := (e_8).symm
  refine lv_aload_n hx hb dX3_doGoes_5 rfl (lv_at hl 0 rfl) ?_
  refine lv_iload_n hx hb dX3_doGoes_6 rfl (lv_at hl 1 rfl) ?_
  refine lv_aload_n hx hb dX3_doGoes_7 rfl (lv_at hl 2 rfl) ?_
  have hPc := hP.sub (ws' := [(zo1iri bo mdc9_3 aEl9_4 (nI 1)), (zaR aEl9_4 cEl9_5 10 fEl9_7)]) [0, 1] rfl
  have hDc := hD.sub (ws' := [(zo1iri bo mdc9_3 aEl9_4 (nI 1)), (zaR aEl9_4 cEl9_5 10 fEl9_7)]) [0, 1] (by decide) rfl
  have hKc := hK.sub (tys' := [(cEl9_5, .object "java/lang/Object")]) [0] rfl
  have hFc := va_free (wc := [(zo1iri bo mdc9_3 aEl9_4 (nI 1)), (zaR aEl9_4 cEl9_5 10 fEl9_7)]) hD hS hA [0, 1] rfl
  refine va_calli (va_runU (As := [.int x, .ref bo]) (rest := []) ⟨hx, hb, hml, hown, hts⟩ (c_X4_doSees_X10_1 l dC dI ad cB bS    bo aEl9_4 i0 sk sv scl x cEl9_5 fEl9_7 a0 1 mdc9_3 ([2]) H.size (by omega) (hL_9)) (va_cwO 2 hts gX3_doGoes_X4_doSees_u38X10 rfl rfl rfl kc_X3_doGoes_X10_0_0 (by decide +kernel) ⟨Nat.le_of_ble_eq_true rfl, Nat.le_of_ble_eq_true rfl⟩) ⟨fun a U g mk q => by obtain ⟨q0, q1, qP, qK, qD, qhI_, qhB_, qhW_, qhZ⟩ := q; exact ⟨q0, q1, qP, va_K.moved (u := U) (U := U.calling g mk a) (Vm.Alike.refl U.vm) qK, qD, qhI_.same rfl rfl, qhB_.same rfl rfl, qhW_.same rfl rfl, qhZ.same rfl rfl⟩, va_recv hZ.2.1 (hZ.P hS) (ci := 12) (q := (RX10, TX10, 4)) (q0 := 0) rfl rfl, fun U hU hW => ⟨rfl, by rw [hU], by rw [hU]; exact hPc, va_K.moved hW.alike hKc, hDc.weaken (fun _ _ _ _ => trivial), hI_.call hS hU hW (fun q h => hFc q h), hB_.call hS hU hW (fun q h => hFc q h), hW_.call hS hU hW (fun q h => hFc q h), (hZ.sub [0] [] rfl rfl).call hS hU hW (fun q h => hFc q h)⟩⟩ rfl rfl hl.1 rfl (lv_room (Nat.le_of_ble_eq_true rfl)) dX3_doGoes_8 ⟨Nat.le_of_ble_eq_true rfl, Nat.le_of_ble_eq_true rfl⟩) hS (fun q _ h => hFc q h) hFc (fun r_10 u tC H1 locs htC hvm hw_11 hB hz1 hk1 hS => ?_)
  obtain ⟨mdc9_12, sz_9_13, fEl9_14⟩ := u
  try dsimp only at hw_11 hB
  obtain ⟨hP1, hK1, hD1⟩ := hB
  rw [htC] at hP1
  have hK1 := va_K.moved hvm.symm hK1
  obtain ⟨hP, hD⟩ := va_join (wr := []) (w1 := [(zo1iri bo mdc9_12 aEl9_4 (nI sz_9_13)), (zaR aEl9_4 cEl9_5 10 fEl9_14)]) hP hD [0, 1] [] rfl rfl (by decide) (by decide) hk1 hFc hP1 hD1
  have hK := (hK.sub (tys' := []) [] rfl).app hK1
  generalize H1 = H at hP hS ⊢
  have hP : va_P (dC, dI) vwCl [(zo1iri bo mdc9_12 aEl9_4 (nI sz_9_13)), (zaR aEl9_4 cEl9_5 10 fEl9_14)] H := hP
  have hD : va_D A [(zo1iri bo mdc9_12 aEl9_4 (nI sz_9_13)), (zaR aEl9_4 cEl9_5 10 fEl9_14)] := hD
  have hK : va_K (dC, dI) vwCl [(cEl9_5, .object "java/lang/Object")] s := hK
  obtain ⟨er_15, e_16, hL_17⟩ := hw_11
  obtain rfl := (e_16).symm
  subst er_15
  refine lv_aload_n hx hb dX3_doGoes_11 rfl (lv_at hl 0 rfl) ?_
  refine va_get (D := (dC, dI)) (ci := 12) (v := .int sv) (C := RX10) (T := TX10) (N := 4) hx hb hts kc_X3_doGoes_X10_0_2 hown hZ.2.1 (hZ.P hS) 0 rfl rfl 2 (by decide) (hts (.fieldLink RX3 18 "MistHeaps$Heap" "v" "I") kc_X3_doGoes_X10_0_1) (fun _ h9 => h9) rfl dX3_doGoes_12 ?_
  refine lv_isub hx hb dX3_doGoes_15 ?_
  rw [hQ]
  have hP9 := hP.sub (ws' := [(zo1iri bo mdc9_12 aEl9_4 (nI (1 + 2))), (zaR aEl9_4 cEl9_5 10 fEl9_14)]) [0, 1] rfl
  have hD9 := hD.sub (ws' := [(zo1iri bo mdc9_12 aEl9_4 (nI (1 + 2))), (zaR aEl9_4 cEl9_5 10 fEl9_14)]) [0, 1] (by decide) rfl
  have hK9 := hK.sub (tys' := [(cEl9_5, .object "java/lang/Object")]) [0] rfl
  refine W.widen (k := 1) (n := 10) (by omega) (by omega) ?_
  exact W.iret (v := (x * 3 + nI i0) - sv) hx hb hr (fun tQ htQ hWQ => ⟨⟨((x * 3 + nI i0) - sv), (mdc9_12, aEl9_4, cEl9_5, (1 + 2), fEl9_14), rfl, ⟨rfl, by omega, hL_17⟩, by rw [htQ]; exact hP9, va_K.moved hWQ.alike hK9, hD9⟩, hS.F htQ⟩) hS.2.2 dX3_doGoes_16

set_option maxHeartbeats 4000000 in
set_option maxRecDepth 100000 in
theorem c_X3_doLooks_X10_1 (l : Launch) (dC : Nat → ClassId) (dI : Nat → Nat → Nat) (ad : Nat → Nat) (cB bS : Nat)    (bo : Nat) (aEl : Nat) (i0 : Nat) (sk : Int32) (sv : Int32) (scl : Int32) (x : Int32) (cEl : ClassId) (fEl : Nat → Option Nat) (a0 : Nat) (sz_ : Nat) (mdc : Int32) (tl : List Nat) (sz : Nat) (hsz : sz_ + 4 ≤ 10) (zL : okL ad fEl sz_ tl) : Met l yX3_doLooks wsX3_doLooks ({ frames := 6, cells := 0, slots := 0, locals := 131 } : Room) (va_Pc [.ref a0, .int x, .ref bo] (fun U => U.heap.size = sz ∧ va_P (dC, dI) vwCl [(zo1iri bo mdc aEl (nI sz_)), (zaR aEl cEl 10 fEl)] U.heap ∧ va_K (dC, dI) vwCl [(cEl, .object "java/lang/Object")] U ∧ va_D (fun _ => True) [(zo1iri bo mdc aEl (nI sz_)), (zaR aEl cEl 10 fEl)] ∧ Gi ad cB bS (va_A [(zo1iri bo mdc aEl (nI sz_)), (zaR aEl cEl 10 fEl)] sz) U ∧ Gb (va_A [(zo1iri bo mdc aEl (nI sz_)), (zaR aEl cEl 10 fEl)] sz) U ∧ Gw (va_A [(zo1iri bo mdc aEl (nI sz_)), (zaR aEl cEl 10 fEl)] sz) U ∧ Fz dC dI [(zo12iiii a0 sk (nI i0) sv scl)] [] (va_A [(zo1iri bo mdc aEl (nI sz_)), (zaR aEl cEl 10 fEl)] sz) U)) (va_Qi (fun (r : Int32) (u : (Int32) × (Nat) × (Nat → Option Nat)) => match u with | (mdc9, sz_9, fEl9) => r = ((x * 3 + nI i0) - sv) * 2 ∧ sz_9 = sz_ + 4 ∧ okL ad fEl9 sz_9 (tl ++ [3, 2, 11, 1])) (fun (u : (Int32) × (Nat) × (Nat → Option Nat)) (t : State) => match u with | (mdc9, sz_9, fEl9) => va_P (dC, dI) vwCl [(zo1iri bo mdc9 aEl (nI sz_9)), (zaR aEl cEl 10 fEl9)] t.heap ∧ va_K (dC, dI) vwCl [(cEl, .object "java/lang/Object")] t ∧ va_D (va_A [(zo1iri bo mdc aEl (nI sz_)), (zaR aEl cEl 10 fEl)] sz) [(zo1iri bo mdc9 aEl (nI sz_9)), (zaR aEl cEl 10 fEl9)]) (va_A [(zo1iri bo mdc aEl (nI sz_)), (zaR aEl cEl 10 fEl)] sz)) 0 0 (va_A [(zo1iri bo mdc aEl (nI sz_)), (zaR aEl cEl 10 fEl)] sz) := by
  refine met_ofQ (cc := cX3_doLooks) (maxL := 3) (ret := (some .int)) (by decide) rfl ?_
  intro p e s m args below meth c s₁ Q B hml hv hQ
  obtain ⟨rfl, hsz, hP, hK, hD0, hI_, hB_, hW_, hZ⟩ := hv
  have hx := B.exec
  have hb := B.bytes
  have hr := B.returns
  have hts := atoms_spec (ws := wsX3_doLooks) B.pre
  have hown : s.vm.findClass RX3 = some m.cls := findClass_of_methodNamed B.named
  have hlocks := B.notSynchronized
  subst hsz
  have hD := hD0.self (sz := s.heap.size)
  generalize hAe : va_A [(zo1iri bo mdc aEl (nI sz_)), (zaR aEl cEl 10 fEl)] s.heap.size = A at hD hQ hI_ hB_ hW_ hZ ⊢
  have hA : ∀ q : Nat, s.heap.size ≤ q → A q := fun q h => by rw [← hAe]; exact Or.inr h
  have hS : va_S A s.heap s.heap [] := va_S.rf
  have hl := lv_entry [.ref a0, .int x, .ref bo] (n := 3) (Nat.le_of_ble_eq_true rfl)
  rw [lg_entry_eq]
  generalize (lg_sl [.ref a0, .int x, .ref bo] ++ List.replicate (3 - (lg_sl [.ref a0, .int x, .ref bo]).length) Slot.unset).toArray = ls at hl ⊢
  generalize hag : ([.ref a0, .int x, .ref bo] : List Value).toArray = args at hts hQ ⊢
  have hl : lv_has ls 3 [(0, .ref a0), (1, .int x), (2, .ref bo)] := hl
  obtain ⟨H, hH⟩ : ∃ H : Heap, H = s.heap := ⟨_, rfl⟩
  rw [← hH] at hP
  rw [← hH]
  have hS : va_S A s.heap H [] := by rw [hH]; exact hS
  obtain ⟨locs, hlo⟩ : ∃ L : List Loc, L = [] := ⟨_, rfl⟩
  rw [← hlo] at hS
  rw [← hlo]
  clear hH hlo
  refine lv_iconst (v := 3) hx hb dX3_doLooks_0 (by decide) ?_
  refine lv_aload_n hx hb dX3_doLooks_1 rfl (lv_at hl 2 rfl) ?_
  have hPc := hP.sub (ws' := [(zo1iri bo mdc aEl (nI sz_)), (zaR aEl cEl 10 fEl)]) [0, 1] rfl
  have hDc := hD.sub (ws' := [(zo1iri bo mdc aEl (nI sz_)), (zaR aEl cEl 10 fEl)]) [0, 1] (by decide) rfl
  have hKc := hK.sub (tys' := [(cEl, .object "java/lang/Object")]) [0] rfl
  have hFc := va_free (wc := [(zo1iri bo mdc aEl (nI sz_)), (zaR aEl cEl 10 fEl)]) hD hS hA [0, 1] rfl
  refine va_callv (va_runS (As := [.int 3, .ref bo]) (rest := []) ⟨hx, hb, hml, hown, hts⟩ (c_begin1 l dC dI ad cB bS bo aEl 3 cEl fEl sz_ mdc tl H.size (by omega) (by omega) (zL)) (va_cwS 2 hts gX3_doLooks_X3_begin rfl rfl rfl hd_yX3_begin.2 ⟨Nat.le_of_ble_eq_true rfl, Nat.le_of_ble_eq_true rfl⟩) ⟨fun a U g mk q => by obtain ⟨q0, q1, qP, qK, qD, qhI_⟩ := q; exact ⟨q0, q1, qP, va_K.moved (u := U) (U := U.calling g mk a) (Vm.Alike.refl U.vm) qK, qD, qhI_.same rfl rfl⟩, fun U hU hW => ⟨rfl, by rw [hU], by rw [hU]; exact hPc, va_K.moved hW.alike hKc, hDc.weaken (fun _ _ _ _ => trivial), hI_.call hS hU hW (fun q h => hFc q h)⟩⟩ rfl rfl hl.1 rfl (lv_room (Nat.le_of_ble_eq_true rfl)) dX3_doLooks_2 ⟨Nat.le_of_ble_eq_true rfl, Nat.le_of_ble_eq_true rfl⟩) hS (fun q _ h => hFc q h) hFc (fun u tC H1 locs htC hvm hw_2 hB hz1 hk1 hS => ?_)
  obtain ⟨mdc9_3, sz_9_4, fEl9_5⟩ := u
  try dsimp only at hw_2 hB
  obtain ⟨hP1, hK1, hD1⟩ := hB
  rw [htC] at hP1
  have hK1 := va_K.moved hvm.symm hK1
  obtain ⟨hP, hD⟩ := va_join (wr := []) (w1 := [(zo1iri bo mdc9_3 aEl (nI sz_9_4)), (zaR aEl cEl 10 fEl9_5)]) hP hD [0, 1] [] rfl rfl (by decide) (by decide) hk1 hFc hP1 hD1
  have hK := (hK.sub (tys' := []) [] rfl).app hK1
  generalize H1 = H at hP hS ⊢
  have hP : va_P (dC, dI) vwCl [(zo1iri bo mdc9_3 aEl (nI sz_9_4)), (zaR aEl cEl 10 fEl9_5)] H := hP
  have hD : va_D A [(zo1iri bo mdc9_3 aEl (nI sz_9_4)), (zaR aEl cEl 10 fEl9_5)] := hD
  have hK : va_K (dC, dI) vwCl [(cEl, .object "java/lang/Object")] s := hK
  obtain ⟨e_6, hL_7⟩ := hw_2
  obtain rfl := (e_6).symm
  refine lv_aload_n hx hb dX3_doLooks_5 rfl (lv_at hl 0 rfl) ?_
  refine lv_iload_n hx hb dX3_doLooks_6 rfl (lv_at hl 1 rfl) ?_
  refine lv_aload_n hx hb dX3_doLooks_7 rfl (lv_at hl 2 rfl) ?_
  have hPc := hP.sub (ws' := [(zo1iri bo mdc9_3 aEl (nI (sz_ + 1))), (zaR aEl cEl 10 fEl9_5)]) [0, 1] rfl
  have hDc := hD.sub (ws' := [(zo1iri bo mdc9_3 aEl (nI (sz_ + 1))), (zaR aEl cEl 10 fEl9_5)]) [0, 1] (by decide) rfl
  have hKc := hK.sub (tys' := [(cEl, .object "java/lang/Object")]) [0] rfl
  have hFc := va_free (wc := [(zo1iri bo mdc9_3 aEl (nI (sz_ + 1))), (zaR aEl cEl 10 fEl9_5)]) hD hS hA [0, 1] rfl
  refine va_calli (va_runU (As := [.int x, .ref bo]) (rest := []) ⟨hx, hb, hml, hown, hts⟩ (c_X3_doGoes_X10_1 l dC dI ad cB bS    bo aEl i0 sk sv scl x cEl fEl9_5 a0 (sz_ + 1) mdc9_3 (tl ++ [3]) H.size (by omega) (hL_7)) (va_cwU 2 hts gX3_doLooks_X3_doGoes_u42X10 rfl rfl rfl rfl (by decide +kernel) ⟨Nat.le_of_ble_eq_true rfl, Nat.le_of_ble_eq_true rfl⟩) ⟨fun a U g mk q => by obtain ⟨q0, q1, qP, qK, qD, qhI_, qhB_, qhW_, qhZ⟩ := q; exact ⟨q0, q1, qP, va_K.moved (u := U) (U := U.calling g mk a) (Vm.Alike.refl U.vm) qK, qD, qhI_.same rfl rfl, qhB_.same rfl rfl, qhW_.same rfl rfl, qhZ.same rfl rfl⟩, va_recv hZ.2.1 (hZ.P hS) (ci := 12) (q := (RX10, TX10, 4)) (q0 := 0) rfl rfl, fun U hU hW => ⟨rfl, by rw [hU], by rw [hU]; exact hPc, va_K.moved hW.alike hKc, hDc.weaken (fun _ _ _ _ => trivial), hI_.call hS hU hW (fun q h => hFc q h), hB_.call hS hU hW (fun q h => hFc q h), hW_.call hS hU hW (fun q h => hFc q h), (hZ.sub [0] [] rfl rfl).call hS hU hW (fun q h => hFc q h)⟩⟩ rfl rfl hl.1 rfl (lv_room (Nat.le_of_ble_eq_true rfl)) dX3_doLooks_8 ⟨Nat.le_of_ble_eq_true rfl, Nat.le_of_ble_eq_true rfl⟩) hS (fun q _ h => hFc q h) hFc (fun r_8 u tC H1 locs htC hvm hw_9 hB hz1 hk1 hS => ?_)
  obtain ⟨mdc9_10, sz_9_11, fEl9_12⟩ := u
  try dsimp only at hw_9 hB
  obtain ⟨hP1, hK1, hD1⟩ := hB
  rw [htC] at hP1
  have hK1 := va_K.moved hvm.symm hK1
  obtain ⟨hP, hD⟩ := va_join (wr := []) (w1 := [(zo1iri bo mdc9_10 aEl (nI sz_9_11)), (zaR aEl cEl 10 fEl9_12)]) hP hD [0, 1] [] rfl rfl (by decide) (by decide) hk1 hFc hP1 hD1
  have hK := (hK.sub (tys' := []) [] rfl).app hK1
  generalize H1 = H at hP hS ⊢
  have hP : va_P (dC, dI) vwCl [(zo1iri bo mdc9_10 aEl (nI sz_9_11)), (zaR aEl cEl 10 fEl9_12)] H := hP
  have hD : va_D A [(zo1iri bo mdc9_10 aEl (nI sz_9_11)), (zaR aEl cEl 10 fEl9_12)] := hD
  have hK : va_K (dC, dI) vwCl [(cEl, .object "java/lang/Object")] s := hK
  obtain ⟨er_13, e_14, hL_15⟩ := hw_9
  obtain rfl := (e_14).symm
  subst er_13
  refine lv_iconst (v := 2) hx hb dX3_doLooks_11 (by decide) ?_
  refine lv_imul hx hb dX3_doLooks_12 ?_
  rw [hQ]
  have hP9 := hP.sub (ws' := [(zo1iri bo mdc9_10 aEl (nI ((sz_ + 1) + 3))), (zaR aEl cEl 10 fEl9_12)]) [0, 1] rfl
  have hD9 := hD.sub (ws' := [(zo1iri bo mdc9_10 aEl (nI ((sz_ + 1) + 3))), (zaR aEl cEl 10 fEl9_12)]) [0, 1] (by decide) rfl
  have hK9 := hK.sub (tys' := [(cEl, .object "java/lang/Object")]) [0] rfl
  exact W.iret (v := ((x * 3 + nI i0) - sv) * 2) hx hb hr (fun tQ htQ hWQ => ⟨⟨(((x * 3 + nI i0) - sv) * 2), (mdc9_10, ((sz_ + 1) + 3), fEl9_12), rfl, ⟨rfl, by omega, by have h9 := okL_as (hL_15); exact h9⟩, by rw [htQ]; exact hP9, va_K.moved hWQ.alike hK9, hD9⟩, hS.F htQ⟩) hS.2.2 dX3_doLooks_13

set_option maxHeartbeats 4000000 in
set_option maxRecDepth 100000 in
theorem c_X3_doLooks_X10_0 (l : Launch) (dC : Nat → ClassId) (dI : Nat → Nat → Nat) (ad : Nat → Nat) (cB bS : Nat)    (bo : Nat) (i0 : Nat) (sk : Int32) (sv : Int32) (scl : Int32) (x : Int32) (a0 : Nat) (mdc : Int32) (sz : Nat) : Met l yX3_doLooks wsX3_doLooks ({ frames := 6, cells := 1, slots := 10, locals := 131 } : Room) (va_Pc [.ref a0, .int x, .ref bo] (fun U => U.heap.size = sz ∧ va_P (dC, dI) vwCl [(zo1iri bo mdc bS 0)] U.heap ∧ va_K (dC, dI) vwCl [] U ∧ va_D (fun _ => True) [(zo1iri bo mdc bS 0)] ∧ Gi ad cB bS (va_A [(zo1iri bo mdc bS 0)] sz) U ∧ Gb (va_A [(zo1iri bo mdc bS 0)] sz) U ∧ Gw (va_A [(zo1iri bo mdc bS 0)] sz) U ∧ Fz dC dI [(zo12iiii a0 sk (nI i0) sv scl)] [] (va_A [(zo1iri bo mdc bS 0)] sz) U)) (va_Qi (fun (r : Int32) (u : (Int32) × (Nat) × (ClassId) × (Nat) × (Nat → Option Nat)) => match u with | (mdc9, aEl9, cEl9, sz_9, fEl9) => r = ((x * 3 + nI i0) - sv) * 2 ∧ sz_9 = 4 ∧ okL ad fEl9 sz_9 [3, 2, 11, 1]) (fun (u : (Int32) × (Nat) × (ClassId) × (Nat) × (Nat → Option Nat)) (t : State) => match u with | (mdc9, aEl9, cEl9, sz_9, fEl9) => va_P (dC, dI) vwCl [(zo1iri bo mdc9 aEl9 (nI sz_9)), (zaR aEl9 cEl9 10 fEl9)] t.heap ∧ va_K (dC, dI) vwCl [(cEl9, .object "java/lang/Object")] t ∧ va_D (va_A [(zo1iri bo mdc bS 0)] sz) [(zo1iri bo mdc9 aEl9 (nI sz_9)), (zaR aEl9 cEl9 10 fEl9)]) (va_A [(zo1iri bo mdc bS 0)] sz)) 1 10 (va_A [(zo1iri bo mdc bS 0)] sz) := by
  refine met_ofQ (cc := cX3_doLooks) (maxL := 3) (ret := (some .int)) (by decide) rfl ?_
  intro p e s m args below meth c s₁ Q B hml hv hQ
  obtain ⟨rfl, hsz, hP, hK, hD0, hI_, hB_, hW_, hZ⟩ := hv
  have hx := B.exec
  have hb := B.bytes
  have hr := B.returns
  have hts := atoms_spec (ws := wsX3_doLooks) B.pre
  have hown : s.vm.findClass RX3 = some m.cls := findClass_of_methodNamed B.named
  have hlocks := B.notSynchronized
  subst hsz
  have hD := hD0.self (sz := s.heap.size)
  generalize hAe : va_A [(zo1iri bo mdc bS 0)] s.heap.size = A at hD hQ hI_ hB_ hW_ hZ ⊢
  have hA : ∀ q : Nat, s.heap.size ≤ q → A q := fun q h => by rw [← hAe]; exact Or.inr h
  have hS : va_S A s.heap s.heap [] := va_S.rf
  have hl := lv_entry [.ref a0, .int x, .ref bo] (n := 3) (Nat.le_of_ble_eq_true rfl)
  rw [lg_entry_eq]
  generalize (lg_sl [.ref a0, .int x, .ref bo] ++ List.replicate (3 - (lg_sl [.ref a0, .int x, .ref bo]).length) Slot.unset).toArray = ls at hl ⊢
  generalize hag : ([.ref a0, .int x, .ref bo] : List Value).toArray = args at hts hQ ⊢
  have hl : lv_has ls 3 [(0, .ref a0), (1, .int x), (2, .ref bo)] := hl
  obtain ⟨H, hH⟩ : ∃ H : Heap, H = s.heap := ⟨_, rfl⟩
  rw [← hH] at hP
  rw [← hH]
  have hS : va_S A s.heap H [] := by rw [hH]; exact hS
  obtain ⟨locs, hlo⟩ : ∃ L : List Loc, L = [] := ⟨_, rfl⟩
  rw [← hlo] at hS
  rw [← hlo]
  clear hH hlo
  refine lv_iconst (v := 3) hx hb dX3_doLooks_0 (by decide) ?_
  refine lv_aload_n hx hb dX3_doLooks_1 rfl (lv_at hl 2 rfl) ?_
  have hPc := hP.sub (ws' := [(zo1iri bo mdc bS 0)]) [0] rfl
  have hDc := hD.sub (ws' := [(zo1iri bo mdc bS 0)]) [0] (by decide) rfl
  have hKc := hK.sub (tys' := []) [] rfl
  have hFc := va_free (wc := [(zo1iri bo mdc bS 0)]) hD hS hA [0] rfl
  refine va_callv (va_runS (As := [.int 3, .ref bo]) (rest := []) ⟨hx, hb, hml, hown, hts⟩ (c_begin0 l dC dI ad cB bS bo mdc 3 H.size (by omega)) (va_cwS 2 hts gX3_doLooks_X3_begin rfl rfl rfl hd_yX3_begin.2 ⟨Nat.le_of_ble_eq_true rfl, Nat.le_of_ble_eq_true rfl⟩) ⟨fun a U g mk q => by obtain ⟨q0, q1, qP, qK, qD, qhI_⟩ := q; exact ⟨q0, q1, qP, va_K.moved (u := U) (U := U.calling g mk a) (Vm.Alike.refl U.vm) qK, qD, qhI_.same rfl rfl⟩, fun U hU hW => ⟨rfl, by rw [hU], by rw [hU]; exact hPc, va_K.moved hW.alike hKc, hDc.weaken (fun _ _ _ _ => trivial), hI_.call hS hU hW (fun q h => hFc q h)⟩⟩ rfl rfl hl.1 rfl (lv_room (Nat.le_of_ble_eq_true rfl)) dX3_doLooks_2 ⟨Nat.le_of_ble_eq_true rfl, Nat.le_of_ble_eq_true rfl⟩) hS (fun q _ h => hFc q h) hFc (fun u tC H1 locs htC hvm hw_2 hB hz1 hk1 hS => ?_)
  obtain ⟨mdc9_3, aEl9_4, cEl9_5, sz_9_6, fEl9_7⟩ := u
  try dsimp only at hw_2 hB
  obtain ⟨hP1, hK1, hD1⟩ := hB
  rw [htC] at hP1
  have hK1 := va_K.moved hvm.symm hK1
  obtain ⟨hP, hD⟩ := va_join (wr := []) (w1 := [(zo1iri bo mdc9_3 aEl9_4 (nI sz_9_6)), (zaR aEl9_4 cEl9_5 10 fEl9_7)]) hP hD [0] [] rfl rfl (by decide) (by decide) hk1 hFc hP1 hD1
  have hK := (hK.sub (tys' := []) [] rfl).app hK1
  generalize H1 = H at hP hS ⊢
  have hP : va_P (dC, dI) vwCl [(zo1iri bo mdc9_3 aEl9_4 (nI sz_9_6)), (zaR aEl9_4 cEl9_5 10 fEl9_7)] H := hP
  have hD : va_D A [(zo1iri bo mdc9_3 aEl9_4 (nI sz_9_6)), (zaR aEl9_4 cEl9_5 10 fEl9_7)] := hD
  have hK : va_K (dC, dI) vwCl [(cEl9_5, .object "java/lang/Object")] s := hK
  refine W.widen (k := 1) (n := 10) (by omega) (by omega) ?_
  obtain ⟨e_8, hL_9⟩ := hw_2
  obtain rfl := (e_8).symm
  refine lv_aload_n hx hb dX3_doLooks_5 rfl (lv_at hl 0 rfl) ?_
  refine lv_iload_n hx hb dX3_doLooks_6 rfl (lv_at hl 1 rfl) ?_
  refine lv_aload_n hx hb dX3_doLooks_7 rfl (lv_at hl 2 rfl) ?_
  have hPc := hP.sub (ws' := [(zo1iri bo mdc9_3 aEl9_4 (nI 1)), (zaR aEl9_4 cEl9_5 10 fEl9_7)]) [0, 1] rfl
  have hDc := hD.sub (ws' := [(zo1iri bo mdc9_3 aEl9_4 (nI 1)), (zaR aEl9_4 cEl9_5 10 fEl9_7)]) [0, 1] (by decide) rfl
  have hKc := hK.sub (tys' := [(cEl9_5, .object "java/lang/Object")]) [0] rfl
  have hFc := va_free (wc := [(zo1iri bo mdc9_3 aEl9_4 (nI 1)), (zaR aEl9_4 cEl9_5 10 fEl9_7)]) hD hS hA [0, 1] rfl
  refine va_calli (va_runU (As := [.int x, .ref bo]) (rest := []) ⟨hx, hb, hml, hown, hts⟩ (c_X3_doGoes_X10_1 l dC dI ad cB bS    bo aEl9_4 i0 sk sv scl x cEl9_5 fEl9_7 a0 1 mdc9_3 ([3]) H.size (by omega) (hL_9)) (va_cwU 2 hts gX3_doLooks_X3_doGoes_u42X10 rfl rfl rfl rfl (by decide +kernel) ⟨Nat.le_of_ble_eq_true rfl, Nat.le_of_ble_eq_true rfl⟩) ⟨fun a U g mk q => by obtain ⟨q0, q1, qP, qK, qD, qhI_, qhB_, qhW_, qhZ⟩ := q; exact ⟨q0, q1, qP, va_K.moved (u := U) (U := U.calling g mk a) (Vm.Alike.refl U.vm) qK, qD, qhI_.same rfl rfl, qhB_.same rfl rfl, qhW_.same rfl rfl, qhZ.same rfl rfl⟩, va_recv hZ.2.1 (hZ.P hS) (ci := 12) (q := (RX10, TX10, 4)) (q0 := 0) rfl rfl, fun U hU hW => ⟨rfl, by rw [hU], by rw [hU]; exact hPc, va_K.moved hW.alike hKc, hDc.weaken (fun _ _ _ _ => trivial), hI_.call hS hU hW (fun q h => hFc q h), hB_.call hS hU hW (fun q h => hFc q h), hW_.call hS hU hW (fun q h => hFc q h), (hZ.sub [0] [] rfl rfl).call hS hU hW (fun q h => hFc q h)⟩⟩ rfl rfl hl.1 rfl (lv_room (Nat.le_of_ble_eq_true rfl)) dX3_doLooks_8 ⟨Nat.le_of_ble_eq_true rfl, Nat.le_of_ble_eq_true rfl⟩) hS (fun q _ h => hFc q h) hFc (fun r_10 u tC H1 locs htC hvm hw_11 hB hz1 hk1 hS => ?_)
  obtain ⟨mdc9_12, sz_9_13, fEl9_14⟩ := u
  try dsimp only at hw_11 hB
  obtain ⟨hP1, hK1, hD1⟩ := hB
  rw [htC] at hP1
  have hK1 := va_K.moved hvm.symm hK1
  obtain ⟨hP, hD⟩ := va_join (wr := []) (w1 := [(zo1iri bo mdc9_12 aEl9_4 (nI sz_9_13)), (zaR aEl9_4 cEl9_5 10 fEl9_14)]) hP hD [0, 1] [] rfl rfl (by decide) (by decide) hk1 hFc hP1 hD1
  have hK := (hK.sub (tys' := []) [] rfl).app hK1
  generalize H1 = H at hP hS ⊢
  have hP : va_P (dC, dI) vwCl [(zo1iri bo mdc9_12 aEl9_4 (nI sz_9_13)), (zaR aEl9_4 cEl9_5 10 fEl9_14)] H := hP
  have hD : va_D A [(zo1iri bo mdc9_12 aEl9_4 (nI sz_9_13)), (zaR aEl9_4 cEl9_5 10 fEl9_14)] := hD
  have hK : va_K (dC, dI) vwCl [(cEl9_5, .object "java/lang/Object")] s := hK
  obtain ⟨er_15, e_16, hL_17⟩ := hw_11
  obtain rfl := (e_16).symm
  subst er_15
  refine lv_iconst (v := 2) hx hb dX3_doLooks_11 (by decide) ?_
  refine lv_imul hx hb dX3_doLooks_12 ?_
  rw [hQ]
  have hP9 := hP.sub (ws' := [(zo1iri bo mdc9_12 aEl9_4 (nI (1 + 3))), (zaR aEl9_4 cEl9_5 10 fEl9_14)]) [0, 1] rfl
  have hD9 := hD.sub (ws' := [(zo1iri bo mdc9_12 aEl9_4 (nI (1 + 3))), (zaR aEl9_4 cEl9_5 10 fEl9_14)]) [0, 1] (by decide) rfl
  have hK9 := hK.sub (tys' := [(cEl9_5, .object "java/lang/Object")]) [0] rfl
  refine W.widen (k := 1) (n := 10) (by omega) (by omega) ?_
  exact W.iret (v := ((x * 3 + nI i0) - sv) * 2) hx hb hr (fun tQ htQ hWQ => ⟨⟨(((x * 3 + nI i0) - sv) * 2), (mdc9_12, aEl9_4, cEl9_5, (1 + 3), fEl9_14), rfl, ⟨rfl, by omega, hL_17⟩, by rw [htQ]; exact hP9, va_K.moved hWQ.alike hK9, hD9⟩, hS.F htQ⟩) hS.2.2 dX3_doLooks_13

set_option maxHeartbeats 4000000 in
set_option maxRecDepth 100000 in
theorem c_X10_doLooks_X10_1 (l : Launch) (dC : Nat → ClassId) (dI : Nat → Nat → Nat) (ad : Nat → Nat) (cB bS : Nat)    (bo : Nat) (aEl : Nat) (i0 : Nat) (sk : Int32) (sv : Int32) (scl : Int32) (x : Int32) (cEl : ClassId) (fEl : Nat → Option Nat) (a0 : Nat) (sz_ : Nat) (mdc : Int32) (tl : List Nat) (sz : Nat) (hsz : sz_ + 7 ≤ 10) (zL : okL ad fEl sz_ tl) : Met l yX10_doLooks wsX10_doLooks ({ frames := 7, cells := 0, slots := 0, locals := 153 } : Room) (va_Pc [.ref a0, .int x, .ref bo] (fun U => U.heap.size = sz ∧ va_P (dC, dI) vwCl [(zo1iri bo mdc aEl (nI sz_)), (zaR aEl cEl 10 fEl)] U.heap ∧ va_K (dC, dI) vwCl [(cEl, .object "java/lang/Object")] U ∧ va_D (fun _ => True) [(zo1iri bo mdc aEl (nI sz_)), (zaR aEl cEl 10 fEl)] ∧ Gi ad cB bS (va_A [(zo1iri bo mdc aEl (nI sz_)), (zaR aEl cEl 10 fEl)] sz) U ∧ Gb (va_A [(zo1iri bo mdc aEl (nI sz_)), (zaR aEl cEl 10 fEl)] sz) U ∧ Gw (va_A [(zo1iri bo mdc aEl (nI sz_)), (zaR aEl cEl 10 fEl)] sz) U ∧ Fz dC dI [(zo12iiii a0 sk (nI i0) sv scl)] [] (va_A [(zo1iri bo mdc aEl (nI sz_)), (zaR aEl cEl 10 fEl)] sz) U)) (va_Qi (fun (r : Int32) (u : (Int32) × (Nat) × (Nat → Option Nat)) => match u with | (mdc9, sz_9, fEl9) => r = ((((x - 1) * 3 + nI i0) - sv) * 2) + (2 * 3 + nI i0) ∧ sz_9 = sz_ + 7 ∧ okL ad fEl9 sz_9 (tl ++ [41, 3, 2, 11, 1, 11, 1])) (fun (u : (Int32) × (Nat) × (Nat → Option Nat)) (t : State) => match u with | (mdc9, sz_9, fEl9) => va_P (dC, dI) vwCl [(zo1iri bo mdc9 aEl (nI sz_9)), (zaR aEl cEl 10 fEl9)] t.heap ∧ va_K (dC, dI) vwCl [(cEl, .object "java/lang/Object")] t ∧ va_D (va_A [(zo1iri bo mdc aEl (nI sz_)), (zaR aEl cEl 10 fEl)] sz) [(zo1iri bo mdc9 aEl (nI sz_9)), (zaR aEl cEl 10 fEl9)]) (va_A [(zo1iri bo mdc aEl (nI sz_)), (zaR aEl cEl 10 fEl)] sz)) 0 0 (va_A [(zo1iri bo mdc aEl (nI sz_)), (zaR aEl cEl 10 fEl)] sz) := by
  refine met_ofQ (cc := cX10_doLooks) (maxL := 4) (ret := (some .int)) (by decide) rfl ?_
  intro p e s m args below meth c s₁ Q B hml hv hQ
  obtain ⟨rfl, hsz, hP, hK, hD0, hI_, hB_, hW_, hZ⟩ := hv
  have hx := B.exec
  have hb := B.bytes
  have hr := B.returns
  have hts := atoms_spec (ws := wsX10_doLooks) B.pre
  have hown : s.vm.findClass RX10 = some m.cls := findClass_of_methodNamed B.named
  have hlocks := B.notSynchronized
  subst hsz
  have hD := hD0.self (sz := s.heap.size)
  generalize hAe : va_A [(zo1iri bo mdc aEl (nI sz_)), (zaR aEl cEl 10 fEl)] s.heap.size = A at hD hQ hI_ hB_ hW_ hZ ⊢
  have hA : ∀ q : Nat, s.heap.size ≤ q → A q := fun q h => by rw [← hAe]; exact Or.inr h
  have hS : va_S A s.heap s.heap [] := va_S.rf
  have hl := lv_entry [.ref a0, .int x, .ref bo] (n := 4) (Nat.le_of_ble_eq_true rfl)
  rw [lg_entry_eq]
  generalize (lg_sl [.ref a0, .int x, .ref bo] ++ List.replicate (4 - (lg_sl [.ref a0, .int x, .ref bo]).length) Slot.unset).toArray = ls at hl ⊢
  generalize hag : ([.ref a0, .int x, .ref bo] : List Value).toArray = args at hts hQ ⊢
  have hl : lv_has ls 4 [(0, .ref a0), (1, .int x), (2, .ref bo)] := hl
  obtain ⟨H, hH⟩ : ∃ H : Heap, H = s.heap := ⟨_, rfl⟩
  rw [← hH] at hP
  rw [← hH]
  have hS : va_S A s.heap H [] := by rw [hH]; exact hS
  obtain ⟨locs, hlo⟩ : ∃ L : List Loc, L = [] := ⟨_, rfl⟩
  rw [← hlo] at hS
  rw [← hlo]
  clear hH hlo
  refine lv_bipush (v := 41) hx hb dX10_doLooks_0 (by decide) ?_
  refine lv_aload_n hx hb dX10_doLooks_2 rfl (lv_at hl 2 rfl) ?_
  have hPc := hP.sub (ws' := [(zo1iri bo mdc aEl (nI sz_)), (zaR aEl cEl 10 fEl)]) [0, 1] rfl
  have hDc := hD.sub (ws' := [(zo1iri bo mdc aEl (nI sz_)), (zaR aEl cEl 10 fEl)]) [0, 1] (by decide) rfl
  have hKc := hK.sub (tys' := [(cEl, .object "java/lang/Object")]) [0] rfl
  have hFc := va_free (wc := [(zo1iri bo mdc aEl (nI sz_)), (zaR aEl cEl 10 fEl)]) hD hS hA [0, 1] rfl
  refine va_callv (va_runU2 (As := [.int 41, .ref bo]) (rest := []) ⟨hx, hb, hml, hown, hts⟩ (c_begin1 l dC dI ad cB bS bo aEl 41 cEl fEl sz_ mdc tl H.size (by omega) (by omega) (zL)) (u2_cw (x := xb10) 2 hB_ inb10 rfl rfl rfl rfl rfl (by decide +kernel) ⟨Nat.le_of_ble_eq_true rfl, Nat.le_of_ble_eq_true rfl⟩) ⟨fun a U g mk q => by obtain ⟨q0, q1, qP, qK, qD, qhI_⟩ := q; exact ⟨q0, q1, qP, va_K.moved (u := U) (U := U.calling g mk a) (Vm.Alike.refl U.vm) qK, qD, qhI_.same rfl rfl⟩, fun U hU hW => ⟨rfl, by rw [hU], by rw [hU]; exact hPc, va_K.moved hW.alike hKc, hDc.weaken (fun _ _ _ _ => trivial), hI_.call hS hU hW (fun q h => hFc q h)⟩⟩ rfl rfl hl.1 rfl (lv_room (Nat.le_of_ble_eq_true rfl)) dX10_doLooks_3 ⟨Nat.le_of_ble_eq_true rfl, Nat.le_of_ble_eq_true rfl⟩) hS (fun q _ h => hFc q h) hFc (fun u tC H1 locs htC hvm hw_2 hB hz1 hk1 hS => ?_)
  obtain ⟨mdc9_3, sz_9_4, fEl9_5⟩ := u
  try dsimp only at hw_2 hB
  obtain ⟨hP1, hK1, hD1⟩ := hB
  rw [htC] at hP1
  have hK1 := va_K.moved hvm.symm hK1
  obtain ⟨hP, hD⟩ := va_join (wr := []) (w1 := [(zo1iri bo mdc9_3 aEl (nI sz_9_4)), (zaR aEl cEl 10 fEl9_5)]) hP hD [0, 1] [] rfl rfl (by decide) (by decide) hk1 hFc hP1 hD1
  have hK := (hK.sub (tys' := []) [] rfl).app hK1
  generalize H1 = H at hP hS ⊢
  have hP : va_P (dC, dI) vwCl [(zo1iri bo mdc9_3 aEl (nI sz_9_4)), (zaR aEl cEl 10 fEl9_5)] H := hP
  have hD : va_D A [(zo1iri bo mdc9_3 aEl (nI sz_9_4)), (zaR aEl cEl 10 fEl9_5)] := hD
  have hK : va_K (dC, dI) vwCl [(cEl, .object "java/lang/Object")] s := hK
  obtain ⟨e_6, hL_7⟩ := hw_2
  obtain rfl := (e_6).symm
  refine lv_aload_n hx hb dX10_doLooks_6 rfl (lv_at hl 0 rfl) ?_
  refine lv_iload_n hx hb dX10_doLooks_7 rfl (lv_at hl 1 rfl) ?_
  refine lv_iconst (v := 1) hx hb dX10_doLooks_8 (by decide) ?_
  refine lv_isub hx hb dX10_doLooks_9 ?_
  refine lv_aload_n hx hb dX10_doLooks_10 rfl (lv_at hl 2 rfl) ?_
  have hPc := hP.sub (ws' := [(zo1iri bo mdc9_3 aEl (nI (sz_ + 1))), (zaR aEl cEl 10 fEl9_5)]) [0, 1] rfl
  have hDc := hD.sub (ws' := [(zo1iri bo mdc9_3 aEl (nI (sz_ + 1))), (zaR aEl cEl 10 fEl9_5)]) [0, 1] (by decide) rfl
  have hKc := hK.sub (tys' := [(cEl, .object "java/lang/Object")]) [0] rfl
  have hFc := va_free (wc := [(zo1iri bo mdc9_3 aEl (nI (sz_ + 1))), (zaR aEl cEl 10 fEl9_5)]) hD hS hA [0, 1] rfl
  refine va_calli (va_runS2 (hZ.2.1.1 12 (RX10, TX10, 4) rfl).2 (As := [.int (x - 1), .ref bo]) (rest := []) ⟨hx, hb, hml, hown, hts⟩ (c_X3_doLooks_X10_1 l dC dI ad cB bS    bo aEl i0 sk sv scl (x - 1) cEl fEl9_5 a0 (sz_ + 1) mdc9_3 (tl ++ [41]) H.size (by omega) (hL_7)) (s2_cw (x := x10l) 2 hW_ in10l rfl rfl rfl rfl rfl (by decide +kernel) ⟨Nat.le_of_ble_eq_true rfl, Nat.le_of_ble_eq_true rfl⟩) ⟨fun a U g mk q => by obtain ⟨q0, q1, qP, qK, qD, qhI_, qhB_, qhW_, qhZ⟩ := q; exact ⟨q0, q1, qP, va_K.moved (u := U) (U := U.calling g mk a) (Vm.Alike.refl U.vm) qK, qD, qhI_.same rfl rfl, qhB_.same rfl rfl, qhW_.same rfl rfl, qhZ.same rfl rfl⟩, va_recv hZ.2.1 (hZ.P hS) (ci := 12) (q := (RX10, TX10, 4)) (q0 := 0) rfl rfl, fun U hU hW => ⟨rfl, by rw [hU], by rw [hU]; exact hPc, va_K.moved hW.alike hKc, hDc.weaken (fun _ _ _ _ => trivial), hI_.call hS hU hW (fun q h => hFc q h), hB_.call hS hU hW (fun q h => hFc q h), hW_.call hS hU hW (fun q h => hFc q h), (hZ.sub [0] [] rfl rfl).call hS hU hW (fun q h => hFc q h)⟩⟩ rfl rfl hl.1 rfl (lv_room (Nat.le_of_ble_eq_true rfl)) dX10_doLooks_11 ⟨Nat.le_of_ble_eq_true rfl, Nat.le_of_ble_eq_true rfl⟩) hS (fun q _ h => hFc q h) hFc (fun r_8 u tC H1 locs htC hvm hw_9 hB hz1 hk1 hS => ?_)
  obtain ⟨mdc9_10, sz_9_11, fEl9_12⟩ := u
  try dsimp only at hw_9 hB
  obtain ⟨hP1, hK1, hD1⟩ := hB
  rw [htC] at hP1
  have hK1 := va_K.moved hvm.symm hK1
  obtain ⟨hP, hD⟩ := va_join (wr := []) (w1 := [(zo1iri bo mdc9_10 aEl (nI sz_9_11)), (zaR aEl cEl 10 fEl9_12)]) hP hD [0, 1] [] rfl rfl (by decide) (by decide) hk1 hFc hP1 hD1
  have hK := (hK.sub (tys' := []) [] rfl).app hK1
  generalize H1 = H at hP hS ⊢
  have hP : va_P (dC, dI) vwCl [(zo1iri bo mdc9_10 aEl (nI sz_9_11)), (zaR aEl cEl 10 fEl9_12)] H := hP
  have hD : va_D A [(zo1iri bo mdc9_10 aEl (nI sz_9_11)), (zaR aEl cEl 10 fEl9_12)] := hD
  have hK : va_K (dC, dI) vwCl [(cEl, .object "java/lang/Object")] s := hK
  obtain ⟨er_13, e_14, hL_15⟩ := hw_9
  obtain rfl := (e_14).symm
  subst er_13
  refine lv_istore_n (lv' := [(3, .int ((((x - 1) * 3 + nI i0) - sv) * 2)), (0, .ref a0), (1, .int x), (2, .ref bo)]) hx hb dX10_doLooks_14 rfl hl (by decide) rfl (fun ls hl => ?_)
  refine lv_iload_n hx hb dX10_doLooks_15 rfl (lv_at hl 0 rfl) ?_
  refine lv_aload_n hx hb dX10_doLooks_16 rfl (lv_at hl 1 rfl) ?_
  refine lv_iconst (v := 2) hx hb dX10_doLooks_17 (by decide) ?_
  refine lv_aload_n hx hb dX10_doLooks_18 rfl (lv_at hl 3 rfl) ?_
  have hPc := hP.sub (ws' := [(zo1iri bo mdc9_10 aEl (nI ((sz_ + 1) + 4))), (zaR aEl cEl 10 fEl9_12)]) [0, 1] rfl
  have hDc := hD.sub (ws' := [(zo1iri bo mdc9_10 aEl (nI ((sz_ + 1) + 4))), (zaR aEl cEl 10 fEl9_12)]) [0, 1] (by decide) rfl
  have hKc := hK.sub (tys' := [(cEl, .object "java/lang/Object")]) [0] rfl
  have hFc := va_free (wc := [(zo1iri bo mdc9_10 aEl (nI ((sz_ + 1) + 4))), (zaR aEl cEl 10 fEl9_12)]) hD hS hA [0, 1] rfl
  refine va_calli (va_runU (As := [.int 2, .ref bo]) (rest := [.int ((((x - 1) * 3 + nI i0) - sv) * 2)]) ⟨hx, hb, hml, hown, hts⟩ (c_X4_doSees_X10_1 l dC dI ad cB bS    bo aEl i0 sk sv scl 2 cEl fEl9_12 a0 ((sz_ + 1) + 4) mdc9_10 ((tl ++ [41]) ++ [3, 2, 11, 1]) H.size (by omega) (hL_15)) (va_cwU 2 hts gX10_doLooks_X4_doSees_u44X10 rfl rfl rfl rfl (by decide +kernel) ⟨Nat.le_of_ble_eq_true rfl, Nat.le_of_ble_eq_true rfl⟩) ⟨fun a U g mk q => by obtain ⟨q0, q1, qP, qK, qD, qhI_, qhB_, qhW_, qhZ⟩ := q; exact ⟨q0, q1, qP, va_K.moved (u := U) (U := U.calling g mk a) (Vm.Alike.refl U.vm) qK, qD, qhI_.same rfl rfl, qhB_.same rfl rfl, qhW_.same rfl rfl, qhZ.same rfl rfl⟩, va_recv hZ.2.1 (hZ.P hS) (ci := 12) (q := (RX10, TX10, 4)) (q0 := 0) rfl rfl, fun U hU hW => ⟨rfl, by rw [hU], by rw [hU]; exact hPc, va_K.moved hW.alike hKc, hDc.weaken (fun _ _ _ _ => trivial), hI_.call hS hU hW (fun q h => hFc q h), hB_.call hS hU hW (fun q h => hFc q h), hW_.call hS hU hW (fun q h => hFc q h), (hZ.sub [0] [] rfl rfl).call hS hU hW (fun q h => hFc q h)⟩⟩ rfl rfl hl.1 rfl (lv_room (Nat.le_of_ble_eq_true rfl)) dX10_doLooks_19 ⟨Nat.le_of_ble_eq_true rfl, Nat.le_of_ble_eq_true rfl⟩) hS (fun q _ h => hFc q h) hFc (fun r_16 u tC H1 locs htC hvm hw_17 hB hz1 hk1 hS => ?_)
  obtain ⟨mdc9_18, sz_9_19, fEl9_20⟩ := u
  try dsimp only at hw_17 hB
  obtain ⟨hP1, hK1, hD1⟩ := hB
  rw [htC] at hP1
  have hK1 := va_K.moved hvm.symm hK1
  obtain ⟨hP, hD⟩ := va_join (wr := []) (w1 := [(zo1iri bo mdc9_18 aEl (nI sz_9_19)), (zaR aEl cEl 10 fEl9_20)]) hP hD [0, 1] [] rfl rfl (by decide) (by decide) hk1 hFc hP1 hD1
  have hK := (hK.sub (tys' := []) [] rfl).app hK1
  generalize H1 = H at hP hS ⊢
  have hP : va_P (dC, dI) vwCl [(zo1iri bo mdc9_18 aEl (nI sz_9_19)), (zaR aEl cEl 10 fEl9_20)] H := hP
  have hD : va_D A [(zo1iri bo mdc9_18 aEl (nI sz_9_19)), (zaR aEl cEl 10 fEl9_20)] := hD
  have hK : va_K (dC, dI) vwCl [(cEl, .object "java/lang/Object")] s := hK
  obtain ⟨er_21, e_22, hL_23⟩ := hw_17
  obtain rfl := (e_22).symm
  subst er_21
  refine lv_iadd hx hb dX10_doLooks_22 ?_
  rw [hQ]
  have hP9 := hP.sub (ws' := [(zo1iri bo mdc9_18 aEl (nI (((sz_ + 1) + 4) + 2))), (zaR aEl cEl 10 fEl9_20)]) [0, 1] rfl
  have hD9 := hD.sub (ws' := [(zo1iri bo mdc9_18 aEl (nI (((sz_ + 1) + 4) + 2))), (zaR aEl cEl 10 fEl9_20)]) [0, 1] (by decide) rfl
  have hK9 := hK.sub (tys' := [(cEl, .object "java/lang/Object")]) [0] rfl
  exact W.iret (v := ((((x - 1) * 3 + nI i0) - sv) * 2) + (2 * 3 + nI i0)) hx hb hr (fun tQ htQ hWQ => ⟨⟨(((((x - 1) * 3 + nI i0) - sv) * 2) + (2 * 3 + nI i0)), (mdc9_18, (((sz_ + 1) + 4) + 2), fEl9_20), rfl, ⟨rfl, by omega, by have h9 := okL_as (okL_as (hL_23)); exact h9⟩, by rw [htQ]; exact hP9, va_K.moved hWQ.alike hK9, hD9⟩, hS.F htQ⟩) hS.2.2 dX10_doLooks_23

set_option maxHeartbeats 4000000 in
set_option maxRecDepth 100000 in
theorem c_X10_doLooks_X10_0 (l : Launch) (dC : Nat → ClassId) (dI : Nat → Nat → Nat) (ad : Nat → Nat) (cB bS : Nat)    (bo : Nat) (i0 : Nat) (sk : Int32) (sv : Int32) (scl : Int32) (x : Int32) (a0 : Nat) (mdc : Int32) (sz : Nat) : Met l yX10_doLooks wsX10_doLooks ({ frames := 7, cells := 1, slots := 10, locals := 153 } : Room) (va_Pc [.ref a0, .int x, .ref bo] (fun U => U.heap.size = sz ∧ va_P (dC, dI) vwCl [(zo1iri bo mdc bS 0)] U.heap ∧ va_K (dC, dI) vwCl [] U ∧ va_D (fun _ => True) [(zo1iri bo mdc bS 0)] ∧ Gi ad cB bS (va_A [(zo1iri bo mdc bS 0)] sz) U ∧ Gb (va_A [(zo1iri bo mdc bS 0)] sz) U ∧ Gw (va_A [(zo1iri bo mdc bS 0)] sz) U ∧ Fz dC dI [(zo12iiii a0 sk (nI i0) sv scl)] [] (va_A [(zo1iri bo mdc bS 0)] sz) U)) (va_Qi (fun (r : Int32) (u : (Int32) × (Nat) × (ClassId) × (Nat) × (Nat → Option Nat)) => match u with | (mdc9, aEl9, cEl9, sz_9, fEl9) => r = ((((x - 1) * 3 + nI i0) - sv) * 2) + (2 * 3 + nI i0) ∧ sz_9 = 7 ∧ okL ad fEl9 sz_9 [41, 3, 2, 11, 1, 11, 1]) (fun (u : (Int32) × (Nat) × (ClassId) × (Nat) × (Nat → Option Nat)) (t : State) => match u with | (mdc9, aEl9, cEl9, sz_9, fEl9) => va_P (dC, dI) vwCl [(zo1iri bo mdc9 aEl9 (nI sz_9)), (zaR aEl9 cEl9 10 fEl9)] t.heap ∧ va_K (dC, dI) vwCl [(cEl9, .object "java/lang/Object")] t ∧ va_D (va_A [(zo1iri bo mdc bS 0)] sz) [(zo1iri bo mdc9 aEl9 (nI sz_9)), (zaR aEl9 cEl9 10 fEl9)]) (va_A [(zo1iri bo mdc bS 0)] sz)) 1 10 (va_A [(zo1iri bo mdc bS 0)] sz) := by
  refine met_ofQ (cc := cX10_doLooks) (maxL := 4) (ret := (some .int)) (by decide) rfl ?_
  intro p e s m args below meth c s₁ Q B hml hv hQ
  obtain ⟨rfl, hsz, hP, hK, hD0, hI_, hB_, hW_, hZ⟩ := hv
  have hx := B.exec
  have hb := B.bytes
  have hr := B.returns
  have hts := atoms_spec (ws := wsX10_doLooks) B.pre
  have hown : s.vm.findClass RX10 = some m.cls := findClass_of_methodNamed B.named
  have hlocks := B.notSynchronized
  subst hsz
  have hD := hD0.self (sz := s.heap.size)
  generalize hAe : va_A [(zo1iri bo mdc bS 0)] s.heap.size = A at hD hQ hI_ hB_ hW_ hZ ⊢
  have hA : ∀ q : Nat, s.heap.size ≤ q → A q := fun q h => by rw [← hAe]; exact Or.inr h
  have hS : va_S A s.heap s.heap [] := va_S.rf
  have hl := lv_entry [.ref a0, .int x, .ref bo] (n := 4) (Nat.le_of_ble_eq_true rfl)
  rw [lg_entry_eq]
  generalize (lg_sl [.ref a0, .int x, .ref bo] ++ List.replicate (4 - (lg_sl [.ref a0, .int x, .ref bo]).length) Slot.unset).toArray = ls at hl ⊢
  generalize hag : ([.ref a0, .int x, .ref bo] : List Value).toArray = args at hts hQ ⊢
  have hl : lv_has ls 4 [(0, .ref a0), (1, .int x), (2, .ref bo)] := hl
  obtain ⟨H, hH⟩ : ∃ H : Heap, H = s.heap := ⟨_, rfl⟩
  rw [← hH] at hP
  rw [← hH]
  have hS : va_S A s.heap H [] := by rw [hH]; exact hS
  obtain ⟨locs, hlo⟩ : ∃ L : List Loc, L = [] := ⟨_, rfl⟩
  rw [← hlo] at hS
  rw [← hlo]
  clear hH hlo
  refine lv_bipush (v := 41) hx hb dX10_doLooks_0 (by decide) ?_
  refine lv_aload_n hx hb dX10_doLooks_2 rfl (lv_at hl 2 rfl) ?_
  have hPc := hP.sub (ws' := [(zo1iri bo mdc bS 0)]) [0] rfl
  have hDc := hD.sub (ws' := [(zo1iri bo mdc bS 0)]) [0] (by decide) rfl
  have hKc := hK.sub (tys' := []) [] rfl
  have hFc := va_free (wc := [(zo1iri bo mdc bS 0)]) hD hS hA [0] rfl
  refine va_callv (va_runU2 (As := [.int 41, .ref bo]) (rest := []) ⟨hx, hb, hml, hown, hts⟩ (c_begin0 l dC dI ad cB bS bo mdc 41 H.size (by omega)) (u2_cw (x := xb10) 2 hB_ inb10 rfl rfl rfl rfl rfl (by decide +kernel) ⟨Nat.le_of_ble_eq_true rfl, Nat.le_of_ble_eq_true rfl⟩) ⟨fun a U g mk q => by obtain ⟨q0, q1, qP, qK, qD, qhI_⟩ := q; exact ⟨q0, q1, qP, va_K.moved (u := U) (U := U.calling g mk a) (Vm.Alike.refl U.vm) qK, qD, qhI_.same rfl rfl⟩, fun U hU hW => ⟨rfl, by rw [hU], by rw [hU]; exact hPc, va_K.moved hW.alike hKc, hDc.weaken (fun _ _ _ _ => trivial), hI_.call hS hU hW (fun q h => hFc q h)⟩⟩ rfl rfl hl.1 rfl (lv_room (Nat.le_of_ble_eq_true rfl)) dX10_doLooks_3 ⟨Nat.le_of_ble_eq_true rfl, Nat.le_of_ble_eq_true rfl⟩) hS (fun q _ h => hFc q h) hFc (fun u tC H1 locs htC hvm hw_2 hB hz1 hk1 hS => ?_)
  obtain ⟨mdc9_3, aEl9_4, cEl9_5, sz_9_6, fEl9_7⟩ := u
  try dsimp only at hw_2 hB
  obtain ⟨hP1, hK1, hD1⟩ := hB
  rw [htC] at hP1
  have hK1 := va_K.moved hvm.symm hK1
  obtain ⟨hP, hD⟩ := va_join (wr := []) (w1 := [(zo1iri bo mdc9_3 aEl9_4 (nI sz_9_6)), (zaR aEl9_4 cEl9_5 10 fEl9_7)]) hP hD [0] [] rfl rfl (by decide) (by decide) hk1 hFc hP1 hD1
  have hK := (hK.sub (tys' := []) [] rfl).app hK1
  generalize H1 = H at hP hS ⊢
  have hP : va_P (dC, dI) vwCl [(zo1iri bo mdc9_3 aEl9_4 (nI sz_9_6)), (zaR aEl9_4 cEl9_5 10 fEl9_7)] H := hP
  have hD : va_D A [(zo1iri bo mdc9_3 aEl9_4 (nI sz_9_6)), (zaR aEl9_4 cEl9_5 10 fEl9_7)] := hD
  have hK : va_K (dC, dI) vwCl [(cEl9_5, .object "java/lang/Object")] s := hK
  refine W.widen (k := 1) (n := 10) (by omega) (by omega) ?_
  obtain ⟨e_8, hL_9⟩ := hw_2
  obtain rfl := (e_8).symm
  refine lv_aload_n hx hb dX10_doLooks_6 rfl (lv_at hl 0 rfl) ?_
  refine lv_iload_n hx hb dX10_doLooks_7 rfl (lv_at hl 1 rfl) ?_
  refine lv_iconst (v := 1) hx hb dX10_doLooks_8 (by decide) ?_
  refine lv_isub hx hb dX10_doLooks_9 ?_
  refine lv_aload_n hx hb dX10_doLooks_10 rfl (lv_at hl 2 rfl) ?_
  have hPc := hP.sub (ws' := [(zo1iri bo mdc9_3 aEl9_4 (nI 1)), (zaR aEl9_4 cEl9_5 10 fEl9_7)]) [0, 1] rfl
  have hDc := hD.sub (ws' := [(zo1iri bo mdc9_3 aEl9_4 (nI 1)), (zaR aEl9_4 cEl9_5 10 fEl9_7)]) [0, 1] (by decide) rfl
  have hKc := hK.sub (tys' := [(cEl9_5, .object "java/lang/Object")]) [0] rfl
  have hFc := va_free (wc := [(zo1iri bo mdc9_3 aEl9_4 (nI 1)), (zaR aEl9_4 cEl9_5 10 fEl9_7)]) hD hS hA [0, 1] rfl
  refine va_calli (va_runS2 (hZ.2.1.1 12 (RX10, TX10, 4) rfl).2 (As := [.int (x - 1), .ref bo]) (rest := []) ⟨hx, hb, hml, hown, hts⟩ (c_X3_doLooks_X10_1 l dC dI ad cB bS    bo aEl9_4 i0 sk sv scl (x - 1) cEl9_5 fEl9_7 a0 1 mdc9_3 ([41]) H.size (by omega) (hL_9)) (s2_cw (x := x10l) 2 hW_ in10l rfl rfl rfl rfl rfl (by decide +kernel) ⟨Nat.le_of_ble_eq_true rfl, Nat.le_of_ble_eq_true rfl⟩) ⟨fun a U g mk q => by obtain ⟨q0, q1, qP, qK, qD, qhI_, qhB_, qhW_, qhZ⟩ := q; exact ⟨q0, q1, qP, va_K.moved (u := U) (U := U.calling g mk a) (Vm.Alike.refl U.vm) qK, qD, qhI_.same rfl rfl, qhB_.same rfl rfl, qhW_.same rfl rfl, qhZ.same rfl rfl⟩, va_recv hZ.2.1 (hZ.P hS) (ci := 12) (q := (RX10, TX10, 4)) (q0 := 0) rfl rfl, fun U hU hW => ⟨rfl, by rw [hU], by rw [hU]; exact hPc, va_K.moved hW.alike hKc, hDc.weaken (fun _ _ _ _ => trivial), hI_.call hS hU hW (fun q h => hFc q h), hB_.call hS hU hW (fun q h => hFc q h), hW_.call hS hU hW (fun q h => hFc q h), (hZ.sub [0] [] rfl rfl).call hS hU hW (fun q h => hFc q h)⟩⟩ rfl rfl hl.1 rfl (lv_room (Nat.le_of_ble_eq_true rfl)) dX10_doLooks_11 ⟨Nat.le_of_ble_eq_true rfl, Nat.le_of_ble_eq_true rfl⟩) hS (fun q _ h => hFc q h) hFc (fun r_10 u tC H1 locs htC hvm hw_11 hB hz1 hk1 hS => ?_)
  obtain ⟨mdc9_12, sz_9_13, fEl9_14⟩ := u
  try dsimp only at hw_11 hB
  obtain ⟨hP1, hK1, hD1⟩ := hB
  rw [htC] at hP1
  have hK1 := va_K.moved hvm.symm hK1
  obtain ⟨hP, hD⟩ := va_join (wr := []) (w1 := [(zo1iri bo mdc9_12 aEl9_4 (nI sz_9_13)), (zaR aEl9_4 cEl9_5 10 fEl9_14)]) hP hD [0, 1] [] rfl rfl (by decide) (by decide) hk1 hFc hP1 hD1
  have hK := (hK.sub (tys' := []) [] rfl).app hK1
  generalize H1 = H at hP hS ⊢
  have hP : va_P (dC, dI) vwCl [(zo1iri bo mdc9_12 aEl9_4 (nI sz_9_13)), (zaR aEl9_4 cEl9_5 10 fEl9_14)] H := hP
  have hD : va_D A [(zo1iri bo mdc9_12 aEl9_4 (nI sz_9_13)), (zaR aEl9_4 cEl9_5 10 fEl9_14)] := hD
  have hK : va_K (dC, dI) vwCl [(cEl9_5, .object "java/lang/Object")] s := hK
  obtain ⟨er_15, e_16, hL_17⟩ := hw_11
  obtain rfl := (e_16).symm
  subst er_15
  refine lv_istore_n (lv' := [(3, .int ((((x - 1) * 3 + nI i0) - sv) * 2)), (0, .ref a0), (1, .int x), (2, .ref bo)]) hx hb dX10_doLooks_14 rfl hl (by decide) rfl (fun ls hl => ?_)
  refine lv_iload_n hx hb dX10_doLooks_15 rfl (lv_at hl 0 rfl) ?_
  refine lv_aload_n hx hb dX10_doLooks_16 rfl (lv_at hl 1 rfl) ?_
  refine lv_iconst (v := 2) hx hb dX10_doLooks_17 (by decide) ?_
  refine lv_aload_n hx hb dX10_doLooks_18 rfl (lv_at hl 3 rfl) ?_
  have hPc := hP.sub (ws' := [(zo1iri bo mdc9_12 aEl9_4 (nI (1 + 4))), (zaR aEl9_4 cEl9_5 10 fEl9_14)]) [0, 1] rfl
  have hDc := hD.sub (ws' := [(zo1iri bo mdc9_12 aEl9_4 (nI (1 + 4))), (zaR aEl9_4 cEl9_5 10 fEl9_14)]) [0, 1] (by decide) rfl
  have hKc := hK.sub (tys' := [(cEl9_5, .object "java/lang/Object")]) [0] rfl
  have hFc := va_free (wc := [(zo1iri bo mdc9_12 aEl9_4 (nI (1 + 4))), (zaR aEl9_4 cEl9_5 10 fEl9_14)]) hD hS hA [0, 1] rfl
  refine va_calli (va_runU (As := [.int 2, .ref bo]) (rest := [.int ((((x - 1) * 3 + nI i0) - sv) * 2)]) ⟨hx, hb, hml, hown, hts⟩ (c_X4_doSees_X10_1 l dC dI ad cB bS    bo aEl9_4 i0 sk sv scl 2 cEl9_5 fEl9_14 a0 (1 + 4) mdc9_12 ([41] ++ [3, 2, 11, 1]) H.size (by omega) (hL_17)) (va_cwU 2 hts gX10_doLooks_X4_doSees_u44X10 rfl rfl rfl rfl (by decide +kernel) ⟨Nat.le_of_ble_eq_true rfl, Nat.le_of_ble_eq_true rfl⟩) ⟨fun a U g mk q => by obtain ⟨q0, q1, qP, qK, qD, qhI_, qhB_, qhW_, qhZ⟩ := q; exact ⟨q0, q1, qP, va_K.moved (u := U) (U := U.calling g mk a) (Vm.Alike.refl U.vm) qK, qD, qhI_.same rfl rfl, qhB_.same rfl rfl, qhW_.same rfl rfl, qhZ.same rfl rfl⟩, va_recv hZ.2.1 (hZ.P hS) (ci := 12) (q := (RX10, TX10, 4)) (q0 := 0) rfl rfl, fun U hU hW => ⟨rfl, by rw [hU], by rw [hU]; exact hPc, va_K.moved hW.alike hKc, hDc.weaken (fun _ _ _ _ => trivial), hI_.call hS hU hW (fun q h => hFc q h), hB_.call hS hU hW (fun q h => hFc q h), hW_.call hS hU hW (fun q h => hFc q h), (hZ.sub [0] [] rfl rfl).call hS hU hW (fun q h => hFc q h)⟩⟩ rfl rfl hl.1 rfl (lv_room (Nat.le_of_ble_eq_true rfl)) dX10_doLooks_19 ⟨Nat.le_of_ble_eq_true rfl, Nat.le_of_ble_eq_true rfl⟩) hS (fun q _ h => hFc q h) hFc (fun r_18 u tC H1 locs htC hvm hw_19 hB hz1 hk1 hS => ?_)
  obtain ⟨mdc9_20, sz_9_21, fEl9_22⟩ := u
  try dsimp only at hw_19 hB
  obtain ⟨hP1, hK1, hD1⟩ := hB
  rw [htC] at hP1
  have hK1 := va_K.moved hvm.symm hK1
  obtain ⟨hP, hD⟩ := va_join (wr := []) (w1 := [(zo1iri bo mdc9_20 aEl9_4 (nI sz_9_21)), (zaR aEl9_4 cEl9_5 10 fEl9_22)]) hP hD [0, 1] [] rfl rfl (by decide) (by decide) hk1 hFc hP1 hD1
  have hK := (hK.sub (tys' := []) [] rfl).app hK1
  generalize H1 = H at hP hS ⊢
  have hP : va_P (dC, dI) vwCl [(zo1iri bo mdc9_20 aEl9_4 (nI sz_9_21)), (zaR aEl9_4 cEl9_5 10 fEl9_22)] H := hP
  have hD : va_D A [(zo1iri bo mdc9_20 aEl9_4 (nI sz_9_21)), (zaR aEl9_4 cEl9_5 10 fEl9_22)] := hD
  have hK : va_K (dC, dI) vwCl [(cEl9_5, .object "java/lang/Object")] s := hK
  obtain ⟨er_23, e_24, hL_25⟩ := hw_19
  obtain rfl := (e_24).symm
  subst er_23
  refine lv_iadd hx hb dX10_doLooks_22 ?_
  rw [hQ]
  have hP9 := hP.sub (ws' := [(zo1iri bo mdc9_20 aEl9_4 (nI ((1 + 4) + 2))), (zaR aEl9_4 cEl9_5 10 fEl9_22)]) [0, 1] rfl
  have hD9 := hD.sub (ws' := [(zo1iri bo mdc9_20 aEl9_4 (nI ((1 + 4) + 2))), (zaR aEl9_4 cEl9_5 10 fEl9_22)]) [0, 1] (by decide) rfl
  have hK9 := hK.sub (tys' := [(cEl9_5, .object "java/lang/Object")]) [0] rfl
  refine W.widen (k := 1) (n := 10) (by omega) (by omega) ?_
  exact W.iret (v := ((((x - 1) * 3 + nI i0) - sv) * 2) + (2 * 3 + nI i0)) hx hb hr (fun tQ htQ hWQ => ⟨⟨(((((x - 1) * 3 + nI i0) - sv) * 2) + (2 * 3 + nI i0)), (mdc9_20, aEl9_4, cEl9_5, ((1 + 4) + 2), fEl9_22), rfl, ⟨rfl, by omega, hL_25⟩, by rw [htQ]; exact hP9, va_K.moved hWQ.alike hK9, hD9⟩, hS.F htQ⟩) hS.2.2 dX10_doLooks_23

theorem kc_X3_doSees_X9_1_0 : (.fieldLink RX3 15 "MistHeaps$Heap" "number" "I" : Cond) ∈ wsX3_doSees := kc_of 231 rfl rfl rfl
theorem kc_X3_doSees_X9_1_1 : ∀ w ∈ wsX90, w ∈ wsX3_doSees := fun w h => List.mem_cons_of_mem _ (gin_wsX90 w h)
set_option maxHeartbeats 4000000 in
set_option maxRecDepth 100000 in
theorem c_X3_doSees_X9_1 (l : Launch) (dC : Nat → ClassId) (dI : Nat → Nat → Nat) (ad : Nat → Nat) (cB bS : Nat)    (bo : Nat) (aEl : Nat) (i0 : Nat) (sk : Int32) (sv : Int32) (scl : Int32) (x : Int32) (cEl : ClassId) (fEl : Nat → Option Nat) (a0 : Nat) (sz_ : Nat) (mdc : Int32) (tl : List Nat) (sz : Nat) (hsz : sz_ + 1 ≤ 10) (zL : okL ad fEl sz_ tl) : Met l yX3_doSees wsX3_doSees ({ frames := 3, cells := 0, slots := 0, locals := 65 } : Room) (va_Pc [.ref a0, .int x, .ref bo] (fun U => U.heap.size = sz ∧ va_P (dC, dI) vwCl [(zo1iri bo mdc aEl (nI sz_)), (zaR aEl cEl 10 fEl)] U.heap ∧ va_K (dC, dI) vwCl [(cEl, .object "java/lang/Object")] U ∧ va_D (fun _ => True) [(zo1iri bo mdc aEl (nI sz_)), (zaR aEl cEl 10 fEl)] ∧ Gi ad cB bS (va_A [(zo1iri bo mdc aEl (nI sz_)), (zaR aEl cEl 10 fEl)] sz) U ∧ Gb (va_A [(zo1iri bo mdc aEl (nI sz_)), (zaR aEl cEl 10 fEl)] sz) U ∧ Gw (va_A [(zo1iri bo mdc aEl (nI sz_)), (zaR aEl cEl 10 fEl)] sz) U ∧ Fz dC dI [(zo11iiii a0 sk (nI i0) sv scl)] [] (va_A [(zo1iri bo mdc aEl (nI sz_)), (zaR aEl cEl 10 fEl)] sz) U)) (va_Qi (fun (r : Int32) (u : (Int32) × (Nat) × (Nat → Option Nat)) => match u with | (mdc9, sz_9, fEl9) => r = x + nI i0 ∧ sz_9 = sz_ + 1 ∧ okL ad fEl9 sz_9 (tl ++ [1])) (fun (u : (Int32) × (Nat) × (Nat → Option Nat)) (t : State) => match u with | (mdc9, sz_9, fEl9) => va_P (dC, dI) vwCl [(zo1iri bo mdc9 aEl (nI sz_9)), (zaR aEl cEl 10 fEl9)] t.heap ∧ va_K (dC, dI) vwCl [(cEl, .object "java/lang/Object")] t ∧ va_D (va_A [(zo1iri bo mdc aEl (nI sz_)), (zaR aEl cEl 10 fEl)] sz) [(zo1iri bo mdc9 aEl (nI sz_9)), (zaR aEl cEl 10 fEl9)]) (va_A [(zo1iri bo mdc aEl (nI sz_)), (zaR aEl cEl 10 fEl)] sz)) 0 0 (va_A [(zo1iri bo mdc aEl (nI sz_)), (zaR aEl cEl 10 fEl)] sz) := by
  refine met_ofQ (cc := cX3_doSees) (maxL := 3) (ret := (some .int)) (by decide) rfl ?_
  intro p e s m args below meth c s₁ Q B hml hv hQ
  obtain ⟨rfl, hsz, hP, hK, hD0, hI_, hB_, hW_, hZ⟩ := hv
  have hx := B.exec
  have hb := B.bytes
  have hr := B.returns
  have hts := atoms_spec (ws := wsX3_doSees) B.pre
  have hown : s.vm.findClass RX3 = some m.cls := findClass_of_methodNamed B.named
  have hlocks := B.notSynchronized
  subst hsz
  have hD := hD0.self (sz := s.heap.size)
  generalize hAe : va_A [(zo1iri bo mdc aEl (nI sz_)), (zaR aEl cEl 10 fEl)] s.heap.size = A at hD hQ hI_ hB_ hW_ hZ ⊢
  have hA : ∀ q : Nat, s.heap.size ≤ q → A q := fun q h => by rw [← hAe]; exact Or.inr h
  have hS : va_S A s.heap s.heap [] := va_S.rf
  have hl := lv_entry [.ref a0, .int x, .ref bo] (n := 3) (Nat.le_of_ble_eq_true rfl)
  rw [lg_entry_eq]
  generalize (lg_sl [.ref a0, .int x, .ref bo] ++ List.replicate (3 - (lg_sl [.ref a0, .int x, .ref bo]).length) Slot.unset).toArray = ls at hl ⊢
  generalize hag : ([.ref a0, .int x, .ref bo] : List Value).toArray = args at hts hQ ⊢
  have hl : lv_has ls 3 [(0, .ref a0), (1, .int x), (2, .ref bo)] := hl
  obtain ⟨H, hH⟩ : ∃ H : Heap, H = s.heap := ⟨_, rfl⟩
  rw [← hH] at hP
  rw [← hH]
  have hS : va_S A s.heap H [] := by rw [hH]; exact hS
  obtain ⟨locs, hlo⟩ : ∃ L : List Loc, L = [] := ⟨_, rfl⟩
  rw [← hlo] at hS
  rw [← hlo]
  clear hH hlo
  refine lv_iconst (v := 1) hx hb dX3_doSees_0 (by decide) ?_
  refine lv_aload_n hx hb dX3_doSees_1 rfl (lv_at hl 2 rfl) ?_
  have hPc := hP.sub (ws' := [(zo1iri bo mdc aEl (nI sz_)), (zaR aEl cEl 10 fEl)]) [0, 1] rfl
  have hDc := hD.sub (ws' := [(zo1iri bo mdc aEl (nI sz_)), (zaR aEl cEl 10 fEl)]) [0, 1] (by decide) rfl
  have hKc := hK.sub (tys' := [(cEl, .object "java/lang/Object")]) [0] rfl
  have hFc := va_free (wc := [(zo1iri bo mdc aEl (nI sz_)), (zaR aEl cEl 10 fEl)]) hD hS hA [0, 1] rfl
  refine va_callv (va_runS (As := [.int 1, .ref bo]) (rest := []) ⟨hx, hb, hml, hown, hts⟩ (c_begin1 l dC dI ad cB bS bo aEl 1 cEl fEl sz_ mdc tl H.size (by omega) (by omega) (zL)) (va_cwS 2 hts gX3_doSees_X3_begin rfl rfl rfl hd_yX3_begin.2 ⟨Nat.le_of_ble_eq_true rfl, Nat.le_of_ble_eq_true rfl⟩) ⟨fun a U g mk q => by obtain ⟨q0, q1, qP, qK, qD, qhI_⟩ := q; exact ⟨q0, q1, qP, va_K.moved (u := U) (U := U.calling g mk a) (Vm.Alike.refl U.vm) qK, qD, qhI_.same rfl rfl⟩, fun U hU hW => ⟨rfl, by rw [hU], by rw [hU]; exact hPc, va_K.moved hW.alike hKc, hDc.weaken (fun _ _ _ _ => trivial), hI_.call hS hU hW (fun q h => hFc q h)⟩⟩ rfl rfl hl.1 rfl (lv_room (Nat.le_of_ble_eq_true rfl)) dX3_doSees_2 ⟨Nat.le_of_ble_eq_true rfl, Nat.le_of_ble_eq_true rfl⟩) hS (fun q _ h => hFc q h) hFc (fun u tC H1 locs htC hvm hw_2 hB hz1 hk1 hS => ?_)
  obtain ⟨mdc9_3, sz_9_4, fEl9_5⟩ := u
  try dsimp only at hw_2 hB
  obtain ⟨hP1, hK1, hD1⟩ := hB
  rw [htC] at hP1
  have hK1 := va_K.moved hvm.symm hK1
  obtain ⟨hP, hD⟩ := va_join (wr := []) (w1 := [(zo1iri bo mdc9_3 aEl (nI sz_9_4)), (zaR aEl cEl 10 fEl9_5)]) hP hD [0, 1] [] rfl rfl (by decide) (by decide) hk1 hFc hP1 hD1
  have hK := (hK.sub (tys' := []) [] rfl).app hK1
  generalize H1 = H at hP hS ⊢
  have hP : va_P (dC, dI) vwCl [(zo1iri bo mdc9_3 aEl (nI sz_9_4)), (zaR aEl cEl 10 fEl9_5)] H := hP
  have hD : va_D A [(zo1iri bo mdc9_3 aEl (nI sz_9_4)), (zaR aEl cEl 10 fEl9_5)] := hD
  have hK : va_K (dC, dI) vwCl [(cEl, .object "java/lang/Object")] s := hK
  obtain ⟨e_6, hL_7⟩ := hw_2
  obtain rfl := (e_6).symm
  refine lv_iload_n hx hb dX3_doSees_5 rfl (lv_at hl 1 rfl) ?_
  refine lv_aload_n hx hb dX3_doSees_6 rfl (lv_at hl 0 rfl) ?_
  refine va_get (D := (dC, dI)) (ci := 11) (v := .int (nI i0)) (C := RX9) (T := TX9) (N := 4) hx hb hts kc_X3_doSees_X9_1_1 hown hZ.2.1 (hZ.P hS) 0 rfl rfl 1 (by decide) (hts (.fieldLink RX3 15 "MistHeaps$Heap" "number" "I") kc_X3_doSees_X9_1_0) (fun _ h9 => h9) rfl dX3_doSees_7 ?_
  refine lv_iadd hx hb dX3_doSees_10 ?_
  rw [hQ]
  have hP9 := hP.sub (ws' := [(zo1iri bo mdc9_3 aEl (nI (sz_ + 1))), (zaR aEl cEl 10 fEl9_5)]) [0, 1] rfl
  have hD9 := hD.sub (ws' := [(zo1iri bo mdc9_3 aEl (nI (sz_ + 1))), (zaR aEl cEl 10 fEl9_5)]) [0, 1] (by decide) rfl
  have hK9 := hK.sub (tys' := [(cEl, .object "java/lang/Object")]) [0] rfl
  exact W.iret (v := x + (nI i0)) hx hb hr (fun tQ htQ hWQ => ⟨⟨(x + (nI i0)), (mdc9_3, (sz_ + 1), fEl9_5), rfl, ⟨rfl, by omega, by have h9 := hL_7; exact h9⟩, by rw [htQ]; exact hP9, va_K.moved hWQ.alike hK9, hD9⟩, hS.F htQ⟩) hS.2.2 dX3_doSees_11

theorem kc_X3_doSees_X9_0_0 : (.fieldLink RX3 15 "MistHeaps$Heap" "number" "I" : Cond) ∈ wsX3_doSees := kc_of 231 rfl rfl rfl
theorem kc_X3_doSees_X9_0_1 : ∀ w ∈ wsX90, w ∈ wsX3_doSees := fun w h => List.mem_cons_of_mem _ (gin_wsX90 w h)
set_option maxHeartbeats 4000000 in
set_option maxRecDepth 100000 in
theorem c_X3_doSees_X9_0 (l : Launch) (dC : Nat → ClassId) (dI : Nat → Nat → Nat) (ad : Nat → Nat) (cB bS : Nat)    (bo : Nat) (i0 : Nat) (sk : Int32) (sv : Int32) (scl : Int32) (x : Int32) (a0 : Nat) (mdc : Int32) (sz : Nat) : Met l yX3_doSees wsX3_doSees ({ frames := 6, cells := 1, slots := 10, locals := 122 } : Room) (va_Pc [.ref a0, .int x, .ref bo] (fun U => U.heap.size = sz ∧ va_P (dC, dI) vwCl [(zo1iri bo mdc bS 0)] U.heap ∧ va_K (dC, dI) vwCl [] U ∧ va_D (fun _ => True) [(zo1iri bo mdc bS 0)] ∧ Gi ad cB bS (va_A [(zo1iri bo mdc bS 0)] sz) U ∧ Gb (va_A [(zo1iri bo mdc bS 0)] sz) U ∧ Gw (va_A [(zo1iri bo mdc bS 0)] sz) U ∧ Fz dC dI [(zo11iiii a0 sk (nI i0) sv scl)] [] (va_A [(zo1iri bo mdc bS 0)] sz) U)) (va_Qi (fun (r : Int32) (u : (Int32) × (Nat) × (ClassId) × (Nat) × (Nat → Option Nat)) => match u with | (mdc9, aEl9, cEl9, sz_9, fEl9) => r = x + nI i0 ∧ sz_9 = 1 ∧ okL ad fEl9 sz_9 [1]) (fun (u : (Int32) × (Nat) × (ClassId) × (Nat) × (Nat → Option Nat)) (t : State) => match u with | (mdc9, aEl9, cEl9, sz_9, fEl9) => va_P (dC, dI) vwCl [(zo1iri bo mdc9 aEl9 (nI sz_9)), (zaR aEl9 cEl9 10 fEl9)] t.heap ∧ va_K (dC, dI) vwCl [(cEl9, .object "java/lang/Object")] t ∧ va_D (va_A [(zo1iri bo mdc bS 0)] sz) [(zo1iri bo mdc9 aEl9 (nI sz_9)), (zaR aEl9 cEl9 10 fEl9)]) (va_A [(zo1iri bo mdc bS 0)] sz)) 1 10 (va_A [(zo1iri bo mdc bS 0)] sz) := by
  refine met_ofQ (cc := cX3_doSees) (maxL := 3) (ret := (some .int)) (by decide) rfl ?_
  intro p e s m args below meth c s₁ Q B hml hv hQ
  obtain ⟨rfl, hsz, hP, hK, hD0, hI_, hB_, hW_, hZ⟩ := hv
  have hx := B.exec
  have hb := B.bytes
  have hr := B.returns
  have hts := atoms_spec (ws := wsX3_doSees) B.pre
  have hown : s.vm.findClass RX3 = some m.cls := findClass_of_methodNamed B.named
  have hlocks := B.notSynchronized
  subst hsz
  have hD := hD0.self (sz := s.heap.size)
  generalize hAe : va_A [(zo1iri bo mdc bS 0)] s.heap.size = A at hD hQ hI_ hB_ hW_ hZ ⊢
  have hA : ∀ q : Nat, s.heap.size ≤ q → A q := fun q h => by rw [← hAe]; exact Or.inr h
  have hS : va_S A s.heap s.heap [] := va_S.rf
  have hl := lv_entry [.ref a0, .int x, .ref bo] (n := 3) (Nat.le_of_ble_eq_true rfl)
  rw [lg_entry_eq]
  generalize (lg_sl [.ref a0, .int x, .ref bo] ++ List.replicate (3 - (lg_sl [.ref a0, .int x, .ref bo]).length) Slot.unset).toArray = ls at hl ⊢
  generalize hag : ([.ref a0, .int x, .ref bo] : List Value).toArray = args at hts hQ ⊢
  have hl : lv_has ls 3 [(0, .ref a0), (1, .int x), (2, .ref bo)] := hl
  obtain ⟨H, hH⟩ : ∃ H : Heap, H = s.heap := ⟨_, rfl⟩
  rw [← hH] at hP
  rw [← hH]
  have hS : va_S A s.heap H [] := by rw [hH]; exact hS
  obtain ⟨locs, hlo⟩ : ∃ L : List Loc, L = [] := ⟨_, rfl⟩
  rw [← hlo] at hS
  rw [← hlo]
  clear hH hlo
  refine lv_iconst (v := 1) hx hb dX3_doSees_0 (by decide) ?_
  refine lv_aload_n hx hb dX3_doSees_1 rfl (lv_at hl 2 rfl) ?_
  have hPc := hP.sub (ws' := [(zo1iri bo mdc bS 0)]) [0] rfl
  have hDc := hD.sub (ws' := [(zo1iri bo mdc bS 0)]) [0] (by decide) rfl
  have hKc := hK.sub (tys' := []) [] rfl
  have hFc := va_free (wc := [(zo1iri bo mdc bS 0)]) hD hS hA [0] rfl
  refine va_callv (va_runS (As := [.int 1, .ref bo]) (rest := []) ⟨hx, hb, hml, hown, hts⟩ (c_begin0 l dC dI ad cB bS bo mdc 1 H.size (by omega)) (va_cwS 2 hts gX3_doSees_X3_begin rfl rfl rfl hd_yX3_begin.2 ⟨Nat.le_of_ble_eq_true rfl, Nat.le_of_ble_eq_true rfl⟩) ⟨fun a U g mk q => by obtain ⟨q0, q1, qP, qK, qD, qhI_⟩ := q; exact ⟨q0, q1, qP, va_K.moved (u := U) (U := U.calling g mk a) (Vm.Alike.refl U.vm) qK, qD, qhI_.same rfl rfl⟩, fun U hU hW => ⟨rfl, by rw [hU], by rw [hU]; exact hPc, va_K.moved hW.alike hKc, hDc.weaken (fun _ _ _ _ => trivial), hI_.call hS hU hW (fun q h => hFc q h)⟩⟩ rfl rfl hl.1 rfl (lv_room (Nat.le_of_ble_eq_true rfl)) dX3_doSees_2 ⟨Nat.le_of_ble_eq_true rfl, Nat.le_of_ble_eq_true rfl⟩) hS (fun q _ h => hFc q h) hFc (fun u tC H1 locs htC hvm hw_2 hB hz1 hk1 hS => ?_)
  obtain ⟨mdc9_3, aEl9_4, cEl9_5, sz_9_6, fEl9_7⟩ := u
  try dsimp only at hw_2 hB
  obtain ⟨hP1, hK1, hD1⟩ := hB
  rw [htC] at hP1
  have hK1 := va_K.moved hvm.symm hK1
  obtain ⟨hP, hD⟩ := va_join (wr := []) (w1 := [(zo1iri bo mdc9_3 aEl9_4 (nI sz_9_6)), (zaR aEl9_4 cEl9_5 10 fEl9_7)]) hP hD [0] [] rfl rfl (by decide) (by decide) hk1 hFc hP1 hD1
  have hK := (hK.sub (tys' := []) [] rfl).app hK1
  generalize H1 = H at hP hS ⊢
  have hP : va_P (dC, dI) vwCl [(zo1iri bo mdc9_3 aEl9_4 (nI sz_9_6)), (zaR aEl9_4 cEl9_5 10 fEl9_7)] H := hP
  have hD : va_D A [(zo1iri bo mdc9_3 aEl9_4 (nI sz_9_6)), (zaR aEl9_4 cEl9_5 10 fEl9_7)] := hD
  have hK : va_K (dC, dI) vwCl [(cEl9_5, .object "java/lang/Object")] s := hK
  refine W.widen (k := 1) (n := 10) (by omega) (by omega) ?_
  obtain ⟨e_8, hL_9⟩ := hw_2
  obtain rfl := (e_8).symm
  refine lv_iload_n hx hb dX3_doSees_5 rfl (lv_at hl 1 rfl) ?_
  refine lv_aload_n hx hb dX3_doSees_6 rfl (lv_at hl 0 rfl) ?_
  refine va_get (D := (dC, dI)) (ci := 11) (v := .int (nI i0)) (C := RX9) (T := TX9) (N := 4) hx hb hts kc_X3_doSees_X9_0_1 hown hZ.2.1 (hZ.P hS) 0 rfl rfl 1 (by decide) (hts (.fieldLink RX3 15 "MistHeaps$Heap" "number" "I") kc_X3_doSees_X9_0_0) (fun _ h9 => h9) rfl dX3_doSees_7 ?_
  refine lv_iadd hx hb dX3_doSees_10 ?_
  rw [hQ]
  have hP9 := hP.sub (ws' := [(zo1iri bo mdc9_3 aEl9_4 (nI 1)), (zaR aEl9_4 cEl9_5 10 fEl9_7)]) [0, 1] rfl
  have hD9 := hD.sub (ws' := [(zo1iri bo mdc9_3 aEl9_4 (nI 1)), (zaR aEl9_4 cEl9_5 10 fEl9_7)]) [0, 1] (by decide) rfl
  have hK9 := hK.sub (tys' := [(cEl9_5, .object "java/lang/Object")]) [0] rfl
  refine W.widen (k := 1) (n := 10) (by omega) (by omega) ?_
  exact W.iret (v := x + (nI i0)) hx hb hr (fun tQ htQ hWQ => ⟨⟨(x + (nI i0)), (mdc9_3, aEl9_4, cEl9_5, 1, fEl9_7), rfl, ⟨rfl, by omega, hL_9⟩, by rw [htQ]; exact hP9, va_K.moved hWQ.alike hK9, hD9⟩, hS.F htQ⟩) hS.2.2 dX3_doSees_11

theorem kc_X9_doSees_X9_1_0 : (.fieldLink RX9 25 "MistHeaps$Snowed" "number" "I" : Cond) ∈ wsX9_doSees := kc_of 232 rfl rfl rfl
theorem kc_X9_doSees_X9_1_1 : ∀ w ∈ wsX90, w ∈ wsX9_doSees := fun w h => List.mem_cons_of_mem _ (gin_wsX90 w h)
theorem kc_X9_doSees_X9_1_2 : (.sameField "MistHeaps$Snowed" "MistHeaps$Heap" "number" "I" : Cond) ∈ wsX9_doSees := kc_of 233 rfl rfl rfl
set_option maxHeartbeats 4000000 in
set_option maxRecDepth 100000 in
theorem c_X9_doSees_X9_1 (l : Launch) (dC : Nat → ClassId) (dI : Nat → Nat → Nat) (ad : Nat → Nat) (cB bS : Nat)    (bo : Nat) (aEl : Nat) (i0 : Nat) (sk : Int32) (sv : Int32) (scl : Int32) (x : Int32) (cEl : ClassId) (fEl : Nat → Option Nat) (a0 : Nat) (sz_ : Nat) (mdc : Int32) (tl : List Nat) (sz : Nat) (hsz : sz_ + 2 ≤ 10) (zL : okL ad fEl sz_ tl) : Met l yX9_doSees wsX9_doSees ({ frames := 4, cells := 0, slots := 0, locals := 87 } : Room) (va_Pc [.ref a0, .int x, .ref bo] (fun U => U.heap.size = sz ∧ va_P (dC, dI) vwCl [(zo1iri bo mdc aEl (nI sz_)), (zaR aEl cEl 10 fEl)] U.heap ∧ va_K (dC, dI) vwCl [(cEl, .object "java/lang/Object")] U ∧ va_D (fun _ => True) [(zo1iri bo mdc aEl (nI sz_)), (zaR aEl cEl 10 fEl)] ∧ Gi ad cB bS (va_A [(zo1iri bo mdc aEl (nI sz_)), (zaR aEl cEl 10 fEl)] sz) U ∧ Gb (va_A [(zo1iri bo mdc aEl (nI sz_)), (zaR aEl cEl 10 fEl)] sz) U ∧ Gw (va_A [(zo1iri bo mdc aEl (nI sz_)), (zaR aEl cEl 10 fEl)] sz) U ∧ Fz dC dI [(zo11iiii a0 sk (nI i0) sv scl)] [] (va_A [(zo1iri bo mdc aEl (nI sz_)), (zaR aEl cEl 10 fEl)] sz) U)) (va_Qi (fun (r : Int32) (u : (Int32) × (Nat) × (Nat → Option Nat)) => match u with | (mdc9, sz_9, fEl9) => r = (x + nI i0) ^^^ nI i0 ∧ sz_9 = sz_ + 2 ∧ okL ad fEl9 sz_9 (tl ++ [51, 1])) (fun (u : (Int32) × (Nat) × (Nat → Option Nat)) (t : State) => match u with | (mdc9, sz_9, fEl9) => va_P (dC, dI) vwCl [(zo1iri bo mdc9 aEl (nI sz_9)), (zaR aEl cEl 10 fEl9)] t.heap ∧ va_K (dC, dI) vwCl [(cEl, .object "java/lang/Object")] t ∧ va_D (va_A [(zo1iri bo mdc aEl (nI sz_)), (zaR aEl cEl 10 fEl)] sz) [(zo1iri bo mdc9 aEl (nI sz_9)), (zaR aEl cEl 10 fEl9)]) (va_A [(zo1iri bo mdc aEl (nI sz_)), (zaR aEl cEl 10 fEl)] sz)) 0 0 (va_A [(zo1iri bo mdc aEl (nI sz_)), (zaR aEl cEl 10 fEl)] sz) := by
  refine met_ofQ (cc := cX9_doSees) (maxL := 3) (ret := (some .int)) (by decide) rfl ?_
  intro p e s m args below meth c s₁ Q B hml hv hQ
  obtain ⟨rfl, hsz, hP, hK, hD0, hI_, hB_, hW_, hZ⟩ := hv
  have hx := B.exec
  have hb := B.bytes
  have hr := B.returns
  have hts := atoms_spec (ws := wsX9_doSees) B.pre
  have hown : s.vm.findClass RX9 = some m.cls := findClass_of_methodNamed B.named
  have hlocks := B.notSynchronized
  subst hsz
  have hD := hD0.self (sz := s.heap.size)
  generalize hAe : va_A [(zo1iri bo mdc aEl (nI sz_)), (zaR aEl cEl 10 fEl)] s.heap.size = A at hD hQ hI_ hB_ hW_ hZ ⊢
  have hA : ∀ q : Nat, s.heap.size ≤ q → A q := fun q h => by rw [← hAe]; exact Or.inr h
  have hS : va_S A s.heap s.heap [] := va_S.rf
  have hl := lv_entry [.ref a0, .int x, .ref bo] (n := 3) (Nat.le_of_ble_eq_true rfl)
  rw [lg_entry_eq]
  generalize (lg_sl [.ref a0, .int x, .ref bo] ++ List.replicate (3 - (lg_sl [.ref a0, .int x, .ref bo]).length) Slot.unset).toArray = ls at hl ⊢
  generalize hag : ([.ref a0, .int x, .ref bo] : List Value).toArray = args at hts hQ ⊢
  have hl : lv_has ls 3 [(0, .ref a0), (1, .int x), (2, .ref bo)] := hl
  obtain ⟨H, hH⟩ : ∃ H : Heap, H = s.heap := ⟨_, rfl⟩
  rw [← hH] at hP
  rw [← hH]
  have hS : va_S A s.heap H [] := by rw [hH]; exact hS
  obtain ⟨locs, hlo⟩ : ∃ L : List Loc, L = [] := ⟨_, rfl⟩
  rw [← hlo] at hS
  rw [← hlo]
  clear hH hlo
  refine lv_bipush (v := 51) hx hb dX9_doSees_0 (by decide) ?_
  refine lv_aload_n hx hb dX9_doSees_2 rfl (lv_at hl 2 rfl) ?_
  have hPc := hP.sub (ws' := [(zo1iri bo mdc aEl (nI sz_)), (zaR aEl cEl 10 fEl)]) [0, 1] rfl
  have hDc := hD.sub (ws' := [(zo1iri bo mdc aEl (nI sz_)), (zaR aEl cEl 10 fEl)]) [0, 1] (by decide) rfl
  have hKc := hK.sub (tys' := [(cEl, .object "java/lang/Object")]) [0] rfl
  have hFc := va_free (wc := [(zo1iri bo mdc aEl (nI sz_)), (zaR aEl cEl 10 fEl)]) hD hS hA [0, 1] rfl
  refine va_callv (va_runU2 (As := [.int 51, .ref bo]) (rest := []) ⟨hx, hb, hml, hown, hts⟩ (c_begin1 l dC dI ad cB bS bo aEl 51 cEl fEl sz_ mdc tl H.size (by omega) (by omega) (zL)) (u2_cw (x := xb9) 2 hB_ inb9 rfl rfl rfl rfl rfl (by decide +kernel) ⟨Nat.le_of_ble_eq_true rfl, Nat.le_of_ble_eq_true rfl⟩) ⟨fun a U g mk q => by obtain ⟨q0, q1, qP, qK, qD, qhI_⟩ := q; exact ⟨q0, q1, qP, va_K.moved (u := U) (U := U.calling g mk a) (Vm.Alike.refl U.vm) qK, qD, qhI_.same rfl rfl⟩, fun U hU hW => ⟨rfl, by rw [hU], by rw [hU]; exact hPc, va_K.moved hW.alike hKc, hDc.weaken (fun _ _ _ _ => trivial), hI_.call hS hU hW (fun q h => hFc q h)⟩⟩ rfl rfl hl.1 rfl (lv_room (Nat.le_of_ble_eq_true rfl)) dX9_doSees_3 ⟨Nat.le_of_ble_eq_true rfl, Nat.le_of_ble_eq_true rfl⟩) hS (fun q _ h => hFc q h) hFc (fun u tC H1 locs htC hvm hw_2 hB hz1 hk1 hS => ?_)
  obtain ⟨mdc9_3, sz_9_4, fEl9_5⟩ := u
  try dsimp only at hw_2 hB
  obtain ⟨hP1, hK1, hD1⟩ := hB
  rw [htC] at hP1
  have hK1 := va_K.moved hvm.symm hK1
  obtain ⟨hP, hD⟩ := va_join (wr := []) (w1 := [(zo1iri bo mdc9_3 aEl (nI sz_9_4)), (zaR aEl cEl 10 fEl9_5)]) hP hD [0, 1] [] rfl rfl (by decide) (by decide) hk1 hFc hP1 hD1
  have hK := (hK.sub (tys' := []) [] rfl).app hK1
  generalize H1 = H at hP hS ⊢
  have hP : va_P (dC, dI) vwCl [(zo1iri bo mdc9_3 aEl (nI sz_9_4)), (zaR aEl cEl 10 fEl9_5)] H := hP
  have hD : va_D A [(zo1iri bo mdc9_3 aEl (nI sz_9_4)), (zaR aEl cEl 10 fEl9_5)] := hD
  have hK : va_K (dC, dI) vwCl [(cEl, .object "java/lang/Object")] s := hK
  obtain ⟨e_6, hL_7⟩ := hw_2
  obtain rfl := (e_6).symm
  refine lv_aload_n hx hb dX9_doSees_6 rfl (lv_at hl 0 rfl) ?_
  refine lv_iload_n hx hb dX9_doSees_7 rfl (lv_at hl 1 rfl) ?_
  refine lv_aload_n hx hb dX9_doSees_8 rfl (lv_at hl 2 rfl) ?_
  have hPc := hP.sub (ws' := [(zo1iri bo mdc9_3 aEl (nI (sz_ + 1))), (zaR aEl cEl 10 fEl9_5)]) [0, 1] rfl
  have hDc := hD.sub (ws' := [(zo1iri bo mdc9_3 aEl (nI (sz_ + 1))), (zaR aEl cEl 10 fEl9_5)]) [0, 1] (by decide) rfl
  have hKc := hK.sub (tys' := [(cEl, .object "java/lang/Object")]) [0] rfl
  have hFc := va_free (wc := [(zo1iri bo mdc9_3 aEl (nI (sz_ + 1))), (zaR aEl cEl 10 fEl9_5)]) hD hS hA [0, 1] rfl
  refine va_calli (va_runS2 (hZ.2.1.1 11 (RX9, TX9, 4) rfl).2 (As := [.int x, .ref bo]) (rest := []) ⟨hx, hb, hml, hown, hts⟩ (c_X3_doSees_X9_1 l dC dI ad cB bS    bo aEl i0 sk sv scl x cEl fEl9_5 a0 (sz_ + 1) mdc9_3 (tl ++ [51]) H.size (by omega) (hL_7)) (s2_cw (x := x9s) 2 hW_ in9s rfl rfl rfl rfl rfl (by decide +kernel) ⟨Nat.le_of_ble_eq_true rfl, Nat.le_of_ble_eq_true rfl⟩) ⟨fun a U g mk q => by obtain ⟨q0, q1, qP, qK, qD, qhI_, qhB_, qhW_, qhZ⟩ := q; exact ⟨q0, q1, qP, va_K.moved (u := U) (U := U.calling g mk a) (Vm.Alike.refl U.vm) qK, qD, qhI_.same rfl rfl, qhB_.same rfl rfl, qhW_.same rfl rfl, qhZ.same rfl rfl⟩, va_recv hZ.2.1 (hZ.P hS) (ci := 11) (q := (RX9, TX9, 4)) (q0 := 0) rfl rfl, fun U hU hW => ⟨rfl, by rw [hU], by rw [hU]; exact hPc, va_K.moved hW.alike hKc, hDc.weaken (fun _ _ _ _ => trivial), hI_.call hS hU hW (fun q h => hFc q h), hB_.call hS hU hW (fun q h => hFc q h), hW_.call hS hU hW (fun q h => hFc q h), (hZ.sub [0] [] rfl rfl).call hS hU hW (fun q h => hFc q h)⟩⟩ rfl rfl hl.1 rfl (lv_room (Nat.le_of_ble_eq_true rfl)) dX9_doSees_9 ⟨Nat.le_of_ble_eq_true rfl, Nat.le_of_ble_eq_true rfl⟩) hS (fun q _ h => hFc q h) hFc (fun r_8 u tC H1 locs htC hvm hw_9 hB hz1 hk1 hS => ?_)
  obtain ⟨mdc9_10, sz_9_11, fEl9_12⟩ := u
  try dsimp only at hw_9 hB
  obtain ⟨hP1, hK1, hD1⟩ := hB
  rw [htC] at hP1
  have hK1 := va_K.moved hvm.symm hK1
  obtain ⟨hP, hD⟩ := va_join (wr := []) (w1 := [(zo1iri bo mdc9_10 aEl (nI sz_9_11)), (zaR aEl cEl 10 fEl9_12)]) hP hD [0, 1] [] rfl rfl (by decide) (by decide) hk1 hFc hP1 hD1
  have hK := (hK.sub (tys' := []) [] rfl).app hK1
  generalize H1 = H at hP hS ⊢
  have hP : va_P (dC, dI) vwCl [(zo1iri bo mdc9_10 aEl (nI sz_9_11)), (zaR aEl cEl 10 fEl9_12)] H := hP
  have hD : va_D A [(zo1iri bo mdc9_10 aEl (nI sz_9_11)), (zaR aEl cEl 10 fEl9_12)] := hD
  have hK : va_K (dC, dI) vwCl [(cEl, .object "java/lang/Object")] s := hK
  obtain ⟨er_13, e_14, hL_15⟩ := hw_9
  obtain rfl := (e_14).symm
  subst er_13
  refine lv_aload_n hx hb dX9_doSees_12 rfl (lv_at hl 0 rfl) ?_
  refine va_get (D := (dC, dI)) (ci := 11) (v := .int (nI i0)) (C := RX9) (T := TX9) (N := 4) hx hb hts kc_X9_doSees_X9_1_1 hown hZ.2.1 (hZ.P hS) 0 rfl rfl 1 (by decide) (hts (.fieldLink RX9 25 "MistHeaps$Snowed" "number" "I") kc_X9_doSees_X9_1_0) (fun x h => u_same (hts (.sameField "MistHeaps$Snowed" "MistHeaps$Heap" "number" "I") kc_X9_doSees_X9_1_2) x h) rfl dX9_doSees_13 ?_
  refine lv_ixor hx hb dX9_doSees_16 ?_
  rw [hQ]
  have hP9 := hP.sub (ws' := [(zo1iri bo mdc9_10 aEl (nI ((sz_ + 1) + 1))), (zaR aEl cEl 10 fEl9_12)]) [0, 1] rfl
  have hD9 := hD.sub (ws' := [(zo1iri bo mdc9_10 aEl (nI ((sz_ + 1) + 1))), (zaR aEl cEl 10 fEl9_12)]) [0, 1] (by decide) rfl
  have hK9 := hK.sub (tys' := [(cEl, .object "java/lang/Object")]) [0] rfl
  exact W.iret (v := (x + nI i0) ^^^ (nI i0)) hx hb hr (fun tQ htQ hWQ => ⟨⟨((x + nI i0) ^^^ (nI i0)), (mdc9_10, ((sz_ + 1) + 1), fEl9_12), rfl, ⟨rfl, by omega, by have h9 := okL_as (hL_15); exact h9⟩, by rw [htQ]; exact hP9, va_K.moved hWQ.alike hK9, hD9⟩, hS.F htQ⟩) hS.2.2 dX9_doSees_17

theorem kc_X9_doSees_X9_0_0 : (.fieldLink RX9 25 "MistHeaps$Snowed" "number" "I" : Cond) ∈ wsX9_doSees := kc_of 232 rfl rfl rfl
theorem kc_X9_doSees_X9_0_1 : ∀ w ∈ wsX90, w ∈ wsX9_doSees := fun w h => List.mem_cons_of_mem _ (gin_wsX90 w h)
theorem kc_X9_doSees_X9_0_2 : (.sameField "MistHeaps$Snowed" "MistHeaps$Heap" "number" "I" : Cond) ∈ wsX9_doSees := kc_of 233 rfl rfl rfl
set_option maxHeartbeats 4000000 in
set_option maxRecDepth 100000 in
theorem c_X9_doSees_X9_0 (l : Launch) (dC : Nat → ClassId) (dI : Nat → Nat → Nat) (ad : Nat → Nat) (cB bS : Nat)    (bo : Nat) (i0 : Nat) (sk : Int32) (sv : Int32) (scl : Int32) (x : Int32) (a0 : Nat) (mdc : Int32) (sz : Nat) : Met l yX9_doSees wsX9_doSees ({ frames := 6, cells := 1, slots := 10, locals := 122 } : Room) (va_Pc [.ref a0, .int x, .ref bo] (fun U => U.heap.size = sz ∧ va_P (dC, dI) vwCl [(zo1iri bo mdc bS 0)] U.heap ∧ va_K (dC, dI) vwCl [] U ∧ va_D (fun _ => True) [(zo1iri bo mdc bS 0)] ∧ Gi ad cB bS (va_A [(zo1iri bo mdc bS 0)] sz) U ∧ Gb (va_A [(zo1iri bo mdc bS 0)] sz) U ∧ Gw (va_A [(zo1iri bo mdc bS 0)] sz) U ∧ Fz dC dI [(zo11iiii a0 sk (nI i0) sv scl)] [] (va_A [(zo1iri bo mdc bS 0)] sz) U)) (va_Qi (fun (r : Int32) (u : (Int32) × (Nat) × (ClassId) × (Nat) × (Nat → Option Nat)) => match u with | (mdc9, aEl9, cEl9, sz_9, fEl9) => r = (x + nI i0) ^^^ nI i0 ∧ sz_9 = 2 ∧ okL ad fEl9 sz_9 [51, 1]) (fun (u : (Int32) × (Nat) × (ClassId) × (Nat) × (Nat → Option Nat)) (t : State) => match u with | (mdc9, aEl9, cEl9, sz_9, fEl9) => va_P (dC, dI) vwCl [(zo1iri bo mdc9 aEl9 (nI sz_9)), (zaR aEl9 cEl9 10 fEl9)] t.heap ∧ va_K (dC, dI) vwCl [(cEl9, .object "java/lang/Object")] t ∧ va_D (va_A [(zo1iri bo mdc bS 0)] sz) [(zo1iri bo mdc9 aEl9 (nI sz_9)), (zaR aEl9 cEl9 10 fEl9)]) (va_A [(zo1iri bo mdc bS 0)] sz)) 1 10 (va_A [(zo1iri bo mdc bS 0)] sz) := by
  refine met_ofQ (cc := cX9_doSees) (maxL := 3) (ret := (some .int)) (by decide) rfl ?_
  intro p e s m args below meth c s₁ Q B hml hv hQ
  obtain ⟨rfl, hsz, hP, hK, hD0, hI_, hB_, hW_, hZ⟩ := hv
  have hx := B.exec
  have hb := B.bytes
  have hr := B.returns
  have hts := atoms_spec (ws := wsX9_doSees) B.pre
  have hown : s.vm.findClass RX9 = some m.cls := findClass_of_methodNamed B.named
  have hlocks := B.notSynchronized
  subst hsz
  have hD := hD0.self (sz := s.heap.size)
  generalize hAe : va_A [(zo1iri bo mdc bS 0)] s.heap.size = A at hD hQ hI_ hB_ hW_ hZ ⊢
  have hA : ∀ q : Nat, s.heap.size ≤ q → A q := fun q h => by rw [← hAe]; exact Or.inr h
  have hS : va_S A s.heap s.heap [] := va_S.rf
  have hl := lv_entry [.ref a0, .int x, .ref bo] (n := 3) (Nat.le_of_ble_eq_true rfl)
  rw [lg_entry_eq]
  generalize (lg_sl [.ref a0, .int x, .ref bo] ++ List.replicate (3 - (lg_sl [.ref a0, .int x, .ref bo]).length) Slot.unset).toArray = ls at hl ⊢
  generalize hag : ([.ref a0, .int x, .ref bo] : List Value).toArray = args at hts hQ ⊢
  have hl : lv_has ls 3 [(0, .ref a0), (1, .int x), (2, .ref bo)] := hl
  obtain ⟨H, hH⟩ : ∃ H : Heap, H = s.heap := ⟨_, rfl⟩
  rw [← hH] at hP
  rw [← hH]
  have hS : va_S A s.heap H [] := by rw [hH]; exact hS
  obtain ⟨locs, hlo⟩ : ∃ L : List Loc, L = [] := ⟨_, rfl⟩
  rw [← hlo] at hS
  rw [← hlo]
  clear hH hlo
  refine lv_bipush (v := 51) hx hb dX9_doSees_0 (by decide) ?_
  refine lv_aload_n hx hb dX9_doSees_2 rfl (lv_at hl 2 rfl) ?_
  have hPc := hP.sub (ws' := [(zo1iri bo mdc bS 0)]) [0] rfl
  have hDc := hD.sub (ws' := [(zo1iri bo mdc bS 0)]) [0] (by decide) rfl
  have hKc := hK.sub (tys' := []) [] rfl
  have hFc := va_free (wc := [(zo1iri bo mdc bS 0)]) hD hS hA [0] rfl
  refine va_callv (va_runU2 (As := [.int 51, .ref bo]) (rest := []) ⟨hx, hb, hml, hown, hts⟩ (c_begin0 l dC dI ad cB bS bo mdc 51 H.size (by omega)) (u2_cw (x := xb9) 2 hB_ inb9 rfl rfl rfl rfl rfl (by decide +kernel) ⟨Nat.le_of_ble_eq_true rfl, Nat.le_of_ble_eq_true rfl⟩) ⟨fun a U g mk q => by obtain ⟨q0, q1, qP, qK, qD, qhI_⟩ := q; exact ⟨q0, q1, qP, va_K.moved (u := U) (U := U.calling g mk a) (Vm.Alike.refl U.vm) qK, qD, qhI_.same rfl rfl⟩, fun U hU hW => ⟨rfl, by rw [hU], by rw [hU]; exact hPc, va_K.moved hW.alike hKc, hDc.weaken (fun _ _ _ _ => trivial), hI_.call hS hU hW (fun q h => hFc q h)⟩⟩ rfl rfl hl.1 rfl (lv_room (Nat.le_of_ble_eq_true rfl)) dX9_doSees_3 ⟨Nat.le_of_ble_eq_true rfl, Nat.le_of_ble_eq_true rfl⟩) hS (fun q _ h => hFc q h) hFc (fun u tC H1 locs htC hvm hw_2 hB hz1 hk1 hS => ?_)
  obtain ⟨mdc9_3, aEl9_4, cEl9_5, sz_9_6, fEl9_7⟩ := u
  try dsimp only at hw_2 hB
  obtain ⟨hP1, hK1, hD1⟩ := hB
  rw [htC] at hP1
  have hK1 := va_K.moved hvm.symm hK1
  obtain ⟨hP, hD⟩ := va_join (wr := []) (w1 := [(zo1iri bo mdc9_3 aEl9_4 (nI sz_9_6)), (zaR aEl9_4 cEl9_5 10 fEl9_7)]) hP hD [0] [] rfl rfl (by decide) (by decide) hk1 hFc hP1 hD1
  have hK := (hK.sub (tys' := []) [] rfl).app hK1
  generalize H1 = H at hP hS ⊢
  have hP : va_P (dC, dI) vwCl [(zo1iri bo mdc9_3 aEl9_4 (nI sz_9_6)), (zaR aEl9_4 cEl9_5 10 fEl9_7)] H := hP
  have hD : va_D A [(zo1iri bo mdc9_3 aEl9_4 (nI sz_9_6)), (zaR aEl9_4 cEl9_5 10 fEl9_7)] := hD
  have hK : va_K (dC, dI) vwCl [(cEl9_5, .object "java/lang/Object")] s := hK
  refine W.widen (k := 1) (n := 10) (by omega) (by omega) ?_
  obtain ⟨e_8, hL_9⟩ := hw_2
  obtain rfl := (e_8).symm
  refine lv_aload_n hx hb dX9_doSees_6 rfl (lv_at hl 0 rfl) ?_
  refine lv_iload_n hx hb dX9_doSees_7 rfl (lv_at hl 1 rfl) ?_
  refine lv_aload_n hx hb dX9_doSees_8 rfl (lv_at hl 2 rfl) ?_
  have hPc := hP.sub (ws' := [(zo1iri bo mdc9_3 aEl9_4 (nI 1)), (zaR aEl9_4 cEl9_5 10 fEl9_7)]) [0, 1] rfl
  have hDc := hD.sub (ws' := [(zo1iri bo mdc9_3 aEl9_4 (nI 1)), (zaR aEl9_4 cEl9_5 10 fEl9_7)]) [0, 1] (by decide) rfl
  have hKc := hK.sub (tys' := [(cEl9_5, .object "java/lang/Object")]) [0] rfl
  have hFc := va_free (wc := [(zo1iri bo mdc9_3 aEl9_4 (nI 1)), (zaR aEl9_4 cEl9_5 10 fEl9_7)]) hD hS hA [0, 1] rfl
  refine va_calli (va_runS2 (hZ.2.1.1 11 (RX9, TX9, 4) rfl).2 (As := [.int x, .ref bo]) (rest := []) ⟨hx, hb, hml, hown, hts⟩ (c_X3_doSees_X9_1 l dC dI ad cB bS    bo aEl9_4 i0 sk sv scl x cEl9_5 fEl9_7 a0 1 mdc9_3 ([51]) H.size (by omega) (hL_9)) (s2_cw (x := x9s) 2 hW_ in9s rfl rfl rfl rfl rfl (by decide +kernel) ⟨Nat.le_of_ble_eq_true rfl, Nat.le_of_ble_eq_true rfl⟩) ⟨fun a U g mk q => by obtain ⟨q0, q1, qP, qK, qD, qhI_, qhB_, qhW_, qhZ⟩ := q; exact ⟨q0, q1, qP, va_K.moved (u := U) (U := U.calling g mk a) (Vm.Alike.refl U.vm) qK, qD, qhI_.same rfl rfl, qhB_.same rfl rfl, qhW_.same rfl rfl, qhZ.same rfl rfl⟩, va_recv hZ.2.1 (hZ.P hS) (ci := 11) (q := (RX9, TX9, 4)) (q0 := 0) rfl rfl, fun U hU hW => ⟨rfl, by rw [hU], by rw [hU]; exact hPc, va_K.moved hW.alike hKc, hDc.weaken (fun _ _ _ _ => trivial), hI_.call hS hU hW (fun q h => hFc q h), hB_.call hS hU hW (fun q h => hFc q h), hW_.call hS hU hW (fun q h => hFc q h), (hZ.sub [0] [] rfl rfl).call hS hU hW (fun q h => hFc q h)⟩⟩ rfl rfl hl.1 rfl (lv_room (Nat.le_of_ble_eq_true rfl)) dX9_doSees_9 ⟨Nat.le_of_ble_eq_true rfl, Nat.le_of_ble_eq_true rfl⟩) hS (fun q _ h => hFc q h) hFc (fun r_10 u tC H1 locs htC hvm hw_11 hB hz1 hk1 hS => ?_)
  obtain ⟨mdc9_12, sz_9_13, fEl9_14⟩ := u
  try dsimp only at hw_11 hB
  obtain ⟨hP1, hK1, hD1⟩ := hB
  rw [htC] at hP1
  have hK1 := va_K.moved hvm.symm hK1
  obtain ⟨hP, hD⟩ := va_join (wr := []) (w1 := [(zo1iri bo mdc9_12 aEl9_4 (nI sz_9_13)), (zaR aEl9_4 cEl9_5 10 fEl9_14)]) hP hD [0, 1] [] rfl rfl (by decide) (by decide) hk1 hFc hP1 hD1
  have hK := (hK.sub (tys' := []) [] rfl).app hK1
  generalize H1 = H at hP hS ⊢
  have hP : va_P (dC, dI) vwCl [(zo1iri bo mdc9_12 aEl9_4 (nI sz_9_13)), (zaR aEl9_4 cEl9_5 10 fEl9_14)] H := hP
  have hD : va_D A [(zo1iri bo mdc9_12 aEl9_4 (nI sz_9_13)), (zaR aEl9_4 cEl9_5 10 fEl9_14)] := hD
  have hK : va_K (dC, dI) vwCl [(cEl9_5, .object "java/lang/Object")] s := hK
  obtain ⟨er_15, e_16, hL_17⟩ := hw_11
  obtain rfl := (e_16).symm
  subst er_15
  refine lv_aload_n hx hb dX9_doSees_12 rfl (lv_at hl 0 rfl) ?_
  refine va_get (D := (dC, dI)) (ci := 11) (v := .int (nI i0)) (C := RX9) (T := TX9) (N := 4) hx hb hts kc_X9_doSees_X9_0_1 hown hZ.2.1 (hZ.P hS) 0 rfl rfl 1 (by decide) (hts (.fieldLink RX9 25 "MistHeaps$Snowed" "number" "I") kc_X9_doSees_X9_0_0) (fun x h => u_same (hts (.sameField "MistHeaps$Snowed" "MistHeaps$Heap" "number" "I") kc_X9_doSees_X9_0_2) x h) rfl dX9_doSees_13 ?_
  refine lv_ixor hx hb dX9_doSees_16 ?_
  rw [hQ]
  have hP9 := hP.sub (ws' := [(zo1iri bo mdc9_12 aEl9_4 (nI (1 + 1))), (zaR aEl9_4 cEl9_5 10 fEl9_14)]) [0, 1] rfl
  have hD9 := hD.sub (ws' := [(zo1iri bo mdc9_12 aEl9_4 (nI (1 + 1))), (zaR aEl9_4 cEl9_5 10 fEl9_14)]) [0, 1] (by decide) rfl
  have hK9 := hK.sub (tys' := [(cEl9_5, .object "java/lang/Object")]) [0] rfl
  refine W.widen (k := 1) (n := 10) (by omega) (by omega) ?_
  exact W.iret (v := (x + nI i0) ^^^ (nI i0)) hx hb hr (fun tQ htQ hWQ => ⟨⟨((x + nI i0) ^^^ (nI i0)), (mdc9_12, aEl9_4, cEl9_5, (1 + 1), fEl9_14), rfl, ⟨rfl, by omega, hL_17⟩, by rw [htQ]; exact hP9, va_K.moved hWQ.alike hK9, hD9⟩, hS.F htQ⟩) hS.2.2 dX9_doSees_17

theorem kc_X3_doGoes_X9_1_0 : (.code yX3_doSees cX3_doSees 3 (some .int) : Cond) ∈ wsX3_doGoes := kc_of 1025 rfl rfl rfl
theorem kc_X3_doGoes_X9_1_1 : (.fieldLink RX3 18 "MistHeaps$Heap" "v" "I" : Cond) ∈ wsX3_doGoes := kc_of 236 rfl rfl rfl
theorem kc_X3_doGoes_X9_1_2 : ∀ w ∈ wsX90, w ∈ wsX3_doGoes := fun w h => List.mem_cons_of_mem _ (gin_wsX90 w h)
set_option maxHeartbeats 4000000 in
set_option maxRecDepth 100000 in
theorem c_X3_doGoes_X9_1 (l : Launch) (dC : Nat → ClassId) (dI : Nat → Nat → Nat) (ad : Nat → Nat) (cB bS : Nat)    (bo : Nat) (aEl : Nat) (i0 : Nat) (sk : Int32) (sv : Int32) (scl : Int32) (x : Int32) (cEl : ClassId) (fEl : Nat → Option Nat) (a0 : Nat) (sz_ : Nat) (mdc : Int32) (tl : List Nat) (sz : Nat) (hsz : sz_ + 3 ≤ 10) (zL : okL ad fEl sz_ tl) : Met l yX3_doGoes wsX3_doGoes ({ frames := 5, cells := 0, slots := 0, locals := 109 } : Room) (va_Pc [.ref a0, .int x, .ref bo] (fun U => U.heap.size = sz ∧ va_P (dC, dI) vwCl [(zo1iri bo mdc aEl (nI sz_)), (zaR aEl cEl 10 fEl)] U.heap ∧ va_K (dC, dI) vwCl [(cEl, .object "java/lang/Object")] U ∧ va_D (fun _ => True) [(zo1iri bo mdc aEl (nI sz_)), (zaR aEl cEl 10 fEl)] ∧ Gi ad cB bS (va_A [(zo1iri bo mdc aEl (nI sz_)), (zaR aEl cEl 10 fEl)] sz) U ∧ Gb (va_A [(zo1iri bo mdc aEl (nI sz_)), (zaR aEl cEl 10 fEl)] sz) U ∧ Gw (va_A [(zo1iri bo mdc aEl (nI sz_)), (zaR aEl cEl 10 fEl)] sz) U ∧ Fz dC dI [(zo11iiii a0 sk (nI i0) sv scl)] [] (va_A [(zo1iri bo mdc aEl (nI sz_)), (zaR aEl cEl 10 fEl)] sz) U)) (va_Qi (fun (r : Int32) (u : (Int32) × (Nat) × (Nat → Option Nat)) => match u with | (mdc9, sz_9, fEl9) => r = ((x + nI i0) ^^^ nI i0) - sv ∧ sz_9 = sz_ + 3 ∧ okL ad fEl9 sz_9 (tl ++ [2, 51, 1])) (fun (u : (Int32) × (Nat) × (Nat → Option Nat)) (t : State) => match u with | (mdc9, sz_9, fEl9) => va_P (dC, dI) vwCl [(zo1iri bo mdc9 aEl (nI sz_9)), (zaR aEl cEl 10 fEl9)] t.heap ∧ va_K (dC, dI) vwCl [(cEl, .object "java/lang/Object")] t ∧ va_D (va_A [(zo1iri bo mdc aEl (nI sz_)), (zaR aEl cEl 10 fEl)] sz) [(zo1iri bo mdc9 aEl (nI sz_9)), (zaR aEl cEl 10 fEl9)]) (va_A [(zo1iri bo mdc aEl (nI sz_)), (zaR aEl cEl 10 fEl)] sz)) 0 0 (va_A [(zo1iri bo mdc aEl (nI sz_)), (zaR aEl cEl 10 fEl)] sz) := by
  refine met_ofQ (cc := cX3_doGoes) (maxL := 3) (ret := (some .int)) (by decide) rfl ?_
  intro p e s m args below meth c s₁ Q B hml hv hQ
  obtain ⟨rfl, hsz, hP, hK, hD0, hI_, hB_, hW_, hZ⟩ := hv
  have hx := B.exec
  have hb := B.bytes
  have hr := B.returns
  have hts := atoms_spec (ws := wsX3_doGoes) B.pre
  have hown : s.vm.findClass RX3 = some m.cls := findClass_of_methodNamed B.named
  have hlocks := B.notSynchronized
  subst hsz
  have hD := hD0.self (sz := s.heap.size)
  generalize hAe : va_A [(zo1iri bo mdc aEl (nI sz_)), (zaR aEl cEl 10 fEl)] s.heap.size = A at hD hQ hI_ hB_ hW_ hZ ⊢
  have hA : ∀ q : Nat, s.heap.size ≤ q → A q := fun q h => by rw [← hAe]; exact Or.inr h
  have hS : va_S A s.heap s.heap [] := va_S.rf
  have hl := lv_entry [.ref a0, .int x, .ref bo] (n := 3) (Nat.le_of_ble_eq_true rfl)
  rw [lg_entry_eq]
  generalize (lg_sl [.ref a0, .int x, .ref bo] ++ List.replicate (3 - (lg_sl [.ref a0, .int x, .ref bo]).length) Slot.unset).toArray = ls at hl ⊢
  generalize hag : ([.ref a0, .int x, .ref bo] : List Value).toArray = args at hts hQ ⊢
  have hl : lv_has ls 3 [(0, .ref a0), (1, .int x), (2, .ref bo)] := hl
  obtain ⟨H, hH⟩ : ∃ H : Heap, H = s.heap := ⟨_, rfl⟩
  rw [← hH] at hP
  rw [← hH]
  have hS : va_S A s.heap H [] := by rw [hH]; exact hS
  obtain ⟨locs, hlo⟩ : ∃ L : List Loc, L = [] := ⟨_, rfl⟩
  rw [← hlo] at hS
  rw [← hlo]
  clear hH hlo
  refine lv_iconst (v := 2) hx hb dX3_doGoes_0 (by decide) ?_
  refine lv_aload_n hx hb dX3_doGoes_1 rfl (lv_at hl 2 rfl) ?_
  have hPc := hP.sub (ws' := [(zo1iri bo mdc aEl (nI sz_)), (zaR aEl cEl 10 fEl)]) [0, 1] rfl
  have hDc := hD.sub (ws' := [(zo1iri bo mdc aEl (nI sz_)), (zaR aEl cEl 10 fEl)]) [0, 1] (by decide) rfl
  have hKc := hK.sub (tys' := [(cEl, .object "java/lang/Object")]) [0] rfl
  have hFc := va_free (wc := [(zo1iri bo mdc aEl (nI sz_)), (zaR aEl cEl 10 fEl)]) hD hS hA [0, 1] rfl
  refine va_callv (va_runS (As := [.int 2, .ref bo]) (rest := []) ⟨hx, hb, hml, hown, hts⟩ (c_begin1 l dC dI ad cB bS bo aEl 2 cEl fEl sz_ mdc tl H.size (by omega) (by omega) (zL)) (va_cwS 2 hts gX3_doGoes_X3_begin rfl rfl rfl hd_yX3_begin.2 ⟨Nat.le_of_ble_eq_true rfl, Nat.le_of_ble_eq_true rfl⟩) ⟨fun a U g mk q => by obtain ⟨q0, q1, qP, qK, qD, qhI_⟩ := q; exact ⟨q0, q1, qP, va_K.moved (u := U) (U := U.calling g mk a) (Vm.Alike.refl U.vm) qK, qD, qhI_.same rfl rfl⟩, fun U hU hW => ⟨rfl, by rw [hU], by rw [hU]; exact hPc, va_K.moved hW.alike hKc, hDc.weaken (fun _ _ _ _ => trivial), hI_.call hS hU hW (fun q h => hFc q h)⟩⟩ rfl rfl hl.1 rfl (lv_room (Nat.le_of_ble_eq_true rfl)) dX3_doGoes_2 ⟨Nat.le_of_ble_eq_true rfl, Nat.le_of_ble_eq_true rfl⟩) hS (fun q _ h => hFc q h) hFc (fun u tC H1 locs htC hvm hw_2 hB hz1 hk1 hS => ?_)
  obtain ⟨mdc9_3, sz_9_4, fEl9_5⟩ := u
  try dsimp only at hw_2 hB
  obtain ⟨hP1, hK1, hD1⟩ := hB
  rw [htC] at hP1
  have hK1 := va_K.moved hvm.symm hK1
  obtain ⟨hP, hD⟩ := va_join (wr := []) (w1 := [(zo1iri bo mdc9_3 aEl (nI sz_9_4)), (zaR aEl cEl 10 fEl9_5)]) hP hD [0, 1] [] rfl rfl (by decide) (by decide) hk1 hFc hP1 hD1
  have hK := (hK.sub (tys' := []) [] rfl).app hK1
  generalize H1 = H at hP hS ⊢
  have hP : va_P (dC, dI) vwCl [(zo1iri bo mdc9_3 aEl (nI sz_9_4)), (zaR aEl cEl 10 fEl9_5)] H := hP
  have hD : va_D A [(zo1iri bo mdc9_3 aEl (nI sz_9_4)), (zaR aEl cEl 10 fEl9_5)] := hD
  have hK : va_K (dC, dI) vwCl [(cEl, .object "java/lang/Object")] s := hK
  obtain ⟨e_6, hL_7⟩ := hw_2
  obtain rfl := (e_6).symm
  refine lv_aload_n hx hb dX3_doGoes_5 rfl (lv_at hl 0 rfl) ?_
  refine lv_iload_n hx hb dX3_doGoes_6 rfl (lv_at hl 1 rfl) ?_
  refine lv_aload_n hx hb dX3_doGoes_7 rfl (lv_at hl 2 rfl) ?_
  have hPc := hP.sub (ws' := [(zo1iri bo mdc9_3 aEl (nI (sz_ + 1))), (zaR aEl cEl 10 fEl9_5)]) [0, 1] rfl
  have hDc := hD.sub (ws' := [(zo1iri bo mdc9_3 aEl (nI (sz_ + 1))), (zaR aEl cEl 10 fEl9_5)]) [0, 1] (by decide) rfl
  have hKc := hK.sub (tys' := [(cEl, .object "java/lang/Object")]) [0] rfl
  have hFc := va_free (wc := [(zo1iri bo mdc9_3 aEl (nI (sz_ + 1))), (zaR aEl cEl 10 fEl9_5)]) hD hS hA [0, 1] rfl
  refine va_calli (va_runU (As := [.int x, .ref bo]) (rest := []) ⟨hx, hb, hml, hown, hts⟩ (c_X9_doSees_X9_1 l dC dI ad cB bS    bo aEl i0 sk sv scl x cEl fEl9_5 a0 (sz_ + 1) mdc9_3 (tl ++ [2]) H.size (by omega) (hL_7)) (va_cwO 2 hts gX3_doGoes_X9_doSees_u38X9 rfl rfl rfl kc_X3_doGoes_X9_1_0 (by decide +kernel) ⟨Nat.le_of_ble_eq_true rfl, Nat.le_of_ble_eq_true rfl⟩) ⟨fun a U g mk q => by obtain ⟨q0, q1, qP, qK, qD, qhI_, qhB_, qhW_, qhZ⟩ := q; exact ⟨q0, q1, qP, va_K.moved (u := U) (U := U.calling g mk a) (Vm.Alike.refl U.vm) qK, qD, qhI_.same rfl rfl, qhB_.same rfl rfl, qhW_.same rfl rfl, qhZ.same rfl rfl⟩, va_recv hZ.2.1 (hZ.P hS) (ci := 11) (q := (RX9, TX9, 4)) (q0 := 0) rfl rfl, fun U hU hW => ⟨rfl, by rw [hU], by rw [hU]; exact hPc, va_K.moved hW.alike hKc, hDc.weaken (fun _ _ _ _ => trivial), hI_.call hS hU hW (fun q h => hFc q h), hB_.call hS hU hW (fun q h => hFc q h), hW_.call hS hU hW (fun q h => hFc q h), (hZ.sub [0] [] rfl rfl).call hS hU hW (fun q h => hFc q h)⟩⟩ rfl rfl hl.1 rfl (lv_room (Nat.le_of_ble_eq_true rfl)) dX3_doGoes_8 ⟨Nat.le_of_ble_eq_true rfl, Nat.le_of_ble_eq_true rfl⟩) hS (fun q _ h => hFc q h) hFc (fun r_8 u tC H1 locs htC hvm hw_9 hB hz1 hk1 hS => ?_)
  obtain ⟨mdc9_10, sz_9_11, fEl9_12⟩ := u
  try dsimp only at hw_9 hB
  obtain ⟨hP1, hK1, hD1⟩ := hB
  rw [htC] at hP1
  have hK1 := va_K.moved hvm.symm hK1
  obtain ⟨hP, hD⟩ := va_join (wr := []) (w1 := [(zo1iri bo mdc9_10 aEl (nI sz_9_11)), (zaR aEl cEl 10 fEl9_12)]) hP hD [0, 1] [] rfl rfl (by decide) (by decide) hk1 hFc hP1 hD1
  have hK := (hK.sub (tys' := []) [] rfl).app hK1
  generalize H1 = H at hP hS ⊢
  have hP : va_P (dC, dI) vwCl [(zo1iri bo mdc9_10 aEl (nI sz_9_11)), (zaR aEl cEl 10 fEl9_12)] H := hP
  have hD : va_D A [(zo1iri bo mdc9_10 aEl (nI sz_9_11)), (zaR aEl cEl 10 fEl9_12)] := hD
  have hK : va_K (dC, dI) vwCl [(cEl, .object "java/lang/Object")] s := hK
  obtain ⟨er_13, e_14, hL_15⟩ := hw_9
  obtain rfl := (e_14).symm
  subst er_13
  refine lv_aload_n hx hb dX3_doGoes_11 rfl (lv_at hl 0 rfl) ?_
  refine va_get (D := (dC, dI)) (ci := 11) (v := .int sv) (C := RX9) (T := TX9) (N := 4) hx hb hts kc_X3_doGoes_X9_1_2 hown hZ.2.1 (hZ.P hS) 0 rfl rfl 2 (by decide) (hts (.fieldLink RX3 18 "MistHeaps$Heap" "v" "I") kc_X3_doGoes_X9_1_1) (fun _ h9 => h9) rfl dX3_doGoes_12 ?_
  refine lv_isub hx hb dX3_doGoes_15 ?_
  rw [hQ]
  have hP9 := hP.sub (ws' := [(zo1iri bo mdc9_10 aEl (nI ((sz_ + 1) + 2))), (zaR aEl cEl 10 fEl9_12)]) [0, 1] rfl
  have hD9 := hD.sub (ws' := [(zo1iri bo mdc9_10 aEl (nI ((sz_ + 1) + 2))), (zaR aEl cEl 10 fEl9_12)]) [0, 1] (by decide) rfl
  have hK9 := hK.sub (tys' := [(cEl, .object "java/lang/Object")]) [0] rfl
  exact W.iret (v := ((x + nI i0) ^^^ nI i0) - sv) hx hb hr (fun tQ htQ hWQ => ⟨⟨(((x + nI i0) ^^^ nI i0) - sv), (mdc9_10, ((sz_ + 1) + 2), fEl9_12), rfl, ⟨rfl, by omega, by have h9 := okL_as (hL_15); exact h9⟩, by rw [htQ]; exact hP9, va_K.moved hWQ.alike hK9, hD9⟩, hS.F htQ⟩) hS.2.2 dX3_doGoes_16

theorem kc_X3_doGoes_X9_0_0 : (.code yX3_doSees cX3_doSees 3 (some .int) : Cond) ∈ wsX3_doGoes := kc_of 1025 rfl rfl rfl
theorem kc_X3_doGoes_X9_0_1 : (.fieldLink RX3 18 "MistHeaps$Heap" "v" "I" : Cond) ∈ wsX3_doGoes := kc_of 236 rfl rfl rfl
theorem kc_X3_doGoes_X9_0_2 : ∀ w ∈ wsX90, w ∈ wsX3_doGoes := fun w h => List.mem_cons_of_mem _ (gin_wsX90 w h)
set_option maxHeartbeats 4000000 in
set_option maxRecDepth 100000 in
theorem c_X3_doGoes_X9_0 (l : Launch) (dC : Nat → ClassId) (dI : Nat → Nat → Nat) (ad : Nat → Nat) (cB bS : Nat)    (bo : Nat) (i0 : Nat) (sk : Int32) (sv : Int32) (scl : Int32) (x : Int32) (a0 : Nat) (mdc : Int32) (sz : Nat) : Met l yX3_doGoes wsX3_doGoes ({ frames := 6, cells := 1, slots := 10, locals := 122 } : Room) (va_Pc [.ref a0, .int x, .ref bo] (fun U => U.heap.size = sz ∧ va_P (dC, dI) vwCl [(zo1iri bo mdc bS 0)] U.heap ∧ va_K (dC, dI) vwCl [] U ∧ va_D (fun _ => True) [(zo1iri bo mdc bS 0)] ∧ Gi ad cB bS (va_A [(zo1iri bo mdc bS 0)] sz) U ∧ Gb (va_A [(zo1iri bo mdc bS 0)] sz) U ∧ Gw (va_A [(zo1iri bo mdc bS 0)] sz) U ∧ Fz dC dI [(zo11iiii a0 sk (nI i0) sv scl)] [] (va_A [(zo1iri bo mdc bS 0)] sz) U)) (va_Qi (fun (r : Int32) (u : (Int32) × (Nat) × (ClassId) × (Nat) × (Nat → Option Nat)) => match u with | (mdc9, aEl9, cEl9, sz_9, fEl9) => r = ((x + nI i0) ^^^ nI i0) - sv ∧ sz_9 = 3 ∧ okL ad fEl9 sz_9 [2, 51, 1]) (fun (u : (Int32) × (Nat) × (ClassId) × (Nat) × (Nat → Option Nat)) (t : State) => match u with | (mdc9, aEl9, cEl9, sz_9, fEl9) => va_P (dC, dI) vwCl [(zo1iri bo mdc9 aEl9 (nI sz_9)), (zaR aEl9 cEl9 10 fEl9)] t.heap ∧ va_K (dC, dI) vwCl [(cEl9, .object "java/lang/Object")] t ∧ va_D (va_A [(zo1iri bo mdc bS 0)] sz) [(zo1iri bo mdc9 aEl9 (nI sz_9)), (zaR aEl9 cEl9 10 fEl9)]) (va_A [(zo1iri bo mdc bS 0)] sz)) 1 10 (va_A [(zo1iri bo mdc bS 0)] sz) := by
  refine met_ofQ (cc := cX3_doGoes) (maxL := 3) (ret := (some .int)) (by decide) rfl ?_
  intro p e s m args below meth c s₁ Q B hml hv hQ
  obtain ⟨rfl, hsz, hP, hK, hD0, hI_, hB_, hW_, hZ⟩ := hv
  have hx := B.exec
  have hb := B.bytes
  have hr := B.returns
  have hts := atoms_spec (ws := wsX3_doGoes) B.pre
  have hown : s.vm.findClass RX3 = some m.cls := findClass_of_methodNamed B.named
  have hlocks := B.notSynchronized
  subst hsz
  have hD := hD0.self (sz := s.heap.size)
  generalize hAe : va_A [(zo1iri bo mdc bS 0)] s.heap.size = A at hD hQ hI_ hB_ hW_ hZ ⊢
  have hA : ∀ q : Nat, s.heap.size ≤ q → A q := fun q h => by rw [← hAe]; exact Or.inr h
  have hS : va_S A s.heap s.heap [] := va_S.rf
  have hl := lv_entry [.ref a0, .int x, .ref bo] (n := 3) (Nat.le_of_ble_eq_true rfl)
  rw [lg_entry_eq]
  generalize (lg_sl [.ref a0, .int x, .ref bo] ++ List.replicate (3 - (lg_sl [.ref a0, .int x, .ref bo]).length) Slot.unset).toArray = ls at hl ⊢
  generalize hag : ([.ref a0, .int x, .ref bo] : List Value).toArray = args at hts hQ ⊢
  have hl : lv_has ls 3 [(0, .ref a0), (1, .int x), (2, .ref bo)] := hl
  obtain ⟨H, hH⟩ : ∃ H : Heap, H = s.heap := ⟨_, rfl⟩
  rw [← hH] at hP
  rw [← hH]
  have hS : va_S A s.heap H [] := by rw [hH]; exact hS
  obtain ⟨locs, hlo⟩ : ∃ L : List Loc, L = [] := ⟨_, rfl⟩
  rw [← hlo] at hS
  rw [← hlo]
  clear hH hlo
  refine lv_iconst (v := 2) hx hb dX3_doGoes_0 (by decide) ?_
  refine lv_aload_n hx hb dX3_doGoes_1 rfl (lv_at hl 2 rfl) ?_
  have hPc := hP.sub (ws' := [(zo1iri bo mdc bS 0)]) [0] rfl
  have hDc := hD.sub (ws' := [(zo1iri bo mdc bS 0)]) [0] (by decide) rfl
  have hKc := hK.sub (tys' := []) [] rfl
  have hFc := va_free (wc := [(zo1iri bo mdc bS 0)]) hD hS hA [0] rfl
  refine va_callv (va_runS (As := [.int 2, .ref bo]) (rest := []) ⟨hx, hb, hml, hown, hts⟩ (c_begin0 l dC dI ad cB bS bo mdc 2 H.size (by omega)) (va_cwS 2 hts gX3_doGoes_X3_begin rfl rfl rfl hd_yX3_begin.2 ⟨Nat.le_of_ble_eq_true rfl, Nat.le_of_ble_eq_true rfl⟩) ⟨fun a U g mk q => by obtain ⟨q0, q1, qP, qK, qD, qhI_⟩ := q; exact ⟨q0, q1, qP, va_K.moved (u := U) (U := U.calling g mk a) (Vm.Alike.refl U.vm) qK, qD, qhI_.same rfl rfl⟩, fun U hU hW => ⟨rfl, by rw [hU], by rw [hU]; exact hPc, va_K.moved hW.alike hKc, hDc.weaken (fun _ _ _ _ => trivial), hI_.call hS hU hW (fun q h => hFc q h)⟩⟩ rfl rfl hl.1 rfl (lv_room (Nat.le_of_ble_eq_true rfl)) dX3_doGoes_2 ⟨Nat.le_of_ble_eq_true rfl, Nat.le_of_ble_eq_true rfl⟩) hS (fun q _ h => hFc q h) hFc (fun u tC H1 locs htC hvm hw_2 hB hz1 hk1 hS => ?_)
  obtain ⟨mdc9_3, aEl9_4, cEl9_5, sz_9_6, fEl9_7⟩ := u
  try dsimp only at hw_2 hB
  obtain ⟨hP1, hK1, hD1⟩ := hB
  rw [htC] at hP1
  have hK1 := va_K.moved hvm.symm hK1
  obtain ⟨hP, hD⟩ := va_join (wr := []) (w1 := [(zo1iri bo mdc9_3 aEl9_4 (nI sz_9_6)), (zaR aEl9_4 cEl9_5 10 fEl9_7)]) hP hD [0] [] rfl rfl (by decide) (by decide) hk1 hFc hP1 hD1
  have hK := (hK.sub (tys' := []) [] rfl).app hK1
  generalize H1 = H at hP hS ⊢
  have hP : va_P (dC, dI) vwCl [(zo1iri bo mdc9_3 aEl9_4 (nI sz_9_6)), (zaR aEl9_4 cEl9_5 10 fEl9_7)] H := hP
  have hD : va_D A [(zo1iri bo mdc9_3 aEl9_4 (nI sz_9_6)), (zaR aEl9_4 cEl9_5 10 fEl9_7)] := hD
  have hK : va_K (dC, dI) vwCl [(cEl9_5, .object "java/lang/Object")] s := hK
  refine W.widen (k := 1) (n := 10) (by omega) (by omega) ?_
  obtain ⟨e_8, hL_9⟩ := hw_2
  obtain rfl := (e_8).symm
  refine lv_aload_n hx hb dX3_doGoes_5 rfl (lv_at hl 0 rfl) ?_
  refine lv_iload_n hx hb dX3_doGoes_6 rfl (lv_at hl 1 rfl) ?_
  refine lv_aload_n hx hb dX3_doGoes_7 rfl (lv_at hl 2 rfl) ?_
  have hPc := hP.sub (ws' := [(zo1iri bo mdc9_3 aEl9_4 (nI 1)), (zaR aEl9_4 cEl9_5 10 fEl9_7)]) [0, 1] rfl
  have hDc := hD.sub (ws' := [(zo1iri bo mdc9_3 aEl9_4 (nI 1)), (zaR aEl9_4 cEl9_5 10 fEl9_7)]) [0, 1] (by decide) rfl
  have hKc := hK.sub (tys' := [(cEl9_5, .object "java/lang/Object")]) [0] rfl
  have hFc := va_free (wc := [(zo1iri bo mdc9_3 aEl9_4 (nI 1)), (zaR aEl9_4 cEl9_5 10 fEl9_7)]) hD hS hA [0, 1] rfl
  refine va_calli (va_runU (As := [.int x, .ref bo]) (rest := []) ⟨hx, hb, hml, hown, hts⟩ (c_X9_doSees_X9_1 l dC dI ad cB bS    bo aEl9_4 i0 sk sv scl x cEl9_5 fEl9_7 a0 1 mdc9_3 ([2]) H.size (by omega) (hL_9)) (va_cwO 2 hts gX3_doGoes_X9_doSees_u38X9 rfl rfl rfl kc_X3_doGoes_X9_0_0 (by decide +kernel) ⟨Nat.le_of_ble_eq_true rfl, Nat.le_of_ble_eq_true rfl⟩) ⟨fun a U g mk q => by obtain ⟨q0, q1, qP, qK, qD, qhI_, qhB_, qhW_, qhZ⟩ := q; exact ⟨q0, q1, qP, va_K.moved (u := U) (U := U.calling g mk a) (Vm.Alike.refl U.vm) qK, qD, qhI_.same rfl rfl, qhB_.same rfl rfl, qhW_.same rfl rfl, qhZ.same rfl rfl⟩, va_recv hZ.2.1 (hZ.P hS) (ci := 11) (q := (RX9, TX9, 4)) (q0 := 0) rfl rfl, fun U hU hW => ⟨rfl, by rw [hU], by rw [hU]; exact hPc, va_K.moved hW.alike hKc, hDc.weaken (fun _ _ _ _ => trivial), hI_.call hS hU hW (fun q h => hFc q h), hB_.call hS hU hW (fun q h => hFc q h), hW_.call hS hU hW (fun q h => hFc q h), (hZ.sub [0] [] rfl rfl).call hS hU hW (fun q h => hFc q h)⟩⟩ rfl rfl hl.1 rfl (lv_room (Nat.le_of_ble_eq_true rfl)) dX3_doGoes_8 ⟨Nat.le_of_ble_eq_true rfl, Nat.le_of_ble_eq_true rfl⟩) hS (fun q _ h => hFc q h) hFc (fun r_10 u tC H1 locs htC hvm hw_11 hB hz1 hk1 hS => ?_)
  obtain ⟨mdc9_12, sz_9_13, fEl9_14⟩ := u
  try dsimp only at hw_11 hB
  obtain ⟨hP1, hK1, hD1⟩ := hB
  rw [htC] at hP1
  have hK1 := va_K.moved hvm.symm hK1
  obtain ⟨hP, hD⟩ := va_join (wr := []) (w1 := [(zo1iri bo mdc9_12 aEl9_4 (nI sz_9_13)), (zaR aEl9_4 cEl9_5 10 fEl9_14)]) hP hD [0, 1] [] rfl rfl (by decide) (by decide) hk1 hFc hP1 hD1
  have hK := (hK.sub (tys' := []) [] rfl).app hK1
  generalize H1 = H at hP hS ⊢
  have hP : va_P (dC, dI) vwCl [(zo1iri bo mdc9_12 aEl9_4 (nI sz_9_13)), (zaR aEl9_4 cEl9_5 10 fEl9_14)] H := hP
  have hD : va_D A [(zo1iri bo mdc9_12 aEl9_4 (nI sz_9_13)), (zaR aEl9_4 cEl9_5 10 fEl9_14)] := hD
  have hK : va_K (dC, dI) vwCl [(cEl9_5, .object "java/lang/Object")] s := hK
  obtain ⟨er_15, e_16, hL_17⟩ := hw_11
  obtain rfl := (e_16).symm
  subst er_15
  refine lv_aload_n hx hb dX3_doGoes_11 rfl (lv_at hl 0 rfl) ?_
  refine va_get (D := (dC, dI)) (ci := 11) (v := .int sv) (C := RX9) (T := TX9) (N := 4) hx hb hts kc_X3_doGoes_X9_0_2 hown hZ.2.1 (hZ.P hS) 0 rfl rfl 2 (by decide) (hts (.fieldLink RX3 18 "MistHeaps$Heap" "v" "I") kc_X3_doGoes_X9_0_1) (fun _ h9 => h9) rfl dX3_doGoes_12 ?_
  refine lv_isub hx hb dX3_doGoes_15 ?_
  rw [hQ]
  have hP9 := hP.sub (ws' := [(zo1iri bo mdc9_12 aEl9_4 (nI (1 + 2))), (zaR aEl9_4 cEl9_5 10 fEl9_14)]) [0, 1] rfl
  have hD9 := hD.sub (ws' := [(zo1iri bo mdc9_12 aEl9_4 (nI (1 + 2))), (zaR aEl9_4 cEl9_5 10 fEl9_14)]) [0, 1] (by decide) rfl
  have hK9 := hK.sub (tys' := [(cEl9_5, .object "java/lang/Object")]) [0] rfl
  refine W.widen (k := 1) (n := 10) (by omega) (by omega) ?_
  exact W.iret (v := ((x + nI i0) ^^^ nI i0) - sv) hx hb hr (fun tQ htQ hWQ => ⟨⟨(((x + nI i0) ^^^ nI i0) - sv), (mdc9_12, aEl9_4, cEl9_5, (1 + 2), fEl9_14), rfl, ⟨rfl, by omega, hL_17⟩, by rw [htQ]; exact hP9, va_K.moved hWQ.alike hK9, hD9⟩, hS.F htQ⟩) hS.2.2 dX3_doGoes_16

set_option maxHeartbeats 4000000 in
set_option maxRecDepth 100000 in
theorem c_X6_doGoes_X9_1 (l : Launch) (dC : Nat → ClassId) (dI : Nat → Nat → Nat) (ad : Nat → Nat) (cB bS : Nat)    (bo : Nat) (aEl : Nat) (i0 : Nat) (sk : Int32) (sv : Int32) (scl : Int32) (x : Int32) (cEl : ClassId) (fEl : Nat → Option Nat) (a0 : Nat) (sz_ : Nat) (mdc : Int32) (tl : List Nat) (sz : Nat) (hsz : sz_ + 4 ≤ 10) (zL : okL ad fEl sz_ tl) : Met l yX6_doGoes wsX6_doGoes ({ frames := 6, cells := 0, slots := 0, locals := 131 } : Room) (va_Pc [.ref a0, .int x, .ref bo] (fun U => U.heap.size = sz ∧ va_P (dC, dI) vwCl [(zo1iri bo mdc aEl (nI sz_)), (zaR aEl cEl 10 fEl)] U.heap ∧ va_K (dC, dI) vwCl [(cEl, .object "java/lang/Object")] U ∧ va_D (fun _ => True) [(zo1iri bo mdc aEl (nI sz_)), (zaR aEl cEl 10 fEl)] ∧ Gi ad cB bS (va_A [(zo1iri bo mdc aEl (nI sz_)), (zaR aEl cEl 10 fEl)] sz) U ∧ Gb (va_A [(zo1iri bo mdc aEl (nI sz_)), (zaR aEl cEl 10 fEl)] sz) U ∧ Gw (va_A [(zo1iri bo mdc aEl (nI sz_)), (zaR aEl cEl 10 fEl)] sz) U ∧ Fz dC dI [(zo11iiii a0 sk (nI i0) sv scl)] [] (va_A [(zo1iri bo mdc aEl (nI sz_)), (zaR aEl cEl 10 fEl)] sz) U)) (va_Qi (fun (r : Int32) (u : (Int32) × (Nat) × (Nat → Option Nat)) => match u with | (mdc9, sz_9, fEl9) => r = -(((x + nI i0) ^^^ nI i0) - sv) ∧ sz_9 = sz_ + 4 ∧ okL ad fEl9 sz_9 (tl ++ [21, 2, 51, 1])) (fun (u : (Int32) × (Nat) × (Nat → Option Nat)) (t : State) => match u with | (mdc9, sz_9, fEl9) => va_P (dC, dI) vwCl [(zo1iri bo mdc9 aEl (nI sz_9)), (zaR aEl cEl 10 fEl9)] t.heap ∧ va_K (dC, dI) vwCl [(cEl, .object "java/lang/Object")] t ∧ va_D (va_A [(zo1iri bo mdc aEl (nI sz_)), (zaR aEl cEl 10 fEl)] sz) [(zo1iri bo mdc9 aEl (nI sz_9)), (zaR aEl cEl 10 fEl9)]) (va_A [(zo1iri bo mdc aEl (nI sz_)), (zaR aEl cEl 10 fEl)] sz)) 0 0 (va_A [(zo1iri bo mdc aEl (nI sz_)), (zaR aEl cEl 10 fEl)] sz) := by
  refine met_ofQ (cc := cX6_doGoes) (maxL := 3) (ret := (some .int)) (by decide) rfl ?_
  intro p e s m args below meth c s₁ Q B hml hv hQ
  obtain ⟨rfl, hsz, hP, hK, hD0, hI_, hB_, hW_, hZ⟩ := hv
  have hx := B.exec
  have hb := B.bytes
  have hr := B.returns
  have hts := atoms_spec (ws := wsX6_doGoes) B.pre
  have hown : s.vm.findClass RX6 = some m.cls := findClass_of_methodNamed B.named
  have hlocks := B.notSynchronized
  subst hsz
  have hD := hD0.self (sz := s.heap.size)
  generalize hAe : va_A [(zo1iri bo mdc aEl (nI sz_)), (zaR aEl cEl 10 fEl)] s.heap.size = A at hD hQ hI_ hB_ hW_ hZ ⊢
  have hA : ∀ q : Nat, s.heap.size ≤ q → A q := fun q h => by rw [← hAe]; exact Or.inr h
  have hS : va_S A s.heap s.heap [] := va_S.rf
  have hl := lv_entry [.ref a0, .int x, .ref bo] (n := 3) (Nat.le_of_ble_eq_true rfl)
  rw [lg_entry_eq]
  generalize (lg_sl [.ref a0, .int x, .ref bo] ++ List.replicate (3 - (lg_sl [.ref a0, .int x, .ref bo]).length) Slot.unset).toArray = ls at hl ⊢
  generalize hag : ([.ref a0, .int x, .ref bo] : List Value).toArray = args at hts hQ ⊢
  have hl : lv_has ls 3 [(0, .ref a0), (1, .int x), (2, .ref bo)] := hl
  obtain ⟨H, hH⟩ : ∃ H : Heap, H = s.heap := ⟨_, rfl⟩
  rw [← hH] at hP
  rw [← hH]
  have hS : va_S A s.heap H [] := by rw [hH]; exact hS
  obtain ⟨locs, hlo⟩ : ∃ L : List Loc, L = [] := ⟨_, rfl⟩
  rw [← hlo] at hS
  rw [← hlo]
  clear hH hlo
  refine lv_bipush (v := 21) hx hb dX6_doGoes_0 (by decide) ?_
  refine lv_aload_n hx hb dX6_doGoes_2 rfl (lv_at hl 2 rfl) ?_
  have hPc := hP.sub (ws' := [(zo1iri bo mdc aEl (nI sz_)), (zaR aEl cEl 10 fEl)]) [0, 1] rfl
  have hDc := hD.sub (ws' := [(zo1iri bo mdc aEl (nI sz_)), (zaR aEl cEl 10 fEl)]) [0, 1] (by decide) rfl
  have hKc := hK.sub (tys' := [(cEl, .object "java/lang/Object")]) [0] rfl
  have hFc := va_free (wc := [(zo1iri bo mdc aEl (nI sz_)), (zaR aEl cEl 10 fEl)]) hD hS hA [0, 1] rfl
  refine va_callv (va_runU2 (As := [.int 21, .ref bo]) (rest := []) ⟨hx, hb, hml, hown, hts⟩ (c_begin1 l dC dI ad cB bS bo aEl 21 cEl fEl sz_ mdc tl H.size (by omega) (by omega) (zL)) (u2_cw (x := xb6) 2 hB_ inb6 rfl rfl rfl rfl rfl (by decide +kernel) ⟨Nat.le_of_ble_eq_true rfl, Nat.le_of_ble_eq_true rfl⟩) ⟨fun a U g mk q => by obtain ⟨q0, q1, qP, qK, qD, qhI_⟩ := q; exact ⟨q0, q1, qP, va_K.moved (u := U) (U := U.calling g mk a) (Vm.Alike.refl U.vm) qK, qD, qhI_.same rfl rfl⟩, fun U hU hW => ⟨rfl, by rw [hU], by rw [hU]; exact hPc, va_K.moved hW.alike hKc, hDc.weaken (fun _ _ _ _ => trivial), hI_.call hS hU hW (fun q h => hFc q h)⟩⟩ rfl rfl hl.1 rfl (lv_room (Nat.le_of_ble_eq_true rfl)) dX6_doGoes_3 ⟨Nat.le_of_ble_eq_true rfl, Nat.le_of_ble_eq_true rfl⟩) hS (fun q _ h => hFc q h) hFc (fun u tC H1 locs htC hvm hw_2 hB hz1 hk1 hS => ?_)
  obtain ⟨mdc9_3, sz_9_4, fEl9_5⟩ := u
  try dsimp only at hw_2 hB
  obtain ⟨hP1, hK1, hD1⟩ := hB
  rw [htC] at hP1
  have hK1 := va_K.moved hvm.symm hK1
  obtain ⟨hP, hD⟩ := va_join (wr := []) (w1 := [(zo1iri bo mdc9_3 aEl (nI sz_9_4)), (zaR aEl cEl 10 fEl9_5)]) hP hD [0, 1] [] rfl rfl (by decide) (by decide) hk1 hFc hP1 hD1
  have hK := (hK.sub (tys' := []) [] rfl).app hK1
  generalize H1 = H at hP hS ⊢
  have hP : va_P (dC, dI) vwCl [(zo1iri bo mdc9_3 aEl (nI sz_9_4)), (zaR aEl cEl 10 fEl9_5)] H := hP
  have hD : va_D A [(zo1iri bo mdc9_3 aEl (nI sz_9_4)), (zaR aEl cEl 10 fEl9_5)] := hD
  have hK : va_K (dC, dI) vwCl [(cEl, .object "java/lang/Object")] s := hK
  obtain ⟨e_6, hL_7⟩ := hw_2
  obtain rfl := (e_6).symm
  refine lv_aload_n hx hb dX6_doGoes_6 rfl (lv_at hl 0 rfl) ?_
  refine lv_iload_n hx hb dX6_doGoes_7 rfl (lv_at hl 1 rfl) ?_
  refine lv_aload_n hx hb dX6_doGoes_8 rfl (lv_at hl 2 rfl) ?_
  have hPc := hP.sub (ws' := [(zo1iri bo mdc9_3 aEl (nI (sz_ + 1))), (zaR aEl cEl 10 fEl9_5)]) [0, 1] rfl
  have hDc := hD.sub (ws' := [(zo1iri bo mdc9_3 aEl (nI (sz_ + 1))), (zaR aEl cEl 10 fEl9_5)]) [0, 1] (by decide) rfl
  have hKc := hK.sub (tys' := [(cEl, .object "java/lang/Object")]) [0] rfl
  have hFc := va_free (wc := [(zo1iri bo mdc9_3 aEl (nI (sz_ + 1))), (zaR aEl cEl 10 fEl9_5)]) hD hS hA [0, 1] rfl
  refine va_calli (va_runSU (hZ.2.1.1 11 (RX9, TX9, 4) rfl).2 (As := [.int x, .ref bo]) (rest := []) ⟨hx, hb, hml, hown, hts⟩ (c_X3_doGoes_X9_1 l dC dI ad cB bS    bo aEl i0 sk sv scl x cEl fEl9_5 a0 (sz_ + 1) mdc9_3 (tl ++ [21]) H.size (by omega) (hL_7)) (va_cwSU 2 hts gX6_doGoes_X3_doGoes_s17 rfl rfl rfl (by decide +kernel) ⟨Nat.le_of_ble_eq_true rfl, Nat.le_of_ble_eq_true rfl⟩) ⟨fun a U g mk q => by obtain ⟨q0, q1, qP, qK, qD, qhI_, qhB_, qhW_, qhZ⟩ := q; exact ⟨q0, q1, qP, va_K.moved (u := U) (U := U.calling g mk a) (Vm.Alike.refl U.vm) qK, qD, qhI_.same rfl rfl, qhB_.same rfl rfl, qhW_.same rfl rfl, qhZ.same rfl rfl⟩, va_recv hZ.2.1 (hZ.P hS) (ci := 11) (q := (RX9, TX9, 4)) (q0 := 0) rfl rfl, fun U hU hW => ⟨rfl, by rw [hU], by rw [hU]; exact hPc, va_K.moved hW.alike hKc, hDc.weaken (fun _ _ _ _ => trivial), hI_.call hS hU hW (fun q h => hFc q h), hB_.call hS hU hW (fun q h => hFc q h), hW_.call hS hU hW (fun q h => hFc q h), (hZ.sub [0] [] rfl rfl).call hS hU hW (fun q h => hFc q h)⟩⟩ rfl rfl hl.1 rfl (lv_room (Nat.le_of_ble_eq_true rfl)) dX6_doGoes_9 ⟨Nat.le_of_ble_eq_true rfl, Nat.le_of_ble_eq_true rfl⟩) hS (fun q _ h => hFc q h) hFc (fun r_8 u tC H1 locs htC hvm hw_9 hB hz1 hk1 hS => ?_)
  obtain ⟨mdc9_10, sz_9_11, fEl9_12⟩ := u
  try dsimp only at hw_9 hB
  obtain ⟨hP1, hK1, hD1⟩ := hB
  rw [htC] at hP1
  have hK1 := va_K.moved hvm.symm hK1
  obtain ⟨hP, hD⟩ := va_join (wr := []) (w1 := [(zo1iri bo mdc9_10 aEl (nI sz_9_11)), (zaR aEl cEl 10 fEl9_12)]) hP hD [0, 1] [] rfl rfl (by decide) (by decide) hk1 hFc hP1 hD1
  have hK := (hK.sub (tys' := []) [] rfl).app hK1
  generalize H1 = H at hP hS ⊢
  have hP : va_P (dC, dI) vwCl [(zo1iri bo mdc9_10 aEl (nI sz_9_11)), (zaR aEl cEl 10 fEl9_12)] H := hP
  have hD : va_D A [(zo1iri bo mdc9_10 aEl (nI sz_9_11)), (zaR aEl cEl 10 fEl9_12)] := hD
  have hK : va_K (dC, dI) vwCl [(cEl, .object "java/lang/Object")] s := hK
  obtain ⟨er_13, e_14, hL_15⟩ := hw_9
  obtain rfl := (e_14).symm
  subst er_13
  refine lv_ineg hx hb dX6_doGoes_12 ?_
  rw [hQ]
  have hP9 := hP.sub (ws' := [(zo1iri bo mdc9_10 aEl (nI ((sz_ + 1) + 3))), (zaR aEl cEl 10 fEl9_12)]) [0, 1] rfl
  have hD9 := hD.sub (ws' := [(zo1iri bo mdc9_10 aEl (nI ((sz_ + 1) + 3))), (zaR aEl cEl 10 fEl9_12)]) [0, 1] (by decide) rfl
  have hK9 := hK.sub (tys' := [(cEl, .object "java/lang/Object")]) [0] rfl
  exact W.iret (v := -(((x + nI i0) ^^^ nI i0) - sv)) hx hb hr (fun tQ htQ hWQ => ⟨⟨(-(((x + nI i0) ^^^ nI i0) - sv)), (mdc9_10, ((sz_ + 1) + 3), fEl9_12), rfl, ⟨rfl, by omega, by have h9 := okL_as (hL_15); exact h9⟩, by rw [htQ]; exact hP9, va_K.moved hWQ.alike hK9, hD9⟩, hS.F htQ⟩) hS.2.2 dX6_doGoes_13

set_option maxHeartbeats 4000000 in
set_option maxRecDepth 100000 in
theorem c_X6_doGoes_X9_0 (l : Launch) (dC : Nat → ClassId) (dI : Nat → Nat → Nat) (ad : Nat → Nat) (cB bS : Nat)    (bo : Nat) (i0 : Nat) (sk : Int32) (sv : Int32) (scl : Int32) (x : Int32) (a0 : Nat) (mdc : Int32) (sz : Nat) : Met l yX6_doGoes wsX6_doGoes ({ frames := 6, cells := 1, slots := 10, locals := 131 } : Room) (va_Pc [.ref a0, .int x, .ref bo] (fun U => U.heap.size = sz ∧ va_P (dC, dI) vwCl [(zo1iri bo mdc bS 0)] U.heap ∧ va_K (dC, dI) vwCl [] U ∧ va_D (fun _ => True) [(zo1iri bo mdc bS 0)] ∧ Gi ad cB bS (va_A [(zo1iri bo mdc bS 0)] sz) U ∧ Gb (va_A [(zo1iri bo mdc bS 0)] sz) U ∧ Gw (va_A [(zo1iri bo mdc bS 0)] sz) U ∧ Fz dC dI [(zo11iiii a0 sk (nI i0) sv scl)] [] (va_A [(zo1iri bo mdc bS 0)] sz) U)) (va_Qi (fun (r : Int32) (u : (Int32) × (Nat) × (ClassId) × (Nat) × (Nat → Option Nat)) => match u with | (mdc9, aEl9, cEl9, sz_9, fEl9) => r = -(((x + nI i0) ^^^ nI i0) - sv) ∧ sz_9 = 4 ∧ okL ad fEl9 sz_9 [21, 2, 51, 1]) (fun (u : (Int32) × (Nat) × (ClassId) × (Nat) × (Nat → Option Nat)) (t : State) => match u with | (mdc9, aEl9, cEl9, sz_9, fEl9) => va_P (dC, dI) vwCl [(zo1iri bo mdc9 aEl9 (nI sz_9)), (zaR aEl9 cEl9 10 fEl9)] t.heap ∧ va_K (dC, dI) vwCl [(cEl9, .object "java/lang/Object")] t ∧ va_D (va_A [(zo1iri bo mdc bS 0)] sz) [(zo1iri bo mdc9 aEl9 (nI sz_9)), (zaR aEl9 cEl9 10 fEl9)]) (va_A [(zo1iri bo mdc bS 0)] sz)) 1 10 (va_A [(zo1iri bo mdc bS 0)] sz) := by
  refine met_ofQ (cc := cX6_doGoes) (maxL := 3) (ret := (some .int)) (by decide) rfl ?_
  intro p e s m args below meth c s₁ Q B hml hv hQ
  obtain ⟨rfl, hsz, hP, hK, hD0, hI_, hB_, hW_, hZ⟩ := hv
  have hx := B.exec
  have hb := B.bytes
  have hr := B.returns
  have hts := atoms_spec (ws := wsX6_doGoes) B.pre
  have hown : s.vm.findClass RX6 = some m.cls := findClass_of_methodNamed B.named
  have hlocks := B.notSynchronized
  subst hsz
  have hD := hD0.self (sz := s.heap.size)
  generalize hAe : va_A [(zo1iri bo mdc bS 0)] s.heap.size = A at hD hQ hI_ hB_ hW_ hZ ⊢
  have hA : ∀ q : Nat, s.heap.size ≤ q → A q := fun q h => by rw [← hAe]; exact Or.inr h
  have hS : va_S A s.heap s.heap [] := va_S.rf
  have hl := lv_entry [.ref a0, .int x, .ref bo] (n := 3) (Nat.le_of_ble_eq_true rfl)
  rw [lg_entry_eq]
  generalize (lg_sl [.ref a0, .int x, .ref bo] ++ List.replicate (3 - (lg_sl [.ref a0, .int x, .ref bo]).length) Slot.unset).toArray = ls at hl ⊢
  generalize hag : ([.ref a0, .int x, .ref bo] : List Value).toArray = args at hts hQ ⊢
  have hl : lv_has ls 3 [(0, .ref a0), (1, .int x), (2, .ref bo)] := hl
  obtain ⟨H, hH⟩ : ∃ H : Heap, H = s.heap := ⟨_, rfl⟩
  rw [← hH] at hP
  rw [← hH]
  have hS : va_S A s.heap H [] := by rw [hH]; exact hS
  obtain ⟨locs, hlo⟩ : ∃ L : List Loc, L = [] := ⟨_, rfl⟩
  rw [← hlo] at hS
  rw [← hlo]
  clear hH hlo
  refine lv_bipush (v := 21) hx hb dX6_doGoes_0 (by decide) ?_
  refine lv_aload_n hx hb dX6_doGoes_2 rfl (lv_at hl 2 rfl) ?_
  have hPc := hP.sub (ws' := [(zo1iri bo mdc bS 0)]) [0] rfl
  have hDc := hD.sub (ws' := [(zo1iri bo mdc bS 0)]) [0] (by decide) rfl
  have hKc := hK.sub (tys' := []) [] rfl
  have hFc := va_free (wc := [(zo1iri bo mdc bS 0)]) hD hS hA [0] rfl
  refine va_callv (va_runU2 (As := [.int 21, .ref bo]) (rest := []) ⟨hx, hb, hml, hown, hts⟩ (c_begin0 l dC dI ad cB bS bo mdc 21 H.size (by omega)) (u2_cw (x := xb6) 2 hB_ inb6 rfl rfl rfl rfl rfl (by decide +kernel) ⟨Nat.le_of_ble_eq_true rfl, Nat.le_of_ble_eq_true rfl⟩) ⟨fun a U g mk q => by obtain ⟨q0, q1, qP, qK, qD, qhI_⟩ := q; exact ⟨q0, q1, qP, va_K.moved (u := U) (U := U.calling g mk a) (Vm.Alike.refl U.vm) qK, qD, qhI_.same rfl rfl⟩, fun U hU hW => ⟨rfl, by rw [hU], by rw [hU]; exact hPc, va_K.moved hW.alike hKc, hDc.weaken (fun _ _ _ _ => trivial), hI_.call hS hU hW (fun q h => hFc q h)⟩⟩ rfl rfl hl.1 rfl (lv_room (Nat.le_of_ble_eq_true rfl)) dX6_doGoes_3 ⟨Nat.le_of_ble_eq_true rfl, Nat.le_of_ble_eq_true rfl⟩) hS (fun q _ h => hFc q h) hFc (fun u tC H1 locs htC hvm hw_2 hB hz1 hk1 hS => ?_)
  obtain ⟨mdc9_3, aEl9_4, cEl9_5, sz_9_6, fEl9_7⟩ := u
  try dsimp only at hw_2 hB
  obtain ⟨hP1, hK1, hD1⟩ := hB
  rw [htC] at hP1
  have hK1 := va_K.moved hvm.symm hK1
  obtain ⟨hP, hD⟩ := va_join (wr := []) (w1 := [(zo1iri bo mdc9_3 aEl9_4 (nI sz_9_6)), (zaR aEl9_4 cEl9_5 10 fEl9_7)]) hP hD [0] [] rfl rfl (by decide) (by decide) hk1 hFc hP1 hD1
  have hK := (hK.sub (tys' := []) [] rfl).app hK1
  generalize H1 = H at hP hS ⊢
  have hP : va_P (dC, dI) vwCl [(zo1iri bo mdc9_3 aEl9_4 (nI sz_9_6)), (zaR aEl9_4 cEl9_5 10 fEl9_7)] H := hP
  have hD : va_D A [(zo1iri bo mdc9_3 aEl9_4 (nI sz_9_6)), (zaR aEl9_4 cEl9_5 10 fEl9_7)] := hD
  have hK : va_K (dC, dI) vwCl [(cEl9_5, .object "java/lang/Object")] s := hK
  refine W.widen (k := 1) (n := 10) (by omega) (by omega) ?_
  obtain ⟨e_8, hL_9⟩ := hw_2
  obtain rfl := (e_8).symm
  refine lv_aload_n hx hb dX6_doGoes_6 rfl (lv_at hl 0 rfl) ?_
  refine lv_iload_n hx hb dX6_doGoes_7 rfl (lv_at hl 1 rfl) ?_
  refine lv_aload_n hx hb dX6_doGoes_8 rfl (lv_at hl 2 rfl) ?_
  have hPc := hP.sub (ws' := [(zo1iri bo mdc9_3 aEl9_4 (nI 1)), (zaR aEl9_4 cEl9_5 10 fEl9_7)]) [0, 1] rfl
  have hDc := hD.sub (ws' := [(zo1iri bo mdc9_3 aEl9_4 (nI 1)), (zaR aEl9_4 cEl9_5 10 fEl9_7)]) [0, 1] (by decide) rfl
  have hKc := hK.sub (tys' := [(cEl9_5, .object "java/lang/Object")]) [0] rfl
  have hFc := va_free (wc := [(zo1iri bo mdc9_3 aEl9_4 (nI 1)), (zaR aEl9_4 cEl9_5 10 fEl9_7)]) hD hS hA [0, 1] rfl
  refine va_calli (va_runSU (hZ.2.1.1 11 (RX9, TX9, 4) rfl).2 (As := [.int x, .ref bo]) (rest := []) ⟨hx, hb, hml, hown, hts⟩ (c_X3_doGoes_X9_1 l dC dI ad cB bS    bo aEl9_4 i0 sk sv scl x cEl9_5 fEl9_7 a0 1 mdc9_3 ([21]) H.size (by omega) (hL_9)) (va_cwSU 2 hts gX6_doGoes_X3_doGoes_s17 rfl rfl rfl (by decide +kernel) ⟨Nat.le_of_ble_eq_true rfl, Nat.le_of_ble_eq_true rfl⟩) ⟨fun a U g mk q => by obtain ⟨q0, q1, qP, qK, qD, qhI_, qhB_, qhW_, qhZ⟩ := q; exact ⟨q0, q1, qP, va_K.moved (u := U) (U := U.calling g mk a) (Vm.Alike.refl U.vm) qK, qD, qhI_.same rfl rfl, qhB_.same rfl rfl, qhW_.same rfl rfl, qhZ.same rfl rfl⟩, va_recv hZ.2.1 (hZ.P hS) (ci := 11) (q := (RX9, TX9, 4)) (q0 := 0) rfl rfl, fun U hU hW => ⟨rfl, by rw [hU], by rw [hU]; exact hPc, va_K.moved hW.alike hKc, hDc.weaken (fun _ _ _ _ => trivial), hI_.call hS hU hW (fun q h => hFc q h), hB_.call hS hU hW (fun q h => hFc q h), hW_.call hS hU hW (fun q h => hFc q h), (hZ.sub [0] [] rfl rfl).call hS hU hW (fun q h => hFc q h)⟩⟩ rfl rfl hl.1 rfl (lv_room (Nat.le_of_ble_eq_true rfl)) dX6_doGoes_9 ⟨Nat.le_of_ble_eq_true rfl, Nat.le_of_ble_eq_true rfl⟩) hS (fun q _ h => hFc q h) hFc (fun r_10 u tC H1 locs htC hvm hw_11 hB hz1 hk1 hS => ?_)
  obtain ⟨mdc9_12, sz_9_13, fEl9_14⟩ := u
  try dsimp only at hw_11 hB
  obtain ⟨hP1, hK1, hD1⟩ := hB
  rw [htC] at hP1
  have hK1 := va_K.moved hvm.symm hK1
  obtain ⟨hP, hD⟩ := va_join (wr := []) (w1 := [(zo1iri bo mdc9_12 aEl9_4 (nI sz_9_13)), (zaR aEl9_4 cEl9_5 10 fEl9_14)]) hP hD [0, 1] [] rfl rfl (by decide) (by decide) hk1 hFc hP1 hD1
  have hK := (hK.sub (tys' := []) [] rfl).app hK1
  generalize H1 = H at hP hS ⊢
  have hP : va_P (dC, dI) vwCl [(zo1iri bo mdc9_12 aEl9_4 (nI sz_9_13)), (zaR aEl9_4 cEl9_5 10 fEl9_14)] H := hP
  have hD : va_D A [(zo1iri bo mdc9_12 aEl9_4 (nI sz_9_13)), (zaR aEl9_4 cEl9_5 10 fEl9_14)] := hD
  have hK : va_K (dC, dI) vwCl [(cEl9_5, .object "java/lang/Object")] s := hK
  obtain ⟨er_15, e_16, hL_17⟩ := hw_11
  obtain rfl := (e_16).symm
  subst er_15
  refine lv_ineg hx hb dX6_doGoes_12 ?_
  rw [hQ]
  have hP9 := hP.sub (ws' := [(zo1iri bo mdc9_12 aEl9_4 (nI (1 + 3))), (zaR aEl9_4 cEl9_5 10 fEl9_14)]) [0, 1] rfl
  have hD9 := hD.sub (ws' := [(zo1iri bo mdc9_12 aEl9_4 (nI (1 + 3))), (zaR aEl9_4 cEl9_5 10 fEl9_14)]) [0, 1] (by decide) rfl
  have hK9 := hK.sub (tys' := [(cEl9_5, .object "java/lang/Object")]) [0] rfl
  refine W.widen (k := 1) (n := 10) (by omega) (by omega) ?_
  exact W.iret (v := -(((x + nI i0) ^^^ nI i0) - sv)) hx hb hr (fun tQ htQ hWQ => ⟨⟨(-(((x + nI i0) ^^^ nI i0) - sv)), (mdc9_12, aEl9_4, cEl9_5, (1 + 3), fEl9_14), rfl, ⟨rfl, by omega, hL_17⟩, by rw [htQ]; exact hP9, va_K.moved hWQ.alike hK9, hD9⟩, hS.F htQ⟩) hS.2.2 dX6_doGoes_13

theorem kc_X3_doLooks_X9_1_0 : (.code yX3_doGoes cX3_doGoes 3 (some .int) : Cond) ∈ wsX3_doLooks := kc_of 1049 rfl rfl rfl
set_option maxHeartbeats 4000000 in
set_option maxRecDepth 100000 in
theorem c_X3_doLooks_X9_1 (l : Launch) (dC : Nat → ClassId) (dI : Nat → Nat → Nat) (ad : Nat → Nat) (cB bS : Nat)    (bo : Nat) (aEl : Nat) (i0 : Nat) (sk : Int32) (sv : Int32) (scl : Int32) (x : Int32) (cEl : ClassId) (fEl : Nat → Option Nat) (a0 : Nat) (sz_ : Nat) (mdc : Int32) (tl : List Nat) (sz : Nat) (hsz : sz_ + 5 ≤ 10) (zL : okL ad fEl sz_ tl) : Met l yX3_doLooks wsX3_doLooks ({ frames := 7, cells := 0, slots := 0, locals := 153 } : Room) (va_Pc [.ref a0, .int x, .ref bo] (fun U => U.heap.size = sz ∧ va_P (dC, dI) vwCl [(zo1iri bo mdc aEl (nI sz_)), (zaR aEl cEl 10 fEl)] U.heap ∧ va_K (dC, dI) vwCl [(cEl, .object "java/lang/Object")] U ∧ va_D (fun _ => True) [(zo1iri bo mdc aEl (nI sz_)), (zaR aEl cEl 10 fEl)] ∧ Gi ad cB bS (va_A [(zo1iri bo mdc aEl (nI sz_)), (zaR aEl cEl 10 fEl)] sz) U ∧ Gb (va_A [(zo1iri bo mdc aEl (nI sz_)), (zaR aEl cEl 10 fEl)] sz) U ∧ Gw (va_A [(zo1iri bo mdc aEl (nI sz_)), (zaR aEl cEl 10 fEl)] sz) U ∧ Fz dC dI [(zo11iiii a0 sk (nI i0) sv scl)] [] (va_A [(zo1iri bo mdc aEl (nI sz_)), (zaR aEl cEl 10 fEl)] sz) U)) (va_Qi (fun (r : Int32) (u : (Int32) × (Nat) × (Nat → Option Nat)) => match u with | (mdc9, sz_9, fEl9) => r = (-(((x + nI i0) ^^^ nI i0) - sv)) * 2 ∧ sz_9 = sz_ + 5 ∧ okL ad fEl9 sz_9 (tl ++ [3, 21, 2, 51, 1])) (fun (u : (Int32) × (Nat) × (Nat → Option Nat)) (t : State) => match u with | (mdc9, sz_9, fEl9) => va_P (dC, dI) vwCl [(zo1iri bo mdc9 aEl (nI sz_9)), (zaR aEl cEl 10 fEl9)] t.heap ∧ va_K (dC, dI) vwCl [(cEl, .object "java/lang/Object")] t ∧ va_D (va_A [(zo1iri bo mdc aEl (nI sz_)), (zaR aEl cEl 10 fEl)] sz) [(zo1iri bo mdc9 aEl (nI sz_9)), (zaR aEl cEl 10 fEl9)]) (va_A [(zo1iri bo mdc aEl (nI sz_)), (zaR aEl cEl 10 fEl)] sz)) 0 0 (va_A [(zo1iri bo mdc aEl (nI sz_)), (zaR aEl cEl 10 fEl)] sz) := by
  refine met_ofQ (cc := cX3_doLooks) (maxL := 3) (ret := (some .int)) (by decide) rfl ?_
  intro p e s m args below meth c s₁ Q B hml hv hQ
  obtain ⟨rfl, hsz, hP, hK, hD0, hI_, hB_, hW_, hZ⟩ := hv
  have hx := B.exec
  have hb := B.bytes
  have hr := B.returns
  have hts := atoms_spec (ws := wsX3_doLooks) B.pre
  have hown : s.vm.findClass RX3 = some m.cls := findClass_of_methodNamed B.named
  have hlocks := B.notSynchronized
  subst hsz
  have hD := hD0.self (sz := s.heap.size)
  generalize hAe : va_A [(zo1iri bo mdc aEl (nI sz_)), (zaR aEl cEl 10 fEl)] s.heap.size = A at hD hQ hI_ hB_ hW_ hZ ⊢
  have hA : ∀ q : Nat, s.heap.size ≤ q → A q := fun q h => by rw [← hAe]; exact Or.inr h
  have hS : va_S A s.heap s.heap [] := va_S.rf
  have hl := lv_entry [.ref a0, .int x, .ref bo] (n := 3) (Nat.le_of_ble_eq_true rfl)
  rw [lg_entry_eq]
  generalize (lg_sl [.ref a0, .int x, .ref bo] ++ List.replicate (3 - (lg_sl [.ref a0, .int x, .ref bo]).length) Slot.unset).toArray = ls at hl ⊢
  generalize hag : ([.ref a0, .int x, .ref bo] : List Value).toArray = args at hts hQ ⊢
  have hl : lv_has ls 3 [(0, .ref a0), (1, .int x), (2, .ref bo)] := hl
  obtain ⟨H, hH⟩ : ∃ H : Heap, H = s.heap := ⟨_, rfl⟩
  rw [← hH] at hP
  rw [← hH]
  have hS : va_S A s.heap H [] := by rw [hH]; exact hS
  obtain ⟨locs, hlo⟩ : ∃ L : List Loc, L = [] := ⟨_, rfl⟩
  rw [← hlo] at hS
  rw [← hlo]
  clear hH hlo
  refine lv_iconst (v := 3) hx hb dX3_doLooks_0 (by decide) ?_
  refine lv_aload_n hx hb dX3_doLooks_1 rfl (lv_at hl 2 rfl) ?_
  have hPc := hP.sub (ws' := [(zo1iri bo mdc aEl (nI sz_)), (zaR aEl cEl 10 fEl)]) [0, 1] rfl
  have hDc := hD.sub (ws' := [(zo1iri bo mdc aEl (nI sz_)), (zaR aEl cEl 10 fEl)]) [0, 1] (by decide) rfl
  have hKc := hK.sub (tys' := [(cEl, .object "java/lang/Object")]) [0] rfl
  have hFc := va_free (wc := [(zo1iri bo mdc aEl (nI sz_)), (zaR aEl cEl 10 fEl)]) hD hS hA [0, 1] rfl
  refine va_callv (va_runS (As := [.int 3, .ref bo]) (rest := []) ⟨hx, hb, hml, hown, hts⟩ (c_begin1 l dC dI ad cB bS bo aEl 3 cEl fEl sz_ mdc tl H.size (by omega) (by omega) (zL)) (va_cwS 2 hts gX3_doLooks_X3_begin rfl rfl rfl hd_yX3_begin.2 ⟨Nat.le_of_ble_eq_true rfl, Nat.le_of_ble_eq_true rfl⟩) ⟨fun a U g mk q => by obtain ⟨q0, q1, qP, qK, qD, qhI_⟩ := q; exact ⟨q0, q1, qP, va_K.moved (u := U) (U := U.calling g mk a) (Vm.Alike.refl U.vm) qK, qD, qhI_.same rfl rfl⟩, fun U hU hW => ⟨rfl, by rw [hU], by rw [hU]; exact hPc, va_K.moved hW.alike hKc, hDc.weaken (fun _ _ _ _ => trivial), hI_.call hS hU hW (fun q h => hFc q h)⟩⟩ rfl rfl hl.1 rfl (lv_room (Nat.le_of_ble_eq_true rfl)) dX3_doLooks_2 ⟨Nat.le_of_ble_eq_true rfl, Nat.le_of_ble_eq_true rfl⟩) hS (fun q _ h => hFc q h) hFc (fun u tC H1 locs htC hvm hw_2 hB hz1 hk1 hS => ?_)
  obtain ⟨mdc9_3, sz_9_4, fEl9_5⟩ := u
  try dsimp only at hw_2 hB
  obtain ⟨hP1, hK1, hD1⟩ := hB
  rw [htC] at hP1
  have hK1 := va_K.moved hvm.symm hK1
  obtain ⟨hP, hD⟩ := va_join (wr := []) (w1 := [(zo1iri bo mdc9_3 aEl (nI sz_9_4)), (zaR aEl cEl 10 fEl9_5)]) hP hD [0, 1] [] rfl rfl (by decide) (by decide) hk1 hFc hP1 hD1
  have hK := (hK.sub (tys' := []) [] rfl).app hK1
  generalize H1 = H at hP hS ⊢
  have hP : va_P (dC, dI) vwCl [(zo1iri bo mdc9_3 aEl (nI sz_9_4)), (zaR aEl cEl 10 fEl9_5)] H := hP
  have hD : va_D A [(zo1iri bo mdc9_3 aEl (nI sz_9_4)), (zaR aEl cEl 10 fEl9_5)] := hD
  have hK : va_K (dC, dI) vwCl [(cEl, .object "java/lang/Object")] s := hK
  obtain ⟨e_6, hL_7⟩ := hw_2
  obtain rfl := (e_6).symm
  refine lv_aload_n hx hb dX3_doLooks_5 rfl (lv_at hl 0 rfl) ?_
  refine lv_iload_n hx hb dX3_doLooks_6 rfl (lv_at hl 1 rfl) ?_
  refine lv_aload_n hx hb dX3_doLooks_7 rfl (lv_at hl 2 rfl) ?_
  have hPc := hP.sub (ws' := [(zo1iri bo mdc9_3 aEl (nI (sz_ + 1))), (zaR aEl cEl 10 fEl9_5)]) [0, 1] rfl
  have hDc := hD.sub (ws' := [(zo1iri bo mdc9_3 aEl (nI (sz_ + 1))), (zaR aEl cEl 10 fEl9_5)]) [0, 1] (by decide) rfl
  have hKc := hK.sub (tys' := [(cEl, .object "java/lang/Object")]) [0] rfl
  have hFc := va_free (wc := [(zo1iri bo mdc9_3 aEl (nI (sz_ + 1))), (zaR aEl cEl 10 fEl9_5)]) hD hS hA [0, 1] rfl
  refine va_calli (va_runU (As := [.int x, .ref bo]) (rest := []) ⟨hx, hb, hml, hown, hts⟩ (c_X6_doGoes_X9_1 l dC dI ad cB bS    bo aEl i0 sk sv scl x cEl fEl9_5 a0 (sz_ + 1) mdc9_3 (tl ++ [3]) H.size (by omega) (hL_7)) (va_cwO 2 hts gX3_doLooks_X6_doGoes_u42X9 rfl rfl rfl kc_X3_doLooks_X9_1_0 (by decide +kernel) ⟨Nat.le_of_ble_eq_true rfl, Nat.le_of_ble_eq_true rfl⟩) ⟨fun a U g mk q => by obtain ⟨q0, q1, qP, qK, qD, qhI_, qhB_, qhW_, qhZ⟩ := q; exact ⟨q0, q1, qP, va_K.moved (u := U) (U := U.calling g mk a) (Vm.Alike.refl U.vm) qK, qD, qhI_.same rfl rfl, qhB_.same rfl rfl, qhW_.same rfl rfl, qhZ.same rfl rfl⟩, va_recv hZ.2.1 (hZ.P hS) (ci := 11) (q := (RX9, TX9, 4)) (q0 := 0) rfl rfl, fun U hU hW => ⟨rfl, by rw [hU], by rw [hU]; exact hPc, va_K.moved hW.alike hKc, hDc.weaken (fun _ _ _ _ => trivial), hI_.call hS hU hW (fun q h => hFc q h), hB_.call hS hU hW (fun q h => hFc q h), hW_.call hS hU hW (fun q h => hFc q h), (hZ.sub [0] [] rfl rfl).call hS hU hW (fun q h => hFc q h)⟩⟩ rfl rfl hl.1 rfl (lv_room (Nat.le_of_ble_eq_true rfl)) dX3_doLooks_8 ⟨Nat.le_of_ble_eq_true rfl, Nat.le_of_ble_eq_true rfl⟩) hS (fun q _ h => hFc q h) hFc (fun r_8 u tC H1 locs htC hvm hw_9 hB hz1 hk1 hS => ?_)
  obtain ⟨mdc9_10, sz_9_11, fEl9_12⟩ := u
  try dsimp only at hw_9 hB
  obtain ⟨hP1, hK1, hD1⟩ := hB
  rw [htC] at hP1
  have hK1 := va_K.moved hvm.symm hK1
  obtain ⟨hP, hD⟩ := va_join (wr := []) (w1 := [(zo1iri bo mdc9_10 aEl (nI sz_9_11)), (zaR aEl cEl 10 fEl9_12)]) hP hD [0, 1] [] rfl rfl (by decide) (by decide) hk1 hFc hP1 hD1
  have hK := (hK.sub (tys' := []) [] rfl).app hK1
  generalize H1 = H at hP hS ⊢
  have hP : va_P (dC, dI) vwCl [(zo1iri bo mdc9_10 aEl (nI sz_9_11)), (zaR aEl cEl 10 fEl9_12)] H := hP
  have hD : va_D A [(zo1iri bo mdc9_10 aEl (nI sz_9_11)), (zaR aEl cEl 10 fEl9_12)] := hD
  have hK : va_K (dC, dI) vwCl [(cEl, .object "java/lang/Object")] s := hK
  obtain ⟨er_13, e_14, hL_15⟩ := hw_9
  obtain rfl := (e_14).symm
  subst er_13
  refine lv_iconst (v := 2) hx hb dX3_doLooks_11 (by decide) ?_
  refine lv_imul hx hb dX3_doLooks_12 ?_
  rw [hQ]
  have hP9 := hP.sub (ws' := [(zo1iri bo mdc9_10 aEl (nI ((sz_ + 1) + 4))), (zaR aEl cEl 10 fEl9_12)]) [0, 1] rfl
  have hD9 := hD.sub (ws' := [(zo1iri bo mdc9_10 aEl (nI ((sz_ + 1) + 4))), (zaR aEl cEl 10 fEl9_12)]) [0, 1] (by decide) rfl
  have hK9 := hK.sub (tys' := [(cEl, .object "java/lang/Object")]) [0] rfl
  exact W.iret (v := (-(((x + nI i0) ^^^ nI i0) - sv)) * 2) hx hb hr (fun tQ htQ hWQ => ⟨⟨((-(((x + nI i0) ^^^ nI i0) - sv)) * 2), (mdc9_10, ((sz_ + 1) + 4), fEl9_12), rfl, ⟨rfl, by omega, by have h9 := okL_as (hL_15); exact h9⟩, by rw [htQ]; exact hP9, va_K.moved hWQ.alike hK9, hD9⟩, hS.F htQ⟩) hS.2.2 dX3_doLooks_13

theorem kc_X3_doLooks_X9_0_0 : (.code yX3_doGoes cX3_doGoes 3 (some .int) : Cond) ∈ wsX3_doLooks := kc_of 1049 rfl rfl rfl
set_option maxHeartbeats 4000000 in
set_option maxRecDepth 100000 in
theorem c_X3_doLooks_X9_0 (l : Launch) (dC : Nat → ClassId) (dI : Nat → Nat → Nat) (ad : Nat → Nat) (cB bS : Nat)    (bo : Nat) (i0 : Nat) (sk : Int32) (sv : Int32) (scl : Int32) (x : Int32) (a0 : Nat) (mdc : Int32) (sz : Nat) : Met l yX3_doLooks wsX3_doLooks ({ frames := 7, cells := 1, slots := 10, locals := 153 } : Room) (va_Pc [.ref a0, .int x, .ref bo] (fun U => U.heap.size = sz ∧ va_P (dC, dI) vwCl [(zo1iri bo mdc bS 0)] U.heap ∧ va_K (dC, dI) vwCl [] U ∧ va_D (fun _ => True) [(zo1iri bo mdc bS 0)] ∧ Gi ad cB bS (va_A [(zo1iri bo mdc bS 0)] sz) U ∧ Gb (va_A [(zo1iri bo mdc bS 0)] sz) U ∧ Gw (va_A [(zo1iri bo mdc bS 0)] sz) U ∧ Fz dC dI [(zo11iiii a0 sk (nI i0) sv scl)] [] (va_A [(zo1iri bo mdc bS 0)] sz) U)) (va_Qi (fun (r : Int32) (u : (Int32) × (Nat) × (ClassId) × (Nat) × (Nat → Option Nat)) => match u with | (mdc9, aEl9, cEl9, sz_9, fEl9) => r = (-(((x + nI i0) ^^^ nI i0) - sv)) * 2 ∧ sz_9 = 5 ∧ okL ad fEl9 sz_9 [3, 21, 2, 51, 1]) (fun (u : (Int32) × (Nat) × (ClassId) × (Nat) × (Nat → Option Nat)) (t : State) => match u with | (mdc9, aEl9, cEl9, sz_9, fEl9) => va_P (dC, dI) vwCl [(zo1iri bo mdc9 aEl9 (nI sz_9)), (zaR aEl9 cEl9 10 fEl9)] t.heap ∧ va_K (dC, dI) vwCl [(cEl9, .object "java/lang/Object")] t ∧ va_D (va_A [(zo1iri bo mdc bS 0)] sz) [(zo1iri bo mdc9 aEl9 (nI sz_9)), (zaR aEl9 cEl9 10 fEl9)]) (va_A [(zo1iri bo mdc bS 0)] sz)) 1 10 (va_A [(zo1iri bo mdc bS 0)] sz) := by
  refine met_ofQ (cc := cX3_doLooks) (maxL := 3) (ret := (some .int)) (by decide) rfl ?_
  intro p e s m args below meth c s₁ Q B hml hv hQ
  obtain ⟨rfl, hsz, hP, hK, hD0, hI_, hB_, hW_, hZ⟩ := hv
  have hx := B.exec
  have hb := B.bytes
  have hr := B.returns
  have hts := atoms_spec (ws := wsX3_doLooks) B.pre
  have hown : s.vm.findClass RX3 = some m.cls := findClass_of_methodNamed B.named
  have hlocks := B.notSynchronized
  subst hsz
  have hD := hD0.self (sz := s.heap.size)
  generalize hAe : va_A [(zo1iri bo mdc bS 0)] s.heap.size = A at hD hQ hI_ hB_ hW_ hZ ⊢
  have hA : ∀ q : Nat, s.heap.size ≤ q → A q := fun q h => by rw [← hAe]; exact Or.inr h
  have hS : va_S A s.heap s.heap [] := va_S.rf
  have hl := lv_entry [.ref a0, .int x, .ref bo] (n := 3) (Nat.le_of_ble_eq_true rfl)
  rw [lg_entry_eq]
  generalize (lg_sl [.ref a0, .int x, .ref bo] ++ List.replicate (3 - (lg_sl [.ref a0, .int x, .ref bo]).length) Slot.unset).toArray = ls at hl ⊢
  generalize hag : ([.ref a0, .int x, .ref bo] : List Value).toArray = args at hts hQ ⊢
  have hl : lv_has ls 3 [(0, .ref a0), (1, .int x), (2, .ref bo)] := hl
  obtain ⟨H, hH⟩ : ∃ H : Heap, H = s.heap := ⟨_, rfl⟩
  rw [← hH] at hP
  rw [← hH]
  have hS : va_S A s.heap H [] := by rw [hH]; exact hS
  obtain ⟨locs, hlo⟩ : ∃ L : List Loc, L = [] := ⟨_, rfl⟩
  rw [← hlo] at hS
  rw [← hlo]
  clear hH hlo
  refine lv_iconst (v := 3) hx hb dX3_doLooks_0 (by decide) ?_
  refine lv_aload_n hx hb dX3_doLooks_1 rfl (lv_at hl 2 rfl) ?_
  have hPc := hP.sub (ws' := [(zo1iri bo mdc bS 0)]) [0] rfl
  have hDc := hD.sub (ws' := [(zo1iri bo mdc bS 0)]) [0] (by decide) rfl
  have hKc := hK.sub (tys' := []) [] rfl
  have hFc := va_free (wc := [(zo1iri bo mdc bS 0)]) hD hS hA [0] rfl
  refine va_callv (va_runS (As := [.int 3, .ref bo]) (rest := []) ⟨hx, hb, hml, hown, hts⟩ (c_begin0 l dC dI ad cB bS bo mdc 3 H.size (by omega)) (va_cwS 2 hts gX3_doLooks_X3_begin rfl rfl rfl hd_yX3_begin.2 ⟨Nat.le_of_ble_eq_true rfl, Nat.le_of_ble_eq_true rfl⟩) ⟨fun a U g mk q => by obtain ⟨q0, q1, qP, qK, qD, qhI_⟩ := q; exact ⟨q0, q1, qP, va_K.moved (u := U) (U := U.calling g mk a) (Vm.Alike.refl U.vm) qK, qD, qhI_.same rfl rfl⟩, fun U hU hW => ⟨rfl, by rw [hU], by rw [hU]; exact hPc, va_K.moved hW.alike hKc, hDc.weaken (fun _ _ _ _ => trivial), hI_.call hS hU hW (fun q h => hFc q h)⟩⟩ rfl rfl hl.1 rfl (lv_room (Nat.le_of_ble_eq_true rfl)) dX3_doLooks_2 ⟨Nat.le_of_ble_eq_true rfl, Nat.le_of_ble_eq_true rfl⟩) hS (fun q _ h => hFc q h) hFc (fun u tC H1 locs htC hvm hw_2 hB hz1 hk1 hS => ?_)
  obtain ⟨mdc9_3, aEl9_4, cEl9_5, sz_9_6, fEl9_7⟩ := u
  try dsimp only at hw_2 hB
  obtain ⟨hP1, hK1, hD1⟩ := hB
  rw [htC] at hP1
  have hK1 := va_K.moved hvm.symm hK1
  obtain ⟨hP, hD⟩ := va_join (wr := []) (w1 := [(zo1iri bo mdc9_3 aEl9_4 (nI sz_9_6)), (zaR aEl9_4 cEl9_5 10 fEl9_7)]) hP hD [0] [] rfl rfl (by decide) (by decide) hk1 hFc hP1 hD1
  have hK := (hK.sub (tys' := []) [] rfl).app hK1
  generalize H1 = H at hP hS ⊢
  have hP : va_P (dC, dI) vwCl [(zo1iri bo mdc9_3 aEl9_4 (nI sz_9_6)), (zaR aEl9_4 cEl9_5 10 fEl9_7)] H := hP
  have hD : va_D A [(zo1iri bo mdc9_3 aEl9_4 (nI sz_9_6)), (zaR aEl9_4 cEl9_5 10 fEl9_7)] := hD
  have hK : va_K (dC, dI) vwCl [(cEl9_5, .object "java/lang/Object")] s := hK
  refine W.widen (k := 1) (n := 10) (by omega) (by omega) ?_
  obtain ⟨e_8, hL_9⟩ := hw_2
  obtain rfl := (e_8).symm
  refine lv_aload_n hx hb dX3_doLooks_5 rfl (lv_at hl 0 rfl) ?_
  refine lv_iload_n hx hb dX3_doLooks_6 rfl (lv_at hl 1 rfl) ?_
  refine lv_aload_n hx hb dX3_doLooks_7 rfl (lv_at hl 2 rfl) ?_
  have hPc := hP.sub (ws' := [(zo1iri bo mdc9_3 aEl9_4 (nI 1)), (zaR aEl9_4 cEl9_5 10 fEl9_7)]) [0, 1] rfl
  have hDc := hD.sub (ws' := [(zo1iri bo mdc9_3 aEl9_4 (nI 1)), (zaR aEl9_4 cEl9_5 10 fEl9_7)]) [0, 1] (by decide) rfl
  have hKc := hK.sub (tys' := [(cEl9_5, .object "java/lang/Object")]) [0] rfl
  have hFc := va_free (wc := [(zo1iri bo mdc9_3 aEl9_4 (nI 1)), (zaR aEl9_4 cEl9_5 10 fEl9_7)]) hD hS hA [0, 1] rfl
  refine va_calli (va_runU (As := [.int x, .ref bo]) (rest := []) ⟨hx, hb, hml, hown, hts⟩ (c_X6_doGoes_X9_1 l dC dI ad cB bS    bo aEl9_4 i0 sk sv scl x cEl9_5 fEl9_7 a0 1 mdc9_3 ([3]) H.size (by omega) (hL_9)) (va_cwO 2 hts gX3_doLooks_X6_doGoes_u42X9 rfl rfl rfl kc_X3_doLooks_X9_0_0 (by decide +kernel) ⟨Nat.le_of_ble_eq_true rfl, Nat.le_of_ble_eq_true rfl⟩) ⟨fun a U g mk q => by obtain ⟨q0, q1, qP, qK, qD, qhI_, qhB_, qhW_, qhZ⟩ := q; exact ⟨q0, q1, qP, va_K.moved (u := U) (U := U.calling g mk a) (Vm.Alike.refl U.vm) qK, qD, qhI_.same rfl rfl, qhB_.same rfl rfl, qhW_.same rfl rfl, qhZ.same rfl rfl⟩, va_recv hZ.2.1 (hZ.P hS) (ci := 11) (q := (RX9, TX9, 4)) (q0 := 0) rfl rfl, fun U hU hW => ⟨rfl, by rw [hU], by rw [hU]; exact hPc, va_K.moved hW.alike hKc, hDc.weaken (fun _ _ _ _ => trivial), hI_.call hS hU hW (fun q h => hFc q h), hB_.call hS hU hW (fun q h => hFc q h), hW_.call hS hU hW (fun q h => hFc q h), (hZ.sub [0] [] rfl rfl).call hS hU hW (fun q h => hFc q h)⟩⟩ rfl rfl hl.1 rfl (lv_room (Nat.le_of_ble_eq_true rfl)) dX3_doLooks_8 ⟨Nat.le_of_ble_eq_true rfl, Nat.le_of_ble_eq_true rfl⟩) hS (fun q _ h => hFc q h) hFc (fun r_10 u tC H1 locs htC hvm hw_11 hB hz1 hk1 hS => ?_)
  obtain ⟨mdc9_12, sz_9_13, fEl9_14⟩ := u
  try dsimp only at hw_11 hB
  obtain ⟨hP1, hK1, hD1⟩ := hB
  rw [htC] at hP1
  have hK1 := va_K.moved hvm.symm hK1
  obtain ⟨hP, hD⟩ := va_join (wr := []) (w1 := [(zo1iri bo mdc9_12 aEl9_4 (nI sz_9_13)), (zaR aEl9_4 cEl9_5 10 fEl9_14)]) hP hD [0, 1] [] rfl rfl (by decide) (by decide) hk1 hFc hP1 hD1
  have hK := (hK.sub (tys' := []) [] rfl).app hK1
  generalize H1 = H at hP hS ⊢
  have hP : va_P (dC, dI) vwCl [(zo1iri bo mdc9_12 aEl9_4 (nI sz_9_13)), (zaR aEl9_4 cEl9_5 10 fEl9_14)] H := hP
  have hD : va_D A [(zo1iri bo mdc9_12 aEl9_4 (nI sz_9_13)), (zaR aEl9_4 cEl9_5 10 fEl9_14)] := hD
  have hK : va_K (dC, dI) vwCl [(cEl9_5, .object "java/lang/Object")] s := hK
  obtain ⟨er_15, e_16, hL_17⟩ := hw_11
  obtain rfl := (e_16).symm
  subst er_15
  refine lv_iconst (v := 2) hx hb dX3_doLooks_11 (by decide) ?_
  refine lv_imul hx hb dX3_doLooks_12 ?_
  rw [hQ]
  have hP9 := hP.sub (ws' := [(zo1iri bo mdc9_12 aEl9_4 (nI (1 + 4))), (zaR aEl9_4 cEl9_5 10 fEl9_14)]) [0, 1] rfl
  have hD9 := hD.sub (ws' := [(zo1iri bo mdc9_12 aEl9_4 (nI (1 + 4))), (zaR aEl9_4 cEl9_5 10 fEl9_14)]) [0, 1] (by decide) rfl
  have hK9 := hK.sub (tys' := [(cEl9_5, .object "java/lang/Object")]) [0] rfl
  refine W.widen (k := 1) (n := 10) (by omega) (by omega) ?_
  exact W.iret (v := (-(((x + nI i0) ^^^ nI i0) - sv)) * 2) hx hb hr (fun tQ htQ hWQ => ⟨⟨((-(((x + nI i0) ^^^ nI i0) - sv)) * 2), (mdc9_12, aEl9_4, cEl9_5, (1 + 4), fEl9_14), rfl, ⟨rfl, by omega, hL_17⟩, by rw [htQ]; exact hP9, va_K.moved hWQ.alike hK9, hD9⟩, hS.F htQ⟩) hS.2.2 dX3_doLooks_13

theorem kc_X3_doSees_X7_1_0 : (.fieldLink RX3 15 "MistHeaps$Heap" "number" "I" : Cond) ∈ wsX3_doSees := kc_of 231 rfl rfl rfl
theorem kc_X3_doSees_X7_1_1 : ∀ w ∈ wsX70, w ∈ wsX3_doSees := fun w h => List.mem_cons_of_mem _ (gin_wsX70 w h)
set_option maxHeartbeats 4000000 in
set_option maxRecDepth 100000 in
theorem c_X3_doSees_X7_1 (l : Launch) (dC : Nat → ClassId) (dI : Nat → Nat → Nat) (ad : Nat → Nat) (cB bS : Nat)    (bo : Nat) (aEl : Nat) (i0 : Nat) (sk : Int32) (sv : Int32) (scl : Int32) (x : Int32) (cEl : ClassId) (fEl : Nat → Option Nat) (a0 : Nat) (sz_ : Nat) (mdc : Int32) (tl : List Nat) (sz : Nat) (hsz : sz_ + 1 ≤ 10) (zL : okL ad fEl sz_ tl) : Met l yX3_doSees wsX3_doSees ({ frames := 3, cells := 0, slots := 0, locals := 65 } : Room) (va_Pc [.ref a0, .int x, .ref bo] (fun U => U.heap.size = sz ∧ va_P (dC, dI) vwCl [(zo1iri bo mdc aEl (nI sz_)), (zaR aEl cEl 10 fEl)] U.heap ∧ va_K (dC, dI) vwCl [(cEl, .object "java/lang/Object")] U ∧ va_D (fun _ => True) [(zo1iri bo mdc aEl (nI sz_)), (zaR aEl cEl 10 fEl)] ∧ Gi ad cB bS (va_A [(zo1iri bo mdc aEl (nI sz_)), (zaR aEl cEl 10 fEl)] sz) U ∧ Gb (va_A [(zo1iri bo mdc aEl (nI sz_)), (zaR aEl cEl 10 fEl)] sz) U ∧ Gw (va_A [(zo1iri bo mdc aEl (nI sz_)), (zaR aEl cEl 10 fEl)] sz) U ∧ Fz dC dI [(zo9iiii a0 sk (nI i0) sv scl)] [] (va_A [(zo1iri bo mdc aEl (nI sz_)), (zaR aEl cEl 10 fEl)] sz) U)) (va_Qi (fun (r : Int32) (u : (Int32) × (Nat) × (Nat → Option Nat)) => match u with | (mdc9, sz_9, fEl9) => r = x + nI i0 ∧ sz_9 = sz_ + 1 ∧ okL ad fEl9 sz_9 (tl ++ [1])) (fun (u : (Int32) × (Nat) × (Nat → Option Nat)) (t : State) => match u with | (mdc9, sz_9, fEl9) => va_P (dC, dI) vwCl [(zo1iri bo mdc9 aEl (nI sz_9)), (zaR aEl cEl 10 fEl9)] t.heap ∧ va_K (dC, dI) vwCl [(cEl, .object "java/lang/Object")] t ∧ va_D (va_A [(zo1iri bo mdc aEl (nI sz_)), (zaR aEl cEl 10 fEl)] sz) [(zo1iri bo mdc9 aEl (nI sz_9)), (zaR aEl cEl 10 fEl9)]) (va_A [(zo1iri bo mdc aEl (nI sz_)), (zaR aEl cEl 10 fEl)] sz)) 0 0 (va_A [(zo1iri bo mdc aEl (nI sz_)), (zaR aEl cEl 10 fEl)] sz) := by
  refine met_ofQ (cc := cX3_doSees) (maxL := 3) (ret := (some .int)) (by decide) rfl ?_
  intro p e s m args below meth c s₁ Q B hml hv hQ
  obtain ⟨rfl, hsz, hP, hK, hD0, hI_, hB_, hW_, hZ⟩ := hv
  have hx := B.exec
  have hb := B.bytes
  have hr := B.returns
  have hts := atoms_spec (ws := wsX3_doSees) B.pre
  have hown : s.vm.findClass RX3 = some m.cls := findClass_of_methodNamed B.named
  have hlocks := B.notSynchronized
  subst hsz
  have hD := hD0.self (sz := s.heap.size)
  generalize hAe : va_A [(zo1iri bo mdc aEl (nI sz_)), (zaR aEl cEl 10 fEl)] s.heap.size = A at hD hQ hI_ hB_ hW_ hZ ⊢
  have hA : ∀ q : Nat, s.heap.size ≤ q → A q := fun q h => by rw [← hAe]; exact Or.inr h
  have hS : va_S A s.heap s.heap [] := va_S.rf
  have hl := lv_entry [.ref a0, .int x, .ref bo] (n := 3) (Nat.le_of_ble_eq_true rfl)
  rw [lg_entry_eq]
  generalize (lg_sl [.ref a0, .int x, .ref bo] ++ List.replicate (3 - (lg_sl [.ref a0, .int x, .ref bo]).length) Slot.unset).toArray = ls at hl ⊢
  generalize hag : ([.ref a0, .int x, .ref bo] : List Value).toArray = args at hts hQ ⊢
  have hl : lv_has ls 3 [(0, .ref a0), (1, .int x), (2, .ref bo)] := hl
  obtain ⟨H, hH⟩ : ∃ H : Heap, H = s.heap := ⟨_, rfl⟩
  rw [← hH] at hP
  rw [← hH]
  have hS : va_S A s.heap H [] := by rw [hH]; exact hS
  obtain ⟨locs, hlo⟩ : ∃ L : List Loc, L = [] := ⟨_, rfl⟩
  rw [← hlo] at hS
  rw [← hlo]
  clear hH hlo
  refine lv_iconst (v := 1) hx hb dX3_doSees_0 (by decide) ?_
  refine lv_aload_n hx hb dX3_doSees_1 rfl (lv_at hl 2 rfl) ?_
  have hPc := hP.sub (ws' := [(zo1iri bo mdc aEl (nI sz_)), (zaR aEl cEl 10 fEl)]) [0, 1] rfl
  have hDc := hD.sub (ws' := [(zo1iri bo mdc aEl (nI sz_)), (zaR aEl cEl 10 fEl)]) [0, 1] (by decide) rfl
  have hKc := hK.sub (tys' := [(cEl, .object "java/lang/Object")]) [0] rfl
  have hFc := va_free (wc := [(zo1iri bo mdc aEl (nI sz_)), (zaR aEl cEl 10 fEl)]) hD hS hA [0, 1] rfl
  refine va_callv (va_runS (As := [.int 1, .ref bo]) (rest := []) ⟨hx, hb, hml, hown, hts⟩ (c_begin1 l dC dI ad cB bS bo aEl 1 cEl fEl sz_ mdc tl H.size (by omega) (by omega) (zL)) (va_cwS 2 hts gX3_doSees_X3_begin rfl rfl rfl hd_yX3_begin.2 ⟨Nat.le_of_ble_eq_true rfl, Nat.le_of_ble_eq_true rfl⟩) ⟨fun a U g mk q => by obtain ⟨q0, q1, qP, qK, qD, qhI_⟩ := q; exact ⟨q0, q1, qP, va_K.moved (u := U) (U := U.calling g mk a) (Vm.Alike.refl U.vm) qK, qD, qhI_.same rfl rfl⟩, fun U hU hW => ⟨rfl, by rw [hU], by rw [hU]; exact hPc, va_K.moved hW.alike hKc, hDc.weaken (fun _ _ _ _ => trivial), hI_.call hS hU hW (fun q h => hFc q h)⟩⟩ rfl rfl hl.1 rfl (lv_room (Nat.le_of_ble_eq_true rfl)) dX3_doSees_2 ⟨Nat.le_of_ble_eq_true rfl, Nat.le_of_ble_eq_true rfl⟩) hS (fun q _ h => hFc q h) hFc (fun u tC H1 locs htC hvm hw_2 hB hz1 hk1 hS => ?_)
  obtain ⟨mdc9_3, sz_9_4, fEl9_5⟩ := u
  try dsimp only at hw_2 hB
  obtain ⟨hP1, hK1, hD1⟩ := hB
  rw [htC] at hP1
  have hK1 := va_K.moved hvm.symm hK1
  obtain ⟨hP, hD⟩ := va_join (wr := []) (w1 := [(zo1iri bo mdc9_3 aEl (nI sz_9_4)), (zaR aEl cEl 10 fEl9_5)]) hP hD [0, 1] [] rfl rfl (by decide) (by decide) hk1 hFc hP1 hD1
  have hK := (hK.sub (tys' := []) [] rfl).app hK1
  generalize H1 = H at hP hS ⊢
  have hP : va_P (dC, dI) vwCl [(zo1iri bo mdc9_3 aEl (nI sz_9_4)), (zaR aEl cEl 10 fEl9_5)] H := hP
  have hD : va_D A [(zo1iri bo mdc9_3 aEl (nI sz_9_4)), (zaR aEl cEl 10 fEl9_5)] := hD
  have hK : va_K (dC, dI) vwCl [(cEl, .object "java/lang/Object")] s := hK
  obtain ⟨e_6, hL_7⟩ := hw_2
  obtain rfl := (e_6).symm
  refine lv_iload_n hx hb dX3_doSees_5 rfl (lv_at hl 1 rfl) ?_
  refine lv_aload_n hx hb dX3_doSees_6 rfl (lv_at hl 0 rfl) ?_
  refine va_get (D := (dC, dI)) (ci := 9) (v := .int (nI i0)) (C := RX7) (T := TX7) (N := 4) hx hb hts kc_X3_doSees_X7_1_1 hown hZ.2.1 (hZ.P hS) 0 rfl rfl 1 (by decide) (hts (.fieldLink RX3 15 "MistHeaps$Heap" "number" "I") kc_X3_doSees_X7_1_0) (fun _ h9 => h9) rfl dX3_doSees_7 ?_
  refine lv_iadd hx hb dX3_doSees_10 ?_
  rw [hQ]
  have hP9 := hP.sub (ws' := [(zo1iri bo mdc9_3 aEl (nI (sz_ + 1))), (zaR aEl cEl 10 fEl9_5)]) [0, 1] rfl
  have hD9 := hD.sub (ws' := [(zo1iri bo mdc9_3 aEl (nI (sz_ + 1))), (zaR aEl cEl 10 fEl9_5)]) [0, 1] (by decide) rfl
  have hK9 := hK.sub (tys' := [(cEl, .object "java/lang/Object")]) [0] rfl
  exact W.iret (v := x + (nI i0)) hx hb hr (fun tQ htQ hWQ => ⟨⟨(x + (nI i0)), (mdc9_3, (sz_ + 1), fEl9_5), rfl, ⟨rfl, by omega, by have h9 := hL_7; exact h9⟩, by rw [htQ]; exact hP9, va_K.moved hWQ.alike hK9, hD9⟩, hS.F htQ⟩) hS.2.2 dX3_doSees_11

theorem kc_X3_doSees_X7_0_0 : (.fieldLink RX3 15 "MistHeaps$Heap" "number" "I" : Cond) ∈ wsX3_doSees := kc_of 231 rfl rfl rfl
theorem kc_X3_doSees_X7_0_1 : ∀ w ∈ wsX70, w ∈ wsX3_doSees := fun w h => List.mem_cons_of_mem _ (gin_wsX70 w h)
set_option maxHeartbeats 4000000 in
set_option maxRecDepth 100000 in
theorem c_X3_doSees_X7_0 (l : Launch) (dC : Nat → ClassId) (dI : Nat → Nat → Nat) (ad : Nat → Nat) (cB bS : Nat)    (bo : Nat) (i0 : Nat) (sk : Int32) (sv : Int32) (scl : Int32) (x : Int32) (a0 : Nat) (mdc : Int32) (sz : Nat) : Met l yX3_doSees wsX3_doSees ({ frames := 6, cells := 1, slots := 10, locals := 122 } : Room) (va_Pc [.ref a0, .int x, .ref bo] (fun U => U.heap.size = sz ∧ va_P (dC, dI) vwCl [(zo1iri bo mdc bS 0)] U.heap ∧ va_K (dC, dI) vwCl [] U ∧ va_D (fun _ => True) [(zo1iri bo mdc bS 0)] ∧ Gi ad cB bS (va_A [(zo1iri bo mdc bS 0)] sz) U ∧ Gb (va_A [(zo1iri bo mdc bS 0)] sz) U ∧ Gw (va_A [(zo1iri bo mdc bS 0)] sz) U ∧ Fz dC dI [(zo9iiii a0 sk (nI i0) sv scl)] [] (va_A [(zo1iri bo mdc bS 0)] sz) U)) (va_Qi (fun (r : Int32) (u : (Int32) × (Nat) × (ClassId) × (Nat) × (Nat → Option Nat)) => match u with | (mdc9, aEl9, cEl9, sz_9, fEl9) => r = x + nI i0 ∧ sz_9 = 1 ∧ okL ad fEl9 sz_9 [1]) (fun (u : (Int32) × (Nat) × (ClassId) × (Nat) × (Nat → Option Nat)) (t : State) => match u with | (mdc9, aEl9, cEl9, sz_9, fEl9) => va_P (dC, dI) vwCl [(zo1iri bo mdc9 aEl9 (nI sz_9)), (zaR aEl9 cEl9 10 fEl9)] t.heap ∧ va_K (dC, dI) vwCl [(cEl9, .object "java/lang/Object")] t ∧ va_D (va_A [(zo1iri bo mdc bS 0)] sz) [(zo1iri bo mdc9 aEl9 (nI sz_9)), (zaR aEl9 cEl9 10 fEl9)]) (va_A [(zo1iri bo mdc bS 0)] sz)) 1 10 (va_A [(zo1iri bo mdc bS 0)] sz) := by
  refine met_ofQ (cc := cX3_doSees) (maxL := 3) (ret := (some .int)) (by decide) rfl ?_
  intro p e s m args below meth c s₁ Q B hml hv hQ
  obtain ⟨rfl, hsz, hP, hK, hD0, hI_, hB_, hW_, hZ⟩ := hv
  have hx := B.exec
  have hb := B.bytes
  have hr := B.returns
  have hts := atoms_spec (ws := wsX3_doSees) B.pre
  have hown : s.vm.findClass RX3 = some m.cls := findClass_of_methodNamed B.named
  have hlocks := B.notSynchronized
  subst hsz
  have hD := hD0.self (sz := s.heap.size)
  generalize hAe : va_A [(zo1iri bo mdc bS 0)] s.heap.size = A at hD hQ hI_ hB_ hW_ hZ ⊢
  have hA : ∀ q : Nat, s.heap.size ≤ q → A q := fun q h => by rw [← hAe]; exact Or.inr h
  have hS : va_S A s.heap s.heap [] := va_S.rf
  have hl := lv_entry [.ref a0, .int x, .ref bo] (n := 3) (Nat.le_of_ble_eq_true rfl)
  rw [lg_entry_eq]
  generalize (lg_sl [.ref a0, .int x, .ref bo] ++ List.replicate (3 - (lg_sl [.ref a0, .int x, .ref bo]).length) Slot.unset).toArray = ls at hl ⊢
  generalize hag : ([.ref a0, .int x, .ref bo] : List Value).toArray = args at hts hQ ⊢
  have hl : lv_has ls 3 [(0, .ref a0), (1, .int x), (2, .ref bo)] := hl
  obtain ⟨H, hH⟩ : ∃ H : Heap, H = s.heap := ⟨_, rfl⟩
  rw [← hH] at hP
  rw [← hH]
  have hS : va_S A s.heap H [] := by rw [hH]; exact hS
  obtain ⟨locs, hlo⟩ : ∃ L : List Loc, L = [] := ⟨_, rfl⟩
  rw [← hlo] at hS
  rw [← hlo]
  clear hH hlo
  refine lv_iconst (v := 1) hx hb dX3_doSees_0 (by decide) ?_
  refine lv_aload_n hx hb dX3_doSees_1 rfl (lv_at hl 2 rfl) ?_
  have hPc := hP.sub (ws' := [(zo1iri bo mdc bS 0)]) [0] rfl
  have hDc := hD.sub (ws' := [(zo1iri bo mdc bS 0)]) [0] (by decide) rfl
  have hKc := hK.sub (tys' := []) [] rfl
  have hFc := va_free (wc := [(zo1iri bo mdc bS 0)]) hD hS hA [0] rfl
  refine va_callv (va_runS (As := [.int 1, .ref bo]) (rest := []) ⟨hx, hb, hml, hown, hts⟩ (c_begin0 l dC dI ad cB bS bo mdc 1 H.size (by omega)) (va_cwS 2 hts gX3_doSees_X3_begin rfl rfl rfl hd_yX3_begin.2 ⟨Nat.le_of_ble_eq_true rfl, Nat.le_of_ble_eq_true rfl⟩) ⟨fun a U g mk q => by obtain ⟨q0, q1, qP, qK, qD, qhI_⟩ := q; exact ⟨q0, q1, qP, va_K.moved (u := U) (U := U.calling g mk a) (Vm.Alike.refl U.vm) qK, qD, qhI_.same rfl rfl⟩, fun U hU hW => ⟨rfl, by rw [hU], by rw [hU]; exact hPc, va_K.moved hW.alike hKc, hDc.weaken (fun _ _ _ _ => trivial), hI_.call hS hU hW (fun q h => hFc q h)⟩⟩ rfl rfl hl.1 rfl (lv_room (Nat.le_of_ble_eq_true rfl)) dX3_doSees_2 ⟨Nat.le_of_ble_eq_true rfl, Nat.le_of_ble_eq_true rfl⟩) hS (fun q _ h => hFc q h) hFc (fun u tC H1 locs htC hvm hw_2 hB hz1 hk1 hS => ?_)
  obtain ⟨mdc9_3, aEl9_4, cEl9_5, sz_9_6, fEl9_7⟩ := u
  try dsimp only at hw_2 hB
  obtain ⟨hP1, hK1, hD1⟩ := hB
  rw [htC] at hP1
  have hK1 := va_K.moved hvm.symm hK1
  obtain ⟨hP, hD⟩ := va_join (wr := []) (w1 := [(zo1iri bo mdc9_3 aEl9_4 (nI sz_9_6)), (zaR aEl9_4 cEl9_5 10 fEl9_7)]) hP hD [0] [] rfl rfl (by decide) (by decide) hk1 hFc hP1 hD1
  have hK := (hK.sub (tys' := []) [] rfl).app hK1
  generalize H1 = H at hP hS ⊢
  have hP : va_P (dC, dI) vwCl [(zo1iri bo mdc9_3 aEl9_4 (nI sz_9_6)), (zaR aEl9_4 cEl9_5 10 fEl9_7)] H := hP
  have hD : va_D A [(zo1iri bo mdc9_3 aEl9_4 (nI sz_9_6)), (zaR aEl9_4 cEl9_5 10 fEl9_7)] := hD
  have hK : va_K (dC, dI) vwCl [(cEl9_5, .object "java/lang/Object")] s := hK
  refine W.widen (k := 1) (n := 10) (by omega) (by omega) ?_
  obtain ⟨e_8, hL_9⟩ := hw_2
  obtain rfl := (e_8).symm
  refine lv_iload_n hx hb dX3_doSees_5 rfl (lv_at hl 1 rfl) ?_
  refine lv_aload_n hx hb dX3_doSees_6 rfl (lv_at hl 0 rfl) ?_
  refine va_get (D := (dC, dI)) (ci := 9) (v := .int (nI i0)) (C := RX7) (T := TX7) (N := 4) hx hb hts kc_X3_doSees_X7_0_1 hown hZ.2.1 (hZ.P hS) 0 rfl rfl 1 (by decide) (hts (.fieldLink RX3 15 "MistHeaps$Heap" "number" "I") kc_X3_doSees_X7_0_0) (fun _ h9 => h9) rfl dX3_doSees_7 ?_
  refine lv_iadd hx hb dX3_doSees_10 ?_
  rw [hQ]
  have hP9 := hP.sub (ws' := [(zo1iri bo mdc9_3 aEl9_4 (nI 1)), (zaR aEl9_4 cEl9_5 10 fEl9_7)]) [0, 1] rfl
  have hD9 := hD.sub (ws' := [(zo1iri bo mdc9_3 aEl9_4 (nI 1)), (zaR aEl9_4 cEl9_5 10 fEl9_7)]) [0, 1] (by decide) rfl
  have hK9 := hK.sub (tys' := [(cEl9_5, .object "java/lang/Object")]) [0] rfl
  refine W.widen (k := 1) (n := 10) (by omega) (by omega) ?_
  exact W.iret (v := x + (nI i0)) hx hb hr (fun tQ htQ hWQ => ⟨⟨(x + (nI i0)), (mdc9_3, aEl9_4, cEl9_5, 1, fEl9_7), rfl, ⟨rfl, by omega, hL_9⟩, by rw [htQ]; exact hP9, va_K.moved hWQ.alike hK9, hD9⟩, hS.F htQ⟩) hS.2.2 dX3_doSees_11

theorem kc_X3_doGoes_X7_1_0 : (.fieldLink RX3 18 "MistHeaps$Heap" "v" "I" : Cond) ∈ wsX3_doGoes := kc_of 236 rfl rfl rfl
theorem kc_X3_doGoes_X7_1_1 : ∀ w ∈ wsX70, w ∈ wsX3_doGoes := fun w h => List.mem_cons_of_mem _ (gin_wsX70 w h)
set_option maxHeartbeats 4000000 in
set_option maxRecDepth 100000 in
theorem c_X3_doGoes_X7_1 (l : Launch) (dC : Nat → ClassId) (dI : Nat → Nat → Nat) (ad : Nat → Nat) (cB bS : Nat)    (bo : Nat) (aEl : Nat) (i0 : Nat) (sk : Int32) (sv : Int32) (scl : Int32) (x : Int32) (cEl : ClassId) (fEl : Nat → Option Nat) (a0 : Nat) (sz_ : Nat) (mdc : Int32) (tl : List Nat) (sz : Nat) (hsz : sz_ + 2 ≤ 10) (zL : okL ad fEl sz_ tl) : Met l yX3_doGoes wsX3_doGoes ({ frames := 4, cells := 0, slots := 0, locals := 87 } : Room) (va_Pc [.ref a0, .int x, .ref bo] (fun U => U.heap.size = sz ∧ va_P (dC, dI) vwCl [(zo1iri bo mdc aEl (nI sz_)), (zaR aEl cEl 10 fEl)] U.heap ∧ va_K (dC, dI) vwCl [(cEl, .object "java/lang/Object")] U ∧ va_D (fun _ => True) [(zo1iri bo mdc aEl (nI sz_)), (zaR aEl cEl 10 fEl)] ∧ Gi ad cB bS (va_A [(zo1iri bo mdc aEl (nI sz_)), (zaR aEl cEl 10 fEl)] sz) U ∧ Gb (va_A [(zo1iri bo mdc aEl (nI sz_)), (zaR aEl cEl 10 fEl)] sz) U ∧ Gw (va_A [(zo1iri bo mdc aEl (nI sz_)), (zaR aEl cEl 10 fEl)] sz) U ∧ Fz dC dI [(zo9iiii a0 sk (nI i0) sv scl)] [] (va_A [(zo1iri bo mdc aEl (nI sz_)), (zaR aEl cEl 10 fEl)] sz) U)) (va_Qi (fun (r : Int32) (u : (Int32) × (Nat) × (Nat → Option Nat)) => match u with | (mdc9, sz_9, fEl9) => r = (x + nI i0) - sv ∧ sz_9 = sz_ + 2 ∧ okL ad fEl9 sz_9 (tl ++ [2, 1])) (fun (u : (Int32) × (Nat) × (Nat → Option Nat)) (t : State) => match u with | (mdc9, sz_9, fEl9) => va_P (dC, dI) vwCl [(zo1iri bo mdc9 aEl (nI sz_9)), (zaR aEl cEl 10 fEl9)] t.heap ∧ va_K (dC, dI) vwCl [(cEl, .object "java/lang/Object")] t ∧ va_D (va_A [(zo1iri bo mdc aEl (nI sz_)), (zaR aEl cEl 10 fEl)] sz) [(zo1iri bo mdc9 aEl (nI sz_9)), (zaR aEl cEl 10 fEl9)]) (va_A [(zo1iri bo mdc aEl (nI sz_)), (zaR aEl cEl 10 fEl)] sz)) 0 0 (va_A [(zo1iri bo mdc aEl (nI sz_)), (zaR aEl cEl 10 fEl)] sz) := by
  refine met_ofQ (cc := cX3_doGoes) (maxL := 3) (ret := (some .int)) (by decide) rfl ?_
  intro p e s m args below meth c s₁ Q B hml hv hQ
  obtain ⟨rfl, hsz, hP, hK, hD0, hI_, hB_, hW_, hZ⟩ := hv
  have hx := B.exec
  have hb := B.bytes
  have hr := B.returns
  have hts := atoms_spec (ws := wsX3_doGoes) B.pre
  have hown : s.vm.findClass RX3 = some m.cls := findClass_of_methodNamed B.named
  have hlocks := B.notSynchronized
  subst hsz
  have hD := hD0.self (sz := s.heap.size)
  generalize hAe : va_A [(zo1iri bo mdc aEl (nI sz_)), (zaR aEl cEl 10 fEl)] s.heap.size = A at hD hQ hI_ hB_ hW_ hZ ⊢
  have hA : ∀ q : Nat, s.heap.size ≤ q → A q := fun q h => by rw [← hAe]; exact Or.inr h
  have hS : va_S A s.heap s.heap [] := va_S.rf
  have hl := lv_entry [.ref a0, .int x, .ref bo] (n := 3) (Nat.le_of_ble_eq_true rfl)
  rw [lg_entry_eq]
  generalize (lg_sl [.ref a0, .int x, .ref bo] ++ List.replicate (3 - (lg_sl [.ref a0, .int x, .ref bo]).length) Slot.unset).toArray = ls at hl ⊢
  generalize hag : ([.ref a0, .int x, .ref bo] : List Value).toArray = args at hts hQ ⊢
  have hl : lv_has ls 3 [(0, .ref a0), (1, .int x), (2, .ref bo)] := hl
  obtain ⟨H, hH⟩ : ∃ H : Heap, H = s.heap := ⟨_, rfl⟩
  rw [← hH] at hP
  rw [← hH]
  have hS : va_S A s.heap H [] := by rw [hH]; exact hS
  obtain ⟨locs, hlo⟩ : ∃ L : List Loc, L = [] := ⟨_, rfl⟩
  rw [← hlo] at hS
  rw [← hlo]
  clear hH hlo
  refine lv_iconst (v := 2) hx hb dX3_doGoes_0 (by decide) ?_
  refine lv_aload_n hx hb dX3_doGoes_1 rfl (lv_at hl 2 rfl) ?_
  have hPc := hP.sub (ws' := [(zo1iri bo mdc aEl (nI sz_)), (zaR aEl cEl 10 fEl)]) [0, 1] rfl
  have hDc := hD.sub (ws' := [(zo1iri bo mdc aEl (nI sz_)), (zaR aEl cEl 10 fEl)]) [0, 1] (by decide) rfl
  have hKc := hK.sub (tys' := [(cEl, .object "java/lang/Object")]) [0] rfl
  have hFc := va_free (wc := [(zo1iri bo mdc aEl (nI sz_)), (zaR aEl cEl 10 fEl)]) hD hS hA [0, 1] rfl
  refine va_callv (va_runS (As := [.int 2, .ref bo]) (rest := []) ⟨hx, hb, hml, hown, hts⟩ (c_begin1 l dC dI ad cB bS bo aEl 2 cEl fEl sz_ mdc tl H.size (by omega) (by omega) (zL)) (va_cwS 2 hts gX3_doGoes_X3_begin rfl rfl rfl hd_yX3_begin.2 ⟨Nat.le_of_ble_eq_true rfl, Nat.le_of_ble_eq_true rfl⟩) ⟨fun a U g mk q => by obtain ⟨q0, q1, qP, qK, qD, qhI_⟩ := q; exact ⟨q0, q1, qP, va_K.moved (u := U) (U := U.calling g mk a) (Vm.Alike.refl U.vm) qK, qD, qhI_.same rfl rfl⟩, fun U hU hW => ⟨rfl, by rw [hU], by rw [hU]; exact hPc, va_K.moved hW.alike hKc, hDc.weaken (fun _ _ _ _ => trivial), hI_.call hS hU hW (fun q h => hFc q h)⟩⟩ rfl rfl hl.1 rfl (lv_room (Nat.le_of_ble_eq_true rfl)) dX3_doGoes_2 ⟨Nat.le_of_ble_eq_true rfl, Nat.le_of_ble_eq_true rfl⟩) hS (fun q _ h => hFc q h) hFc (fun u tC H1 locs htC hvm hw_2 hB hz1 hk1 hS => ?_)
  obtain ⟨mdc9_3, sz_9_4, fEl9_5⟩ := u
  try dsimp only at hw_2 hB
  obtain ⟨hP1, hK1, hD1⟩ := hB
  rw [htC] at hP1
  have hK1 := va_K.moved hvm.symm hK1
  obtain ⟨hP, hD⟩ := va_join (wr := []) (w1 := [(zo1iri bo mdc9_3 aEl (nI sz_9_4)), (zaR aEl cEl 10 fEl9_5)]) hP hD [0, 1] [] rfl rfl (by decide) (by decide) hk1 hFc hP1 hD1
  have hK := (hK.sub (tys' := []) [] rfl).app hK1
  generalize H1 = H at hP hS ⊢
  have hP : va_P (dC, dI) vwCl [(zo1iri bo mdc9_3 aEl (nI sz_9_4)), (zaR aEl cEl 10 fEl9_5)] H := hP
  have hD : va_D A [(zo1iri bo mdc9_3 aEl (nI sz_9_4)), (zaR aEl cEl 10 fEl9_5)] := hD
  have hK : va_K (dC, dI) vwCl [(cEl, .object "java/lang/Object")] s := hK
  obtain ⟨e_6, hL_7⟩ := hw_2
  obtain rfl := (e_6).symm
  refine lv_aload_n hx hb dX3_doGoes_5 rfl (lv_at hl 0 rfl) ?_
  refine lv_iload_n hx hb dX3_doGoes_6 rfl (lv_at hl 1 rfl) ?_
  refine lv_aload_n hx hb dX3_doGoes_7 rfl (lv_at hl 2 rfl) ?_
  have hPc := hP.sub (ws' := [(zo1iri bo mdc9_3 aEl (nI (sz_ + 1))), (zaR aEl cEl 10 fEl9_5)]) [0, 1] rfl
  have hDc := hD.sub (ws' := [(zo1iri bo mdc9_3 aEl (nI (sz_ + 1))), (zaR aEl cEl 10 fEl9_5)]) [0, 1] (by decide) rfl
  have hKc := hK.sub (tys' := [(cEl, .object "java/lang/Object")]) [0] rfl
  have hFc := va_free (wc := [(zo1iri bo mdc9_3 aEl (nI (sz_ + 1))), (zaR aEl cEl 10 fEl9_5)]) hD hS hA [0, 1] rfl
  refine va_calli (va_runU (As := [.int x, .ref bo]) (rest := []) ⟨hx, hb, hml, hown, hts⟩ (c_X3_doSees_X7_1 l dC dI ad cB bS    bo aEl i0 sk sv scl x cEl fEl9_5 a0 (sz_ + 1) mdc9_3 (tl ++ [2]) H.size (by omega) (hL_7)) (va_cwU 2 hts gX3_doGoes_X3_doSees_u38X7 rfl rfl rfl rfl (by decide +kernel) ⟨Nat.le_of_ble_eq_true rfl, Nat.le_of_ble_eq_true rfl⟩) ⟨fun a U g mk q => by obtain ⟨q0, q1, qP, qK, qD, qhI_, qhB_, qhW_, qhZ⟩ := q; exact ⟨q0, q1, qP, va_K.moved (u := U) (U := U.calling g mk a) (Vm.Alike.refl U.vm) qK, qD, qhI_.same rfl rfl, qhB_.same rfl rfl, qhW_.same rfl rfl, qhZ.same rfl rfl⟩, va_recv hZ.2.1 (hZ.P hS) (ci := 9) (q := (RX7, TX7, 4)) (q0 := 0) rfl rfl, fun U hU hW => ⟨rfl, by rw [hU], by rw [hU]; exact hPc, va_K.moved hW.alike hKc, hDc.weaken (fun _ _ _ _ => trivial), hI_.call hS hU hW (fun q h => hFc q h), hB_.call hS hU hW (fun q h => hFc q h), hW_.call hS hU hW (fun q h => hFc q h), (hZ.sub [0] [] rfl rfl).call hS hU hW (fun q h => hFc q h)⟩⟩ rfl rfl hl.1 rfl (lv_room (Nat.le_of_ble_eq_true rfl)) dX3_doGoes_8 ⟨Nat.le_of_ble_eq_true rfl, Nat.le_of_ble_eq_true rfl⟩) hS (fun q _ h => hFc q h) hFc (fun r_8 u tC H1 locs htC hvm hw_9 hB hz1 hk1 hS => ?_)
  obtain ⟨mdc9_10, sz_9_11, fEl9_12⟩ := u
  try dsimp only at hw_9 hB
  obtain ⟨hP1, hK1, hD1⟩ := hB
  rw [htC] at hP1
  have hK1 := va_K.moved hvm.symm hK1
  obtain ⟨hP, hD⟩ := va_join (wr := []) (w1 := [(zo1iri bo mdc9_10 aEl (nI sz_9_11)), (zaR aEl cEl 10 fEl9_12)]) hP hD [0, 1] [] rfl rfl (by decide) (by decide) hk1 hFc hP1 hD1
  have hK := (hK.sub (tys' := []) [] rfl).app hK1
  generalize H1 = H at hP hS ⊢
  have hP : va_P (dC, dI) vwCl [(zo1iri bo mdc9_10 aEl (nI sz_9_11)), (zaR aEl cEl 10 fEl9_12)] H := hP
  have hD : va_D A [(zo1iri bo mdc9_10 aEl (nI sz_9_11)), (zaR aEl cEl 10 fEl9_12)] := hD
  have hK : va_K (dC, dI) vwCl [(cEl, .object "java/lang/Object")] s := hK
  obtain ⟨er_13, e_14, hL_15⟩ := hw_9
  obtain rfl := (e_14).symm
  subst er_13
  refine lv_aload_n hx hb dX3_doGoes_11 rfl (lv_at hl 0 rfl) ?_
  refine va_get (D := (dC, dI)) (ci := 9) (v := .int sv) (C := RX7) (T := TX7) (N := 4) hx hb hts kc_X3_doGoes_X7_1_1 hown hZ.2.1 (hZ.P hS) 0 rfl rfl 2 (by decide) (hts (.fieldLink RX3 18 "MistHeaps$Heap" "v" "I") kc_X3_doGoes_X7_1_0) (fun _ h9 => h9) rfl dX3_doGoes_12 ?_
  refine lv_isub hx hb dX3_doGoes_15 ?_
  rw [hQ]
  have hP9 := hP.sub (ws' := [(zo1iri bo mdc9_10 aEl (nI ((sz_ + 1) + 1))), (zaR aEl cEl 10 fEl9_12)]) [0, 1] rfl
  have hD9 := hD.sub (ws' := [(zo1iri bo mdc9_10 aEl (nI ((sz_ + 1) + 1))), (zaR aEl cEl 10 fEl9_12)]) [0, 1] (by decide) rfl
  have hK9 := hK.sub (tys' := [(cEl, .object "java/lang/Object")]) [0] rfl
  exact W.iret (v := (x + nI i0) - sv) hx hb hr (fun tQ htQ hWQ => ⟨⟨((x + nI i0) - sv), (mdc9_10, ((sz_ + 1) + 1), fEl9_12), rfl, ⟨rfl, by omega, by have h9 := okL_as (hL_15); exact h9⟩, by rw [htQ]; exact hP9, va_K.moved hWQ.alike hK9, hD9⟩, hS.F htQ⟩) hS.2.2 dX3_doGoes_16

theorem kc_X3_doGoes_X7_0_0 : (.fieldLink RX3 18 "MistHeaps$Heap" "v" "I" : Cond) ∈ wsX3_doGoes := kc_of 236 rfl rfl rfl
theorem kc_X3_doGoes_X7_0_1 : ∀ w ∈ wsX70, w ∈ wsX3_doGoes := fun w h => List.mem_cons_of_mem _ (gin_wsX70 w h)
set_option maxHeartbeats 4000000 in
set_option maxRecDepth 100000 in
theorem c_X3_doGoes_X7_0 (l : Launch) (dC : Nat → ClassId) (dI : Nat → Nat → Nat) (ad : Nat → Nat) (cB bS : Nat)    (bo : Nat) (i0 : Nat) (sk : Int32) (sv : Int32) (scl : Int32) (x : Int32) (a0 : Nat) (mdc : Int32) (sz : Nat) : Met l yX3_doGoes wsX3_doGoes ({ frames := 6, cells := 1, slots := 10, locals := 122 } : Room) (va_Pc [.ref a0, .int x, .ref bo] (fun U => U.heap.size = sz ∧ va_P (dC, dI) vwCl [(zo1iri bo mdc bS 0)] U.heap ∧ va_K (dC, dI) vwCl [] U ∧ va_D (fun _ => True) [(zo1iri bo mdc bS 0)] ∧ Gi ad cB bS (va_A [(zo1iri bo mdc bS 0)] sz) U ∧ Gb (va_A [(zo1iri bo mdc bS 0)] sz) U ∧ Gw (va_A [(zo1iri bo mdc bS 0)] sz) U ∧ Fz dC dI [(zo9iiii a0 sk (nI i0) sv scl)] [] (va_A [(zo1iri bo mdc bS 0)] sz) U)) (va_Qi (fun (r : Int32) (u : (Int32) × (Nat) × (ClassId) × (Nat) × (Nat → Option Nat)) => match u with | (mdc9, aEl9, cEl9, sz_9, fEl9) => r = (x + nI i0) - sv ∧ sz_9 = 2 ∧ okL ad fEl9 sz_9 [2, 1]) (fun (u : (Int32) × (Nat) × (ClassId) × (Nat) × (Nat → Option Nat)) (t : State) => match u with | (mdc9, aEl9, cEl9, sz_9, fEl9) => va_P (dC, dI) vwCl [(zo1iri bo mdc9 aEl9 (nI sz_9)), (zaR aEl9 cEl9 10 fEl9)] t.heap ∧ va_K (dC, dI) vwCl [(cEl9, .object "java/lang/Object")] t ∧ va_D (va_A [(zo1iri bo mdc bS 0)] sz) [(zo1iri bo mdc9 aEl9 (nI sz_9)), (zaR aEl9 cEl9 10 fEl9)]) (va_A [(zo1iri bo mdc bS 0)] sz)) 1 10 (va_A [(zo1iri bo mdc bS 0)] sz) := by
  refine met_ofQ (cc := cX3_doGoes) (maxL := 3) (ret := (some .int)) (by decide) rfl ?_
  intro p e s m args below meth c s₁ Q B hml hv hQ
  obtain ⟨rfl, hsz, hP, hK, hD0, hI_, hB_, hW_, hZ⟩ := hv
  have hx := B.exec
  have hb := B.bytes
  have hr := B.returns
  have hts := atoms_spec (ws := wsX3_doGoes) B.pre
  have hown : s.vm.findClass RX3 = some m.cls := findClass_of_methodNamed B.named
  have hlocks := B.notSynchronized
  subst hsz
  have hD := hD0.self (sz := s.heap.size)
  generalize hAe : va_A [(zo1iri bo mdc bS 0)] s.heap.size = A at hD hQ hI_ hB_ hW_ hZ ⊢
  have hA : ∀ q : Nat, s.heap.size ≤ q → A q := fun q h => by rw [← hAe]; exact Or.inr h
  have hS : va_S A s.heap s.heap [] := va_S.rf
  have hl := lv_entry [.ref a0, .int x, .ref bo] (n := 3) (Nat.le_of_ble_eq_true rfl)
  rw [lg_entry_eq]
  generalize (lg_sl [.ref a0, .int x, .ref bo] ++ List.replicate (3 - (lg_sl [.ref a0, .int x, .ref bo]).length) Slot.unset).toArray = ls at hl ⊢
  generalize hag : ([.ref a0, .int x, .ref bo] : List Value).toArray = args at hts hQ ⊢
  have hl : lv_has ls 3 [(0, .ref a0), (1, .int x), (2, .ref bo)] := hl
  obtain ⟨H, hH⟩ : ∃ H : Heap, H = s.heap := ⟨_, rfl⟩
  rw [← hH] at hP
  rw [← hH]
  have hS : va_S A s.heap H [] := by rw [hH]; exact hS
  obtain ⟨locs, hlo⟩ : ∃ L : List Loc, L = [] := ⟨_, rfl⟩
  rw [← hlo] at hS
  rw [← hlo]
  clear hH hlo
  refine lv_iconst (v := 2) hx hb dX3_doGoes_0 (by decide) ?_
  refine lv_aload_n hx hb dX3_doGoes_1 rfl (lv_at hl 2 rfl) ?_
  have hPc := hP.sub (ws' := [(zo1iri bo mdc bS 0)]) [0] rfl
  have hDc := hD.sub (ws' := [(zo1iri bo mdc bS 0)]) [0] (by decide) rfl
  have hKc := hK.sub (tys' := []) [] rfl
  have hFc := va_free (wc := [(zo1iri bo mdc bS 0)]) hD hS hA [0] rfl
  refine va_callv (va_runS (As := [.int 2, .ref bo]) (rest := []) ⟨hx, hb, hml, hown, hts⟩ (c_begin0 l dC dI ad cB bS bo mdc 2 H.size (by omega)) (va_cwS 2 hts gX3_doGoes_X3_begin rfl rfl rfl hd_yX3_begin.2 ⟨Nat.le_of_ble_eq_true rfl, Nat.le_of_ble_eq_true rfl⟩) ⟨fun a U g mk q => by obtain ⟨q0, q1, qP, qK, qD, qhI_⟩ := q; exact ⟨q0, q1, qP, va_K.moved (u := U) (U := U.calling g mk a) (Vm.Alike.refl U.vm) qK, qD, qhI_.same rfl rfl⟩, fun U hU hW => ⟨rfl, by rw [hU], by rw [hU]; exact hPc, va_K.moved hW.alike hKc, hDc.weaken (fun _ _ _ _ => trivial), hI_.call hS hU hW (fun q h => hFc q h)⟩⟩ rfl rfl hl.1 rfl (lv_room (Nat.le_of_ble_eq_true rfl)) dX3_doGoes_2 ⟨Nat.le_of_ble_eq_true rfl, Nat.le_of_ble_eq_true rfl⟩) hS (fun q _ h => hFc q h) hFc (fun u tC H1 locs htC hvm hw_2 hB hz1 hk1 hS => ?_)
  obtain ⟨mdc9_3, aEl9_4, cEl9_5, sz_9_6, fEl9_7⟩ := u
  try dsimp only at hw_2 hB
  obtain ⟨hP1, hK1, hD1⟩ := hB
  rw [htC] at hP1
  have hK1 := va_K.moved hvm.symm hK1
  obtain ⟨hP, hD⟩ := va_join (wr := []) (w1 := [(zo1iri bo mdc9_3 aEl9_4 (nI sz_9_6)), (zaR aEl9_4 cEl9_5 10 fEl9_7)]) hP hD [0] [] rfl rfl (by decide) (by decide) hk1 hFc hP1 hD1
  have hK := (hK.sub (tys' := []) [] rfl).app hK1
  generalize H1 = H at hP hS ⊢
  have hP : va_P (dC, dI) vwCl [(zo1iri bo mdc9_3 aEl9_4 (nI sz_9_6)), (zaR aEl9_4 cEl9_5 10 fEl9_7)] H := hP
  have hD : va_D A [(zo1iri bo mdc9_3 aEl9_4 (nI sz_9_6)), (zaR aEl9_4 cEl9_5 10 fEl9_7)] := hD
  have hK : va_K (dC, dI) vwCl [(cEl9_5, .object "java/lang/Object")] s := hK
  refine W.widen (k := 1) (n := 10) (by omega) (by omega) ?_
  obtain ⟨e_8, hL_9⟩ := hw_2
  obtain rfl := (e_8).symm
  refine lv_aload_n hx hb dX3_doGoes_5 rfl (lv_at hl 0 rfl) ?_
  refine lv_iload_n hx hb dX3_doGoes_6 rfl (lv_at hl 1 rfl) ?_
  refine lv_aload_n hx hb dX3_doGoes_7 rfl (lv_at hl 2 rfl) ?_
  have hPc := hP.sub (ws' := [(zo1iri bo mdc9_3 aEl9_4 (nI 1)), (zaR aEl9_4 cEl9_5 10 fEl9_7)]) [0, 1] rfl
  have hDc := hD.sub (ws' := [(zo1iri bo mdc9_3 aEl9_4 (nI 1)), (zaR aEl9_4 cEl9_5 10 fEl9_7)]) [0, 1] (by decide) rfl
  have hKc := hK.sub (tys' := [(cEl9_5, .object "java/lang/Object")]) [0] rfl
  have hFc := va_free (wc := [(zo1iri bo mdc9_3 aEl9_4 (nI 1)), (zaR aEl9_4 cEl9_5 10 fEl9_7)]) hD hS hA [0, 1] rfl
  refine va_calli (va_runU (As := [.int x, .ref bo]) (rest := []) ⟨hx, hb, hml, hown, hts⟩ (c_X3_doSees_X7_1 l dC dI ad cB bS    bo aEl9_4 i0 sk sv scl x cEl9_5 fEl9_7 a0 1 mdc9_3 ([2]) H.size (by omega) (hL_9)) (va_cwU 2 hts gX3_doGoes_X3_doSees_u38X7 rfl rfl rfl rfl (by decide +kernel) ⟨Nat.le_of_ble_eq_true rfl, Nat.le_of_ble_eq_true rfl⟩) ⟨fun a U g mk q => by obtain ⟨q0, q1, qP, qK, qD, qhI_, qhB_, qhW_, qhZ⟩ := q; exact ⟨q0, q1, qP, va_K.moved (u := U) (U := U.calling g mk a) (Vm.Alike.refl U.vm) qK, qD, qhI_.same rfl rfl, qhB_.same rfl rfl, qhW_.same rfl rfl, qhZ.same rfl rfl⟩, va_recv hZ.2.1 (hZ.P hS) (ci := 9) (q := (RX7, TX7, 4)) (q0 := 0) rfl rfl, fun U hU hW => ⟨rfl, by rw [hU], by rw [hU]; exact hPc, va_K.moved hW.alike hKc, hDc.weaken (fun _ _ _ _ => trivial), hI_.call hS hU hW (fun q h => hFc q h), hB_.call hS hU hW (fun q h => hFc q h), hW_.call hS hU hW (fun q h => hFc q h), (hZ.sub [0] [] rfl rfl).call hS hU hW (fun q h => hFc q h)⟩⟩ rfl rfl hl.1 rfl (lv_room (Nat.le_of_ble_eq_true rfl)) dX3_doGoes_8 ⟨Nat.le_of_ble_eq_true rfl, Nat.le_of_ble_eq_true rfl⟩) hS (fun q _ h => hFc q h) hFc (fun r_10 u tC H1 locs htC hvm hw_11 hB hz1 hk1 hS => ?_)
  obtain ⟨mdc9_12, sz_9_13, fEl9_14⟩ := u
  try dsimp only at hw_11 hB
  obtain ⟨hP1, hK1, hD1⟩ := hB
  rw [htC] at hP1
  have hK1 := va_K.moved hvm.symm hK1
  obtain ⟨hP, hD⟩ := va_join (wr := []) (w1 := [(zo1iri bo mdc9_12 aEl9_4 (nI sz_9_13)), (zaR aEl9_4 cEl9_5 10 fEl9_14)]) hP hD [0, 1] [] rfl rfl (by decide) (by decide) hk1 hFc hP1 hD1
  have hK := (hK.sub (tys' := []) [] rfl).app hK1
  generalize H1 = H at hP hS ⊢
  have hP : va_P (dC, dI) vwCl [(zo1iri bo mdc9_12 aEl9_4 (nI sz_9_13)), (zaR aEl9_4 cEl9_5 10 fEl9_14)] H := hP
  have hD : va_D A [(zo1iri bo mdc9_12 aEl9_4 (nI sz_9_13)), (zaR aEl9_4 cEl9_5 10 fEl9_14)] := hD
  have hK : va_K (dC, dI) vwCl [(cEl9_5, .object "java/lang/Object")] s := hK
  obtain ⟨er_15, e_16, hL_17⟩ := hw_11
  obtain rfl := (e_16).symm
  subst er_15
  refine lv_aload_n hx hb dX3_doGoes_11 rfl (lv_at hl 0 rfl) ?_
  refine va_get (D := (dC, dI)) (ci := 9) (v := .int sv) (C := RX7) (T := TX7) (N := 4) hx hb hts kc_X3_doGoes_X7_0_1 hown hZ.2.1 (hZ.P hS) 0 rfl rfl 2 (by decide) (hts (.fieldLink RX3 18 "MistHeaps$Heap" "v" "I") kc_X3_doGoes_X7_0_0) (fun _ h9 => h9) rfl dX3_doGoes_12 ?_
  refine lv_isub hx hb dX3_doGoes_15 ?_
  rw [hQ]
  have hP9 := hP.sub (ws' := [(zo1iri bo mdc9_12 aEl9_4 (nI (1 + 1))), (zaR aEl9_4 cEl9_5 10 fEl9_14)]) [0, 1] rfl
  have hD9 := hD.sub (ws' := [(zo1iri bo mdc9_12 aEl9_4 (nI (1 + 1))), (zaR aEl9_4 cEl9_5 10 fEl9_14)]) [0, 1] (by decide) rfl
  have hK9 := hK.sub (tys' := [(cEl9_5, .object "java/lang/Object")]) [0] rfl
  refine W.widen (k := 1) (n := 10) (by omega) (by omega) ?_
  exact W.iret (v := (x + nI i0) - sv) hx hb hr (fun tQ htQ hWQ => ⟨⟨((x + nI i0) - sv), (mdc9_12, aEl9_4, cEl9_5, (1 + 1), fEl9_14), rfl, ⟨rfl, by omega, hL_17⟩, by rw [htQ]; exact hP9, va_K.moved hWQ.alike hK9, hD9⟩, hS.F htQ⟩) hS.2.2 dX3_doGoes_16

theorem kc_X7_doGoes_X7_1_0 : (.fieldLink RX7 26 "MistHeaps$Old" "v" "I" : Cond) ∈ wsX7_doGoes := kc_of 243 rfl rfl rfl
theorem kc_X7_doGoes_X7_1_1 : ∀ w ∈ wsX70, w ∈ wsX7_doGoes := fun w h => List.mem_cons_of_mem _ (gin_wsX70 w h)
theorem kc_X7_doGoes_X7_1_2 : (.sameField "MistHeaps$Old" "MistHeaps$Heap" "v" "I" : Cond) ∈ wsX7_doGoes := kc_of 244 rfl rfl rfl
set_option maxHeartbeats 4000000 in
set_option maxRecDepth 100000 in
theorem c_X7_doGoes_X7_1 (l : Launch) (dC : Nat → ClassId) (dI : Nat → Nat → Nat) (ad : Nat → Nat) (cB bS : Nat)    (bo : Nat) (aEl : Nat) (i0 : Nat) (sk : Int32) (sv : Int32) (scl : Int32) (x : Int32) (cEl : ClassId) (fEl : Nat → Option Nat) (a0 : Nat) (sz_ : Nat) (mdc : Int32) (tl : List Nat) (sz : Nat) (hsz : sz_ + 3 ≤ 10) (zL : okL ad fEl sz_ tl) : Met l yX7_doGoes wsX7_doGoes ({ frames := 5, cells := 0, slots := 0, locals := 109 } : Room) (va_Pc [.ref a0, .int x, .ref bo] (fun U => U.heap.size = sz ∧ va_P (dC, dI) vwCl [(zo1iri bo mdc aEl (nI sz_)), (zaR aEl cEl 10 fEl)] U.heap ∧ va_K (dC, dI) vwCl [(cEl, .object "java/lang/Object")] U ∧ va_D (fun _ => True) [(zo1iri bo mdc aEl (nI sz_)), (zaR aEl cEl 10 fEl)] ∧ Gi ad cB bS (va_A [(zo1iri bo mdc aEl (nI sz_)), (zaR aEl cEl 10 fEl)] sz) U ∧ Gb (va_A [(zo1iri bo mdc aEl (nI sz_)), (zaR aEl cEl 10 fEl)] sz) U ∧ Gw (va_A [(zo1iri bo mdc aEl (nI sz_)), (zaR aEl cEl 10 fEl)] sz) U ∧ Fz dC dI [(zo9iiii a0 sk (nI i0) sv scl)] [] (va_A [(zo1iri bo mdc aEl (nI sz_)), (zaR aEl cEl 10 fEl)] sz) U)) (va_Qi (fun (r : Int32) (u : (Int32) × (Nat) × (Nat → Option Nat)) => match u with | (mdc9, sz_9, fEl9) => r = ((x + nI i0) - sv) + sv ∧ sz_9 = sz_ + 3 ∧ okL ad fEl9 sz_9 (tl ++ [61, 2, 1])) (fun (u : (Int32) × (Nat) × (Nat → Option Nat)) (t : State) => match u with | (mdc9, sz_9, fEl9) => va_P (dC, dI) vwCl [(zo1iri bo mdc9 aEl (nI sz_9)), (zaR aEl cEl 10 fEl9)] t.heap ∧ va_K (dC, dI) vwCl [(cEl, .object "java/lang/Object")] t ∧ va_D (va_A [(zo1iri bo mdc aEl (nI sz_)), (zaR aEl cEl 10 fEl)] sz) [(zo1iri bo mdc9 aEl (nI sz_9)), (zaR aEl cEl 10 fEl9)]) (va_A [(zo1iri bo mdc aEl (nI sz_)), (zaR aEl cEl 10 fEl)] sz)) 0 0 (va_A [(zo1iri bo mdc aEl (nI sz_)), (zaR aEl cEl 10 fEl)] sz) := by
  refine met_ofQ (cc := cX7_doGoes) (maxL := 3) (ret := (some .int)) (by decide) rfl ?_
  intro p e s m args below meth c s₁ Q B hml hv hQ
  obtain ⟨rfl, hsz, hP, hK, hD0, hI_, hB_, hW_, hZ⟩ := hv
  have hx := B.exec
  have hb := B.bytes
  have hr := B.returns
  have hts := atoms_spec (ws := wsX7_doGoes) B.pre
  have hown : s.vm.findClass RX7 = some m.cls := findClass_of_methodNamed B.named
  have hlocks := B.notSynchronized
  subst hsz
  have hD := hD0.self (sz := s.heap.size)
  generalize hAe : va_A [(zo1iri bo mdc aEl (nI sz_)), (zaR aEl cEl 10 fEl)] s.heap.size = A at hD hQ hI_ hB_ hW_ hZ ⊢
  have hA : ∀ q : Nat, s.heap.size ≤ q → A q := fun q h => by rw [← hAe]; exact Or.inr h
  have hS : va_S A s.heap s.heap [] := va_S.rf
  have hl := lv_entry [.ref a0, .int x, .ref bo] (n := 3) (Nat.le_of_ble_eq_true rfl)
  rw [lg_entry_eq]
  generalize (lg_sl [.ref a0, .int x, .ref bo] ++ List.replicate (3 - (lg_sl [.ref a0, .int x, .ref bo]).length) Slot.unset).toArray = ls at hl ⊢
  generalize hag : ([.ref a0, .int x, .ref bo] : List Value).toArray = args at hts hQ ⊢
  have hl : lv_has ls 3 [(0, .ref a0), (1, .int x), (2, .ref bo)] := hl
  obtain ⟨H, hH⟩ : ∃ H : Heap, H = s.heap := ⟨_, rfl⟩
  rw [← hH] at hP
  rw [← hH]
  have hS : va_S A s.heap H [] := by rw [hH]; exact hS
  obtain ⟨locs, hlo⟩ : ∃ L : List Loc, L = [] := ⟨_, rfl⟩
  rw [← hlo] at hS
  rw [← hlo]
  clear hH hlo
  refine lv_bipush (v := 61) hx hb dX7_doGoes_0 (by decide) ?_
  refine lv_aload_n hx hb dX7_doGoes_2 rfl (lv_at hl 2 rfl) ?_
  have hPc := hP.sub (ws' := [(zo1iri bo mdc aEl (nI sz_)), (zaR aEl cEl 10 fEl)]) [0, 1] rfl
  have hDc := hD.sub (ws' := [(zo1iri bo mdc aEl (nI sz_)), (zaR aEl cEl 10 fEl)]) [0, 1] (by decide) rfl
  have hKc := hK.sub (tys' := [(cEl, .object "java/lang/Object")]) [0] rfl
  have hFc := va_free (wc := [(zo1iri bo mdc aEl (nI sz_)), (zaR aEl cEl 10 fEl)]) hD hS hA [0, 1] rfl
  refine va_callv (va_runU2 (As := [.int 61, .ref bo]) (rest := []) ⟨hx, hb, hml, hown, hts⟩ (c_begin1 l dC dI ad cB bS bo aEl 61 cEl fEl sz_ mdc tl H.size (by omega) (by omega) (zL)) (u2_cw (x := xb7) 2 hB_ inb7 rfl rfl rfl rfl rfl (by decide +kernel) ⟨Nat.le_of_ble_eq_true rfl, Nat.le_of_ble_eq_true rfl⟩) ⟨fun a U g mk q => by obtain ⟨q0, q1, qP, qK, qD, qhI_⟩ := q; exact ⟨q0, q1, qP, va_K.moved (u := U) (U := U.calling g mk a) (Vm.Alike.refl U.vm) qK, qD, qhI_.same rfl rfl⟩, fun U hU hW => ⟨rfl, by rw [hU], by rw [hU]; exact hPc, va_K.moved hW.alike hKc, hDc.weaken (fun _ _ _ _ => trivial), hI_.call hS hU hW (fun q h => hFc q h)⟩⟩ rfl rfl hl.1 rfl (lv_room (Nat.le_of_ble_eq_true rfl)) dX7_doGoes_3 ⟨Nat.le_of_ble_eq_true rfl, Nat.le_of_ble_eq_true rfl⟩) hS (fun q _ h => hFc q h) hFc (fun u tC H1 locs htC hvm hw_2 hB hz1 hk1 hS => ?_)
  obtain ⟨mdc9_3, sz_9_4, fEl9_5⟩ := u
  try dsimp only at hw_2 hB
  obtain ⟨hP1, hK1, hD1⟩ := hB
  rw [htC] at hP1
  have hK1 := va_K.moved hvm.symm hK1
  obtain ⟨hP, hD⟩ := va_join (wr := []) (w1 := [(zo1iri bo mdc9_3 aEl (nI sz_9_4)), (zaR aEl cEl 10 fEl9_5)]) hP hD [0, 1] [] rfl rfl (by decide) (by decide) hk1 hFc hP1 hD1
  have hK := (hK.sub (tys' := []) [] rfl).app hK1
  generalize H1 = H at hP hS ⊢
  have hP : va_P (dC, dI) vwCl [(zo1iri bo mdc9_3 aEl (nI sz_9_4)), (zaR aEl cEl 10 fEl9_5)] H := hP
  have hD : va_D A [(zo1iri bo mdc9_3 aEl (nI sz_9_4)), (zaR aEl cEl 10 fEl9_5)] := hD
  have hK : va_K (dC, dI) vwCl [(cEl, .object "java/lang/Object")] s := hK
  obtain ⟨e_6, hL_7⟩ := hw_2
  obtain rfl := (e_6).symm
  refine lv_aload_n hx hb dX7_doGoes_6 rfl (lv_at hl 0 rfl) ?_
  refine lv_iload_n hx hb dX7_doGoes_7 rfl (lv_at hl 1 rfl) ?_
  refine lv_aload_n hx hb dX7_doGoes_8 rfl (lv_at hl 2 rfl) ?_
  have hPc := hP.sub (ws' := [(zo1iri bo mdc9_3 aEl (nI (sz_ + 1))), (zaR aEl cEl 10 fEl9_5)]) [0, 1] rfl
  have hDc := hD.sub (ws' := [(zo1iri bo mdc9_3 aEl (nI (sz_ + 1))), (zaR aEl cEl 10 fEl9_5)]) [0, 1] (by decide) rfl
  have hKc := hK.sub (tys' := [(cEl, .object "java/lang/Object")]) [0] rfl
  have hFc := va_free (wc := [(zo1iri bo mdc9_3 aEl (nI (sz_ + 1))), (zaR aEl cEl 10 fEl9_5)]) hD hS hA [0, 1] rfl
  refine va_calli (va_runS2 (hZ.2.1.1 9 (RX7, TX7, 4) rfl).2 (As := [.int x, .ref bo]) (rest := []) ⟨hx, hb, hml, hown, hts⟩ (c_X3_doGoes_X7_1 l dC dI ad cB bS    bo aEl i0 sk sv scl x cEl fEl9_5 a0 (sz_ + 1) mdc9_3 (tl ++ [61]) H.size (by omega) (hL_7)) (s2_cw (x := x7g) 2 hW_ in7g rfl rfl rfl rfl rfl (by decide +kernel) ⟨Nat.le_of_ble_eq_true rfl, Nat.le_of_ble_eq_true rfl⟩) ⟨fun a U g mk q => by obtain ⟨q0, q1, qP, qK, qD, qhI_, qhB_, qhW_, qhZ⟩ := q; exact ⟨q0, q1, qP, va_K.moved (u := U) (U := U.calling g mk a) (Vm.Alike.refl U.vm) qK, qD, qhI_.same rfl rfl, qhB_.same rfl rfl, qhW_.same rfl rfl, qhZ.same rfl rfl⟩, va_recv hZ.2.1 (hZ.P hS) (ci := 9) (q := (RX7, TX7, 4)) (q0 := 0) rfl rfl, fun U hU hW => ⟨rfl, by rw [hU], by rw [hU]; exact hPc, va_K.moved hW.alike hKc, hDc.weaken (fun _ _ _ _ => trivial), hI_.call hS hU hW (fun q h => hFc q h), hB_.call hS hU hW (fun q h => hFc q h), hW_.call hS hU hW (fun q h => hFc q h), (hZ.sub [0] [] rfl rfl).call hS hU hW (fun q h => hFc q h)⟩⟩ rfl rfl hl.1 rfl (lv_room (Nat.le_of_ble_eq_true rfl)) dX7_doGoes_9 ⟨Nat.le_of_ble_eq_true rfl, Nat.le_of_ble_eq_true rfl⟩) hS (fun q _ h => hFc q h) hFc (fun r_8 u tC H1 locs htC hvm hw_9 hB hz1 hk1 hS => ?_)
  obtain ⟨mdc9_10, sz_9_11, fEl9_12⟩ := u
  try dsimp only at hw_9 hB
  obtain ⟨hP1, hK1, hD1⟩ := hB
  rw [htC] at hP1
  have hK1 := va_K.moved hvm.symm hK1
  obtain ⟨hP, hD⟩ := va_join (wr := []) (w1 := [(zo1iri bo mdc9_10 aEl (nI sz_9_11)), (zaR aEl cEl 10 fEl9_12)]) hP hD [0, 1] [] rfl rfl (by decide) (by decide) hk1 hFc hP1 hD1
  have hK := (hK.sub (tys' := []) [] rfl).app hK1
  generalize H1 = H at hP hS ⊢
  have hP : va_P (dC, dI) vwCl [(zo1iri bo mdc9_10 aEl (nI sz_9_11)), (zaR aEl cEl 10 fEl9_12)] H := hP
  have hD : va_D A [(zo1iri bo mdc9_10 aEl (nI sz_9_11)), (zaR aEl cEl 10 fEl9_12)] := hD
  have hK : va_K (dC, dI) vwCl [(cEl, .object "java/lang/Object")] s := hK
  obtain ⟨er_13, e_14, hL_15⟩ := hw_9
  obtain rfl := (e_14).symm
  subst er_13
  refine lv_aload_n hx hb dX7_doGoes_12 rfl (lv_at hl 0 rfl) ?_
  refine va_get (D := (dC, dI)) (ci := 9) (v := .int sv) (C := RX7) (T := TX7) (N := 4) hx hb hts kc_X7_doGoes_X7_1_1 hown hZ.2.1 (hZ.P hS) 0 rfl rfl 2 (by decide) (hts (.fieldLink RX7 26 "MistHeaps$Old" "v" "I") kc_X7_doGoes_X7_1_0) (fun x h => u_same (hts (.sameField "MistHeaps$Old" "MistHeaps$Heap" "v" "I") kc_X7_doGoes_X7_1_2) x h) rfl dX7_doGoes_13 ?_
  refine lv_iadd hx hb dX7_doGoes_16 ?_
  rw [hQ]
  have hP9 := hP.sub (ws' := [(zo1iri bo mdc9_10 aEl (nI ((sz_ + 1) + 2))), (zaR aEl cEl 10 fEl9_12)]) [0, 1] rfl
  have hD9 := hD.sub (ws' := [(zo1iri bo mdc9_10 aEl (nI ((sz_ + 1) + 2))), (zaR aEl cEl 10 fEl9_12)]) [0, 1] (by decide) rfl
  have hK9 := hK.sub (tys' := [(cEl, .object "java/lang/Object")]) [0] rfl
  exact W.iret (v := ((x + nI i0) - sv) + sv) hx hb hr (fun tQ htQ hWQ => ⟨⟨(((x + nI i0) - sv) + sv), (mdc9_10, ((sz_ + 1) + 2), fEl9_12), rfl, ⟨rfl, by omega, by have h9 := okL_as (hL_15); exact h9⟩, by rw [htQ]; exact hP9, va_K.moved hWQ.alike hK9, hD9⟩, hS.F htQ⟩) hS.2.2 dX7_doGoes_17

theorem kc_X7_doGoes_X7_0_0 : (.fieldLink RX7 26 "MistHeaps$Old" "v" "I" : Cond) ∈ wsX7_doGoes := kc_of 243 rfl rfl rfl
theorem kc_X7_doGoes_X7_0_1 : ∀ w ∈ wsX70, w ∈ wsX7_doGoes := fun w h => List.mem_cons_of_mem _ (gin_wsX70 w h)
theorem kc_X7_doGoes_X7_0_2 : (.sameField "MistHeaps$Old" "MistHeaps$Heap" "v" "I" : Cond) ∈ wsX7_doGoes := kc_of 244 rfl rfl rfl
set_option maxHeartbeats 4000000 in
set_option maxRecDepth 100000 in
theorem c_X7_doGoes_X7_0 (l : Launch) (dC : Nat → ClassId) (dI : Nat → Nat → Nat) (ad : Nat → Nat) (cB bS : Nat)    (bo : Nat) (i0 : Nat) (sk : Int32) (sv : Int32) (scl : Int32) (x : Int32) (a0 : Nat) (mdc : Int32) (sz : Nat) : Met l yX7_doGoes wsX7_doGoes ({ frames := 6, cells := 1, slots := 10, locals := 122 } : Room) (va_Pc [.ref a0, .int x, .ref bo] (fun U => U.heap.size = sz ∧ va_P (dC, dI) vwCl [(zo1iri bo mdc bS 0)] U.heap ∧ va_K (dC, dI) vwCl [] U ∧ va_D (fun _ => True) [(zo1iri bo mdc bS 0)] ∧ Gi ad cB bS (va_A [(zo1iri bo mdc bS 0)] sz) U ∧ Gb (va_A [(zo1iri bo mdc bS 0)] sz) U ∧ Gw (va_A [(zo1iri bo mdc bS 0)] sz) U ∧ Fz dC dI [(zo9iiii a0 sk (nI i0) sv scl)] [] (va_A [(zo1iri bo mdc bS 0)] sz) U)) (va_Qi (fun (r : Int32) (u : (Int32) × (Nat) × (ClassId) × (Nat) × (Nat → Option Nat)) => match u with | (mdc9, aEl9, cEl9, sz_9, fEl9) => r = ((x + nI i0) - sv) + sv ∧ sz_9 = 3 ∧ okL ad fEl9 sz_9 [61, 2, 1]) (fun (u : (Int32) × (Nat) × (ClassId) × (Nat) × (Nat → Option Nat)) (t : State) => match u with | (mdc9, aEl9, cEl9, sz_9, fEl9) => va_P (dC, dI) vwCl [(zo1iri bo mdc9 aEl9 (nI sz_9)), (zaR aEl9 cEl9 10 fEl9)] t.heap ∧ va_K (dC, dI) vwCl [(cEl9, .object "java/lang/Object")] t ∧ va_D (va_A [(zo1iri bo mdc bS 0)] sz) [(zo1iri bo mdc9 aEl9 (nI sz_9)), (zaR aEl9 cEl9 10 fEl9)]) (va_A [(zo1iri bo mdc bS 0)] sz)) 1 10 (va_A [(zo1iri bo mdc bS 0)] sz) := by
  refine met_ofQ (cc := cX7_doGoes) (maxL := 3) (ret := (some .int)) (by decide) rfl ?_
  intro p e s m args below meth c s₁ Q B hml hv hQ
  obtain ⟨rfl, hsz, hP, hK, hD0, hI_, hB_, hW_, hZ⟩ := hv
  have hx := B.exec
  have hb := B.bytes
  have hr := B.returns
  have hts := atoms_spec (ws := wsX7_doGoes) B.pre
  have hown : s.vm.findClass RX7 = some m.cls := findClass_of_methodNamed B.named
  have hlocks := B.notSynchronized
  subst hsz
  have hD := hD0.self (sz := s.heap.size)
  generalize hAe : va_A [(zo1iri bo mdc bS 0)] s.heap.size = A at hD hQ hI_ hB_ hW_ hZ ⊢
  have hA : ∀ q : Nat, s.heap.size ≤ q → A q := fun q h => by rw [← hAe]; exact Or.inr h
  have hS : va_S A s.heap s.heap [] := va_S.rf
  have hl := lv_entry [.ref a0, .int x, .ref bo] (n := 3) (Nat.le_of_ble_eq_true rfl)
  rw [lg_entry_eq]
  generalize (lg_sl [.ref a0, .int x, .ref bo] ++ List.replicate (3 - (lg_sl [.ref a0, .int x, .ref bo]).length) Slot.unset).toArray = ls at hl ⊢
  generalize hag : ([.ref a0, .int x, .ref bo] : List Value).toArray = args at hts hQ ⊢
  have hl : lv_has ls 3 [(0, .ref a0), (1, .int x), (2, .ref bo)] := hl
  obtain ⟨H, hH⟩ : ∃ H : Heap, H = s.heap := ⟨_, rfl⟩
  rw [← hH] at hP
  rw [← hH]
  have hS : va_S A s.heap H [] := by rw [hH]; exact hS
  obtain ⟨locs, hlo⟩ : ∃ L : List Loc, L = [] := ⟨_, rfl⟩
  rw [← hlo] at hS
  rw [← hlo]
  clear hH hlo
  refine lv_bipush (v := 61) hx hb dX7_doGoes_0 (by decide) ?_
  refine lv_aload_n hx hb dX7_doGoes_2 rfl (lv_at hl 2 rfl) ?_
  have hPc := hP.sub (ws' := [(zo1iri bo mdc bS 0)]) [0] rfl
  have hDc := hD.sub (ws' := [(zo1iri bo mdc bS 0)]) [0] (by decide) rfl
  have hKc := hK.sub (tys' := []) [] rfl
  have hFc := va_free (wc := [(zo1iri bo mdc bS 0)]) hD hS hA [0] rfl
  refine va_callv (va_runU2 (As := [.int 61, .ref bo]) (rest := []) ⟨hx, hb, hml, hown, hts⟩ (c_begin0 l dC dI ad cB bS bo mdc 61 H.size (by omega)) (u2_cw (x := xb7) 2 hB_ inb7 rfl rfl rfl rfl rfl (by decide +kernel) ⟨Nat.le_of_ble_eq_true rfl, Nat.le_of_ble_eq_true rfl⟩) ⟨fun a U g mk q => by obtain ⟨q0, q1, qP, qK, qD, qhI_⟩ := q; exact ⟨q0, q1, qP, va_K.moved (u := U) (U := U.calling g mk a) (Vm.Alike.refl U.vm) qK, qD, qhI_.same rfl rfl⟩, fun U hU hW => ⟨rfl, by rw [hU], by rw [hU]; exact hPc, va_K.moved hW.alike hKc, hDc.weaken (fun _ _ _ _ => trivial), hI_.call hS hU hW (fun q h => hFc q h)⟩⟩ rfl rfl hl.1 rfl (lv_room (Nat.le_of_ble_eq_true rfl)) dX7_doGoes_3 ⟨Nat.le_of_ble_eq_true rfl, Nat.le_of_ble_eq_true rfl⟩) hS (fun q _ h => hFc q h) hFc (fun u tC H1 locs htC hvm hw_2 hB hz1 hk1 hS => ?_)
  obtain ⟨mdc9_3, aEl9_4, cEl9_5, sz_9_6, fEl9_7⟩ := u
  try dsimp only at hw_2 hB
  obtain ⟨hP1, hK1, hD1⟩ := hB
  rw [htC] at hP1
  have hK1 := va_K.moved hvm.symm hK1
  obtain ⟨hP, hD⟩ := va_join (wr := []) (w1 := [(zo1iri bo mdc9_3 aEl9_4 (nI sz_9_6)), (zaR aEl9_4 cEl9_5 10 fEl9_7)]) hP hD [0] [] rfl rfl (by decide) (by decide) hk1 hFc hP1 hD1
  have hK := (hK.sub (tys' := []) [] rfl).app hK1
  generalize H1 = H at hP hS ⊢
  have hP : va_P (dC, dI) vwCl [(zo1iri bo mdc9_3 aEl9_4 (nI sz_9_6)), (zaR aEl9_4 cEl9_5 10 fEl9_7)] H := hP
  have hD : va_D A [(zo1iri bo mdc9_3 aEl9_4 (nI sz_9_6)), (zaR aEl9_4 cEl9_5 10 fEl9_7)] := hD
  have hK : va_K (dC, dI) vwCl [(cEl9_5, .object "java/lang/Object")] s := hK
  refine W.widen (k := 1) (n := 10) (by omega) (by omega) ?_
  obtain ⟨e_8, hL_9⟩ := hw_2
  obtain rfl := (e_8).symm
  refine lv_aload_n hx hb dX7_doGoes_6 rfl (lv_at hl 0 rfl) ?_
  refine lv_iload_n hx hb dX7_doGoes_7 rfl (lv_at hl 1 rfl) ?_
  refine lv_aload_n hx hb dX7_doGoes_8 rfl (lv_at hl 2 rfl) ?_
  have hPc := hP.sub (ws' := [(zo1iri bo mdc9_3 aEl9_4 (nI 1)), (zaR aEl9_4 cEl9_5 10 fEl9_7)]) [0, 1] rfl
  have hDc := hD.sub (ws' := [(zo1iri bo mdc9_3 aEl9_4 (nI 1)), (zaR aEl9_4 cEl9_5 10 fEl9_7)]) [0, 1] (by decide) rfl
  have hKc := hK.sub (tys' := [(cEl9_5, .object "java/lang/Object")]) [0] rfl
  have hFc := va_free (wc := [(zo1iri bo mdc9_3 aEl9_4 (nI 1)), (zaR aEl9_4 cEl9_5 10 fEl9_7)]) hD hS hA [0, 1] rfl
  refine va_calli (va_runS2 (hZ.2.1.1 9 (RX7, TX7, 4) rfl).2 (As := [.int x, .ref bo]) (rest := []) ⟨hx, hb, hml, hown, hts⟩ (c_X3_doGoes_X7_1 l dC dI ad cB bS    bo aEl9_4 i0 sk sv scl x cEl9_5 fEl9_7 a0 1 mdc9_3 ([61]) H.size (by omega) (hL_9)) (s2_cw (x := x7g) 2 hW_ in7g rfl rfl rfl rfl rfl (by decide +kernel) ⟨Nat.le_of_ble_eq_true rfl, Nat.le_of_ble_eq_true rfl⟩) ⟨fun a U g mk q => by obtain ⟨q0, q1, qP, qK, qD, qhI_, qhB_, qhW_, qhZ⟩ := q; exact ⟨q0, q1, qP, va_K.moved (u := U) (U := U.calling g mk a) (Vm.Alike.refl U.vm) qK, qD, qhI_.same rfl rfl, qhB_.same rfl rfl, qhW_.same rfl rfl, qhZ.same rfl rfl⟩, va_recv hZ.2.1 (hZ.P hS) (ci := 9) (q := (RX7, TX7, 4)) (q0 := 0) rfl rfl, fun U hU hW => ⟨rfl, by rw [hU], by rw [hU]; exact hPc, va_K.moved hW.alike hKc, hDc.weaken (fun _ _ _ _ => trivial), hI_.call hS hU hW (fun q h => hFc q h), hB_.call hS hU hW (fun q h => hFc q h), hW_.call hS hU hW (fun q h => hFc q h), (hZ.sub [0] [] rfl rfl).call hS hU hW (fun q h => hFc q h)⟩⟩ rfl rfl hl.1 rfl (lv_room (Nat.le_of_ble_eq_true rfl)) dX7_doGoes_9 ⟨Nat.le_of_ble_eq_true rfl, Nat.le_of_ble_eq_true rfl⟩) hS (fun q _ h => hFc q h) hFc (fun r_10 u tC H1 locs htC hvm hw_11 hB hz1 hk1 hS => ?_)
  obtain ⟨mdc9_12, sz_9_13, fEl9_14⟩ := u
  try dsimp only at hw_11 hB
  obtain ⟨hP1, hK1, hD1⟩ := hB
  rw [htC] at hP1
  have hK1 := va_K.moved hvm.symm hK1
  obtain ⟨hP, hD⟩ := va_join (wr := []) (w1 := [(zo1iri bo mdc9_12 aEl9_4 (nI sz_9_13)), (zaR aEl9_4 cEl9_5 10 fEl9_14)]) hP hD [0, 1] [] rfl rfl (by decide) (by decide) hk1 hFc hP1 hD1
  have hK := (hK.sub (tys' := []) [] rfl).app hK1
  generalize H1 = H at hP hS ⊢
  have hP : va_P (dC, dI) vwCl [(zo1iri bo mdc9_12 aEl9_4 (nI sz_9_13)), (zaR aEl9_4 cEl9_5 10 fEl9_14)] H := hP
  have hD : va_D A [(zo1iri bo mdc9_12 aEl9_4 (nI sz_9_13)), (zaR aEl9_4 cEl9_5 10 fEl9_14)] := hD
  have hK : va_K (dC, dI) vwCl [(cEl9_5, .object "java/lang/Object")] s := hK
  obtain ⟨er_15, e_16, hL_17⟩ := hw_11
  obtain rfl := (e_16).symm
  subst er_15
  refine lv_aload_n hx hb dX7_doGoes_12 rfl (lv_at hl 0 rfl) ?_
  refine va_get (D := (dC, dI)) (ci := 9) (v := .int sv) (C := RX7) (T := TX7) (N := 4) hx hb hts kc_X7_doGoes_X7_0_1 hown hZ.2.1 (hZ.P hS) 0 rfl rfl 2 (by decide) (hts (.fieldLink RX7 26 "MistHeaps$Old" "v" "I") kc_X7_doGoes_X7_0_0) (fun x h => u_same (hts (.sameField "MistHeaps$Old" "MistHeaps$Heap" "v" "I") kc_X7_doGoes_X7_0_2) x h) rfl dX7_doGoes_13 ?_
  refine lv_iadd hx hb dX7_doGoes_16 ?_
  rw [hQ]
  have hP9 := hP.sub (ws' := [(zo1iri bo mdc9_12 aEl9_4 (nI (1 + 2))), (zaR aEl9_4 cEl9_5 10 fEl9_14)]) [0, 1] rfl
  have hD9 := hD.sub (ws' := [(zo1iri bo mdc9_12 aEl9_4 (nI (1 + 2))), (zaR aEl9_4 cEl9_5 10 fEl9_14)]) [0, 1] (by decide) rfl
  have hK9 := hK.sub (tys' := [(cEl9_5, .object "java/lang/Object")]) [0] rfl
  refine W.widen (k := 1) (n := 10) (by omega) (by omega) ?_
  exact W.iret (v := ((x + nI i0) - sv) + sv) hx hb hr (fun tQ htQ hWQ => ⟨⟨(((x + nI i0) - sv) + sv), (mdc9_12, aEl9_4, cEl9_5, (1 + 2), fEl9_14), rfl, ⟨rfl, by omega, hL_17⟩, by rw [htQ]; exact hP9, va_K.moved hWQ.alike hK9, hD9⟩, hS.F htQ⟩) hS.2.2 dX7_doGoes_17

theorem kc_X3_doLooks_X7_1_0 : (.code yX3_doGoes cX3_doGoes 3 (some .int) : Cond) ∈ wsX3_doLooks := kc_of 1049 rfl rfl rfl
set_option maxHeartbeats 4000000 in
set_option maxRecDepth 100000 in
theorem c_X3_doLooks_X7_1 (l : Launch) (dC : Nat → ClassId) (dI : Nat → Nat → Nat) (ad : Nat → Nat) (cB bS : Nat)    (bo : Nat) (aEl : Nat) (i0 : Nat) (sk : Int32) (sv : Int32) (scl : Int32) (x : Int32) (cEl : ClassId) (fEl : Nat → Option Nat) (a0 : Nat) (sz_ : Nat) (mdc : Int32) (tl : List Nat) (sz : Nat) (hsz : sz_ + 4 ≤ 10) (zL : okL ad fEl sz_ tl) : Met l yX3_doLooks wsX3_doLooks ({ frames := 6, cells := 0, slots := 0, locals := 131 } : Room) (va_Pc [.ref a0, .int x, .ref bo] (fun U => U.heap.size = sz ∧ va_P (dC, dI) vwCl [(zo1iri bo mdc aEl (nI sz_)), (zaR aEl cEl 10 fEl)] U.heap ∧ va_K (dC, dI) vwCl [(cEl, .object "java/lang/Object")] U ∧ va_D (fun _ => True) [(zo1iri bo mdc aEl (nI sz_)), (zaR aEl cEl 10 fEl)] ∧ Gi ad cB bS (va_A [(zo1iri bo mdc aEl (nI sz_)), (zaR aEl cEl 10 fEl)] sz) U ∧ Gb (va_A [(zo1iri bo mdc aEl (nI sz_)), (zaR aEl cEl 10 fEl)] sz) U ∧ Gw (va_A [(zo1iri bo mdc aEl (nI sz_)), (zaR aEl cEl 10 fEl)] sz) U ∧ Fz dC dI [(zo9iiii a0 sk (nI i0) sv scl)] [] (va_A [(zo1iri bo mdc aEl (nI sz_)), (zaR aEl cEl 10 fEl)] sz) U)) (va_Qi (fun (r : Int32) (u : (Int32) × (Nat) × (Nat → Option Nat)) => match u with | (mdc9, sz_9, fEl9) => r = (((x + nI i0) - sv) + sv) * 2 ∧ sz_9 = sz_ + 4 ∧ okL ad fEl9 sz_9 (tl ++ [3, 61, 2, 1])) (fun (u : (Int32) × (Nat) × (Nat → Option Nat)) (t : State) => match u with | (mdc9, sz_9, fEl9) => va_P (dC, dI) vwCl [(zo1iri bo mdc9 aEl (nI sz_9)), (zaR aEl cEl 10 fEl9)] t.heap ∧ va_K (dC, dI) vwCl [(cEl, .object "java/lang/Object")] t ∧ va_D (va_A [(zo1iri bo mdc aEl (nI sz_)), (zaR aEl cEl 10 fEl)] sz) [(zo1iri bo mdc9 aEl (nI sz_9)), (zaR aEl cEl 10 fEl9)]) (va_A [(zo1iri bo mdc aEl (nI sz_)), (zaR aEl cEl 10 fEl)] sz)) 0 0 (va_A [(zo1iri bo mdc aEl (nI sz_)), (zaR aEl cEl 10 fEl)] sz) := by
  refine met_ofQ (cc := cX3_doLooks) (maxL := 3) (ret := (some .int)) (by decide) rfl ?_
  intro p e s m args below meth c s₁ Q B hml hv hQ
  obtain ⟨rfl, hsz, hP, hK, hD0, hI_, hB_, hW_, hZ⟩ := hv
  have hx := B.exec
  have hb := B.bytes
  have hr := B.returns
  have hts := atoms_spec (ws := wsX3_doLooks) B.pre
  have hown : s.vm.findClass RX3 = some m.cls := findClass_of_methodNamed B.named
  have hlocks := B.notSynchronized
  subst hsz
  have hD := hD0.self (sz := s.heap.size)
  generalize hAe : va_A [(zo1iri bo mdc aEl (nI sz_)), (zaR aEl cEl 10 fEl)] s.heap.size = A at hD hQ hI_ hB_ hW_ hZ ⊢
  have hA : ∀ q : Nat, s.heap.size ≤ q → A q := fun q h => by rw [← hAe]; exact Or.inr h
  have hS : va_S A s.heap s.heap [] := va_S.rf
  have hl := lv_entry [.ref a0, .int x, .ref bo] (n := 3) (Nat.le_of_ble_eq_true rfl)
  rw [lg_entry_eq]
  generalize (lg_sl [.ref a0, .int x, .ref bo] ++ List.replicate (3 - (lg_sl [.ref a0, .int x, .ref bo]).length) Slot.unset).toArray = ls at hl ⊢
  generalize hag : ([.ref a0, .int x, .ref bo] : List Value).toArray = args at hts hQ ⊢
  have hl : lv_has ls 3 [(0, .ref a0), (1, .int x), (2, .ref bo)] := hl
  obtain ⟨H, hH⟩ : ∃ H : Heap, H = s.heap := ⟨_, rfl⟩
  rw [← hH] at hP
  rw [← hH]
  have hS : va_S A s.heap H [] := by rw [hH]; exact hS
  obtain ⟨locs, hlo⟩ : ∃ L : List Loc, L = [] := ⟨_, rfl⟩
  rw [← hlo] at hS
  rw [← hlo]
  clear hH hlo
  refine lv_iconst (v := 3) hx hb dX3_doLooks_0 (by decide) ?_
  refine lv_aload_n hx hb dX3_doLooks_1 rfl (lv_at hl 2 rfl) ?_
  have hPc := hP.sub (ws' := [(zo1iri bo mdc aEl (nI sz_)), (zaR aEl cEl 10 fEl)]) [0, 1] rfl
  have hDc := hD.sub (ws' := [(zo1iri bo mdc aEl (nI sz_)), (zaR aEl cEl 10 fEl)]) [0, 1] (by decide) rfl
  have hKc := hK.sub (tys' := [(cEl, .object "java/lang/Object")]) [0] rfl
  have hFc := va_free (wc := [(zo1iri bo mdc aEl (nI sz_)), (zaR aEl cEl 10 fEl)]) hD hS hA [0, 1] rfl
  refine va_callv (va_runS (As := [.int 3, .ref bo]) (rest := []) ⟨hx, hb, hml, hown, hts⟩ (c_begin1 l dC dI ad cB bS bo aEl 3 cEl fEl sz_ mdc tl H.size (by omega) (by omega) (zL)) (va_cwS 2 hts gX3_doLooks_X3_begin rfl rfl rfl hd_yX3_begin.2 ⟨Nat.le_of_ble_eq_true rfl, Nat.le_of_ble_eq_true rfl⟩) ⟨fun a U g mk q => by obtain ⟨q0, q1, qP, qK, qD, qhI_⟩ := q; exact ⟨q0, q1, qP, va_K.moved (u := U) (U := U.calling g mk a) (Vm.Alike.refl U.vm) qK, qD, qhI_.same rfl rfl⟩, fun U hU hW => ⟨rfl, by rw [hU], by rw [hU]; exact hPc, va_K.moved hW.alike hKc, hDc.weaken (fun _ _ _ _ => trivial), hI_.call hS hU hW (fun q h => hFc q h)⟩⟩ rfl rfl hl.1 rfl (lv_room (Nat.le_of_ble_eq_true rfl)) dX3_doLooks_2 ⟨Nat.le_of_ble_eq_true rfl, Nat.le_of_ble_eq_true rfl⟩) hS (fun q _ h => hFc q h) hFc (fun u tC H1 locs htC hvm hw_2 hB hz1 hk1 hS => ?_)
  obtain ⟨mdc9_3, sz_9_4, fEl9_5⟩ := u
  try dsimp only at hw_2 hB
  obtain ⟨hP1, hK1, hD1⟩ := hB
  rw [htC] at hP1
  have hK1 := va_K.moved hvm.symm hK1
  obtain ⟨hP, hD⟩ := va_join (wr := []) (w1 := [(zo1iri bo mdc9_3 aEl (nI sz_9_4)), (zaR aEl cEl 10 fEl9_5)]) hP hD [0, 1] [] rfl rfl (by decide) (by decide) hk1 hFc hP1 hD1
  have hK := (hK.sub (tys' := []) [] rfl).app hK1
  generalize H1 = H at hP hS ⊢
  have hP : va_P (dC, dI) vwCl [(zo1iri bo mdc9_3 aEl (nI sz_9_4)), (zaR aEl cEl 10 fEl9_5)] H := hP
  have hD : va_D A [(zo1iri bo mdc9_3 aEl (nI sz_9_4)), (zaR aEl cEl 10 fEl9_5)] := hD
  have hK : va_K (dC, dI) vwCl [(cEl, .object "java/lang/Object")] s := hK
  obtain ⟨e_6, hL_7⟩ := hw_2
  obtain rfl := (e_6).symm
  refine lv_aload_n hx hb dX3_doLooks_5 rfl (lv_at hl 0 rfl) ?_
  refine lv_iload_n hx hb dX3_doLooks_6 rfl (lv_at hl 1 rfl) ?_
  refine lv_aload_n hx hb dX3_doLooks_7 rfl (lv_at hl 2 rfl) ?_
  have hPc := hP.sub (ws' := [(zo1iri bo mdc9_3 aEl (nI (sz_ + 1))), (zaR aEl cEl 10 fEl9_5)]) [0, 1] rfl
  have hDc := hD.sub (ws' := [(zo1iri bo mdc9_3 aEl (nI (sz_ + 1))), (zaR aEl cEl 10 fEl9_5)]) [0, 1] (by decide) rfl
  have hKc := hK.sub (tys' := [(cEl, .object "java/lang/Object")]) [0] rfl
  have hFc := va_free (wc := [(zo1iri bo mdc9_3 aEl (nI (sz_ + 1))), (zaR aEl cEl 10 fEl9_5)]) hD hS hA [0, 1] rfl
  refine va_calli (va_runU (As := [.int x, .ref bo]) (rest := []) ⟨hx, hb, hml, hown, hts⟩ (c_X7_doGoes_X7_1 l dC dI ad cB bS    bo aEl i0 sk sv scl x cEl fEl9_5 a0 (sz_ + 1) mdc9_3 (tl ++ [3]) H.size (by omega) (hL_7)) (va_cwO 2 hts gX3_doLooks_X7_doGoes_u42X7 rfl rfl rfl kc_X3_doLooks_X7_1_0 (by decide +kernel) ⟨Nat.le_of_ble_eq_true rfl, Nat.le_of_ble_eq_true rfl⟩) ⟨fun a U g mk q => by obtain ⟨q0, q1, qP, qK, qD, qhI_, qhB_, qhW_, qhZ⟩ := q; exact ⟨q0, q1, qP, va_K.moved (u := U) (U := U.calling g mk a) (Vm.Alike.refl U.vm) qK, qD, qhI_.same rfl rfl, qhB_.same rfl rfl, qhW_.same rfl rfl, qhZ.same rfl rfl⟩, va_recv hZ.2.1 (hZ.P hS) (ci := 9) (q := (RX7, TX7, 4)) (q0 := 0) rfl rfl, fun U hU hW => ⟨rfl, by rw [hU], by rw [hU]; exact hPc, va_K.moved hW.alike hKc, hDc.weaken (fun _ _ _ _ => trivial), hI_.call hS hU hW (fun q h => hFc q h), hB_.call hS hU hW (fun q h => hFc q h), hW_.call hS hU hW (fun q h => hFc q h), (hZ.sub [0] [] rfl rfl).call hS hU hW (fun q h => hFc q h)⟩⟩ rfl rfl hl.1 rfl (lv_room (Nat.le_of_ble_eq_true rfl)) dX3_doLooks_8 ⟨Nat.le_of_ble_eq_true rfl, Nat.le_of_ble_eq_true rfl⟩) hS (fun q _ h => hFc q h) hFc (fun r_8 u tC H1 locs htC hvm hw_9 hB hz1 hk1 hS => ?_)
  obtain ⟨mdc9_10, sz_9_11, fEl9_12⟩ := u
  try dsimp only at hw_9 hB
  obtain ⟨hP1, hK1, hD1⟩ := hB
  rw [htC] at hP1
  have hK1 := va_K.moved hvm.symm hK1
  obtain ⟨hP, hD⟩ := va_join (wr := []) (w1 := [(zo1iri bo mdc9_10 aEl (nI sz_9_11)), (zaR aEl cEl 10 fEl9_12)]) hP hD [0, 1] [] rfl rfl (by decide) (by decide) hk1 hFc hP1 hD1
  have hK := (hK.sub (tys' := []) [] rfl).app hK1
  generalize H1 = H at hP hS ⊢
  have hP : va_P (dC, dI) vwCl [(zo1iri bo mdc9_10 aEl (nI sz_9_11)), (zaR aEl cEl 10 fEl9_12)] H := hP
  have hD : va_D A [(zo1iri bo mdc9_10 aEl (nI sz_9_11)), (zaR aEl cEl 10 fEl9_12)] := hD
  have hK : va_K (dC, dI) vwCl [(cEl, .object "java/lang/Object")] s := hK
  obtain ⟨er_13, e_14, hL_15⟩ := hw_9
  obtain rfl := (e_14).symm
  subst er_13
  refine lv_iconst (v := 2) hx hb dX3_doLooks_11 (by decide) ?_
  refine lv_imul hx hb dX3_doLooks_12 ?_
  rw [hQ]
  have hP9 := hP.sub (ws' := [(zo1iri bo mdc9_10 aEl (nI ((sz_ + 1) + 3))), (zaR aEl cEl 10 fEl9_12)]) [0, 1] rfl
  have hD9 := hD.sub (ws' := [(zo1iri bo mdc9_10 aEl (nI ((sz_ + 1) + 3))), (zaR aEl cEl 10 fEl9_12)]) [0, 1] (by decide) rfl
  have hK9 := hK.sub (tys' := [(cEl, .object "java/lang/Object")]) [0] rfl
  exact W.iret (v := (((x + nI i0) - sv) + sv) * 2) hx hb hr (fun tQ htQ hWQ => ⟨⟨((((x + nI i0) - sv) + sv) * 2), (mdc9_10, ((sz_ + 1) + 3), fEl9_12), rfl, ⟨rfl, by omega, by have h9 := okL_as (hL_15); exact h9⟩, by rw [htQ]; exact hP9, va_K.moved hWQ.alike hK9, hD9⟩, hS.F htQ⟩) hS.2.2 dX3_doLooks_13

theorem kc_X3_doLooks_X7_0_0 : (.code yX3_doGoes cX3_doGoes 3 (some .int) : Cond) ∈ wsX3_doLooks := kc_of 1049 rfl rfl rfl
set_option maxHeartbeats 4000000 in
set_option maxRecDepth 100000 in
theorem c_X3_doLooks_X7_0 (l : Launch) (dC : Nat → ClassId) (dI : Nat → Nat → Nat) (ad : Nat → Nat) (cB bS : Nat)    (bo : Nat) (i0 : Nat) (sk : Int32) (sv : Int32) (scl : Int32) (x : Int32) (a0 : Nat) (mdc : Int32) (sz : Nat) : Met l yX3_doLooks wsX3_doLooks ({ frames := 6, cells := 1, slots := 10, locals := 131 } : Room) (va_Pc [.ref a0, .int x, .ref bo] (fun U => U.heap.size = sz ∧ va_P (dC, dI) vwCl [(zo1iri bo mdc bS 0)] U.heap ∧ va_K (dC, dI) vwCl [] U ∧ va_D (fun _ => True) [(zo1iri bo mdc bS 0)] ∧ Gi ad cB bS (va_A [(zo1iri bo mdc bS 0)] sz) U ∧ Gb (va_A [(zo1iri bo mdc bS 0)] sz) U ∧ Gw (va_A [(zo1iri bo mdc bS 0)] sz) U ∧ Fz dC dI [(zo9iiii a0 sk (nI i0) sv scl)] [] (va_A [(zo1iri bo mdc bS 0)] sz) U)) (va_Qi (fun (r : Int32) (u : (Int32) × (Nat) × (ClassId) × (Nat) × (Nat → Option Nat)) => match u with | (mdc9, aEl9, cEl9, sz_9, fEl9) => r = (((x + nI i0) - sv) + sv) * 2 ∧ sz_9 = 4 ∧ okL ad fEl9 sz_9 [3, 61, 2, 1]) (fun (u : (Int32) × (Nat) × (ClassId) × (Nat) × (Nat → Option Nat)) (t : State) => match u with | (mdc9, aEl9, cEl9, sz_9, fEl9) => va_P (dC, dI) vwCl [(zo1iri bo mdc9 aEl9 (nI sz_9)), (zaR aEl9 cEl9 10 fEl9)] t.heap ∧ va_K (dC, dI) vwCl [(cEl9, .object "java/lang/Object")] t ∧ va_D (va_A [(zo1iri bo mdc bS 0)] sz) [(zo1iri bo mdc9 aEl9 (nI sz_9)), (zaR aEl9 cEl9 10 fEl9)]) (va_A [(zo1iri bo mdc bS 0)] sz)) 1 10 (va_A [(zo1iri bo mdc bS 0)] sz) := by
  refine met_ofQ (cc := cX3_doLooks) (maxL := 3) (ret := (some .int)) (by decide) rfl ?_
  intro p e s m args below meth c s₁ Q B hml hv hQ
  obtain ⟨rfl, hsz, hP, hK, hD0, hI_, hB_, hW_, hZ⟩ := hv
  have hx := B.exec
  have hb := B.bytes
  have hr := B.returns
  have hts := atoms_spec (ws := wsX3_doLooks) B.pre
  have hown : s.vm.findClass RX3 = some m.cls := findClass_of_methodNamed B.named
  have hlocks := B.notSynchronized
  subst hsz
  have hD := hD0.self (sz := s.heap.size)
  generalize hAe : va_A [(zo1iri bo mdc bS 0)] s.heap.size = A at hD hQ hI_ hB_ hW_ hZ ⊢
  have hA : ∀ q : Nat, s.heap.size ≤ q → A q := fun q h => by rw [← hAe]; exact Or.inr h
  have hS : va_S A s.heap s.heap [] := va_S.rf
  have hl := lv_entry [.ref a0, .int x, .ref bo] (n := 3) (Nat.le_of_ble_eq_true rfl)
  rw [lg_entry_eq]
  generalize (lg_sl [.ref a0, .int x, .ref bo] ++ List.replicate (3 - (lg_sl [.ref a0, .int x, .ref bo]).length) Slot.unset).toArray = ls at hl ⊢
  generalize hag : ([.ref a0, .int x, .ref bo] : List Value).toArray = args at hts hQ ⊢
  have hl : lv_has ls 3 [(0, .ref a0), (1, .int x), (2, .ref bo)] := hl
  obtain ⟨H, hH⟩ : ∃ H : Heap, H = s.heap := ⟨_, rfl⟩
  rw [← hH] at hP
  rw [← hH]
  have hS : va_S A s.heap H [] := by rw [hH]; exact hS
  obtain ⟨locs, hlo⟩ : ∃ L : List Loc, L = [] := ⟨_, rfl⟩
  rw [← hlo] at hS
  rw [← hlo]
  clear hH hlo
  refine lv_iconst (v := 3) hx hb dX3_doLooks_0 (by decide) ?_
  refine lv_aload_n hx hb dX3_doLooks_1 rfl (lv_at hl 2 rfl) ?_
  have hPc := hP.sub (ws' := [(zo1iri bo mdc bS 0)]) [0] rfl
  have hDc := hD.sub (ws' := [(zo1iri bo mdc bS 0)]) [0] (by decide) rfl
  have hKc := hK.sub (tys' := []) [] rfl
  have hFc := va_free (wc := [(zo1iri bo mdc bS 0)]) hD hS hA [0] rfl
  refine va_callv (va_runS (As := [.int 3, .ref bo]) (rest := []) ⟨hx, hb, hml, hown, hts⟩ (c_begin0 l dC dI ad cB bS bo mdc 3 H.size (by omega)) (va_cwS 2 hts gX3_doLooks_X3_begin rfl rfl rfl hd_yX3_begin.2 ⟨Nat.le_of_ble_eq_true rfl, Nat.le_of_ble_eq_true rfl⟩) ⟨fun a U g mk q => by obtain ⟨q0, q1, qP, qK, qD, qhI_⟩ := q; exact ⟨q0, q1, qP, va_K.moved (u := U) (U := U.calling g mk a) (Vm.Alike.refl U.vm) qK, qD, qhI_.same rfl rfl⟩, fun U hU hW => ⟨rfl, by rw [hU], by rw [hU]; exact hPc, va_K.moved hW.alike hKc, hDc.weaken (fun _ _ _ _ => trivial), hI_.call hS hU hW (fun q h => hFc q h)⟩⟩ rfl rfl hl.1 rfl (lv_room (Nat.le_of_ble_eq_true rfl)) dX3_doLooks_2 ⟨Nat.le_of_ble_eq_true rfl, Nat.le_of_ble_eq_true rfl⟩) hS (fun q _ h => hFc q h) hFc (fun u tC H1 locs htC hvm hw_2 hB hz1 hk1 hS => ?_)
  obtain ⟨mdc9_3, aEl9_4, cEl9_5, sz_9_6, fEl9_7⟩ := u
  try dsimp only at hw_2 hB
  obtain ⟨hP1, hK1, hD1⟩ := hB
  rw [htC] at hP1
  have hK1 := va_K.moved hvm.symm hK1
  obtain ⟨hP, hD⟩ := va_join (wr := []) (w1 := [(zo1iri bo mdc9_3 aEl9_4 (nI sz_9_6)), (zaR aEl9_4 cEl9_5 10 fEl9_7)]) hP hD [0] [] rfl rfl (by decide) (by decide) hk1 hFc hP1 hD1
  have hK := (hK.sub (tys' := []) [] rfl).app hK1
  generalize H1 = H at hP hS ⊢
  have hP : va_P (dC, dI) vwCl [(zo1iri bo mdc9_3 aEl9_4 (nI sz_9_6)), (zaR aEl9_4 cEl9_5 10 fEl9_7)] H := hP
  have hD : va_D A [(zo1iri bo mdc9_3 aEl9_4 (nI sz_9_6)), (zaR aEl9_4 cEl9_5 10 fEl9_7)] := hD
  have hK : va_K (dC, dI) vwCl [(cEl9_5, .object "java/lang/Object")] s := hK
  refine W.widen (k := 1) (n := 10) (by omega) (by omega) ?_
  obtain ⟨e_8, hL_9⟩ := hw_2
  obtain rfl := (e_8).symm
  refine lv_aload_n hx hb dX3_doLooks_5 rfl (lv_at hl 0 rfl) ?_
  refine lv_iload_n hx hb dX3_doLooks_6 rfl (lv_at hl 1 rfl) ?_
  refine lv_aload_n hx hb dX3_doLooks_7 rfl (lv_at hl 2 rfl) ?_
  have hPc := hP.sub (ws' := [(zo1iri bo mdc9_3 aEl9_4 (nI 1)), (zaR aEl9_4 cEl9_5 10 fEl9_7)]) [0, 1] rfl
  have hDc := hD.sub (ws' := [(zo1iri bo mdc9_3 aEl9_4 (nI 1)), (zaR aEl9_4 cEl9_5 10 fEl9_7)]) [0, 1] (by decide) rfl
  have hKc := hK.sub (tys' := [(cEl9_5, .object "java/lang/Object")]) [0] rfl
  have hFc := va_free (wc := [(zo1iri bo mdc9_3 aEl9_4 (nI 1)), (zaR aEl9_4 cEl9_5 10 fEl9_7)]) hD hS hA [0, 1] rfl
  refine va_calli (va_runU (As := [.int x, .ref bo]) (rest := []) ⟨hx, hb, hml, hown, hts⟩ (c_X7_doGoes_X7_1 l dC dI ad cB bS    bo aEl9_4 i0 sk sv scl x cEl9_5 fEl9_7 a0 1 mdc9_3 ([3]) H.size (by omega) (hL_9)) (va_cwO 2 hts gX3_doLooks_X7_doGoes_u42X7 rfl rfl rfl kc_X3_doLooks_X7_0_0 (by decide +kernel) ⟨Nat.le_of_ble_eq_true rfl, Nat.le_of_ble_eq_true rfl⟩) ⟨fun a U g mk q => by obtain ⟨q0, q1, qP, qK, qD, qhI_, qhB_, qhW_, qhZ⟩ := q; exact ⟨q0, q1, qP, va_K.moved (u := U) (U := U.calling g mk a) (Vm.Alike.refl U.vm) qK, qD, qhI_.same rfl rfl, qhB_.same rfl rfl, qhW_.same rfl rfl, qhZ.same rfl rfl⟩, va_recv hZ.2.1 (hZ.P hS) (ci := 9) (q := (RX7, TX7, 4)) (q0 := 0) rfl rfl, fun U hU hW => ⟨rfl, by rw [hU], by rw [hU]; exact hPc, va_K.moved hW.alike hKc, hDc.weaken (fun _ _ _ _ => trivial), hI_.call hS hU hW (fun q h => hFc q h), hB_.call hS hU hW (fun q h => hFc q h), hW_.call hS hU hW (fun q h => hFc q h), (hZ.sub [0] [] rfl rfl).call hS hU hW (fun q h => hFc q h)⟩⟩ rfl rfl hl.1 rfl (lv_room (Nat.le_of_ble_eq_true rfl)) dX3_doLooks_8 ⟨Nat.le_of_ble_eq_true rfl, Nat.le_of_ble_eq_true rfl⟩) hS (fun q _ h => hFc q h) hFc (fun r_10 u tC H1 locs htC hvm hw_11 hB hz1 hk1 hS => ?_)
  obtain ⟨mdc9_12, sz_9_13, fEl9_14⟩ := u
  try dsimp only at hw_11 hB
  obtain ⟨hP1, hK1, hD1⟩ := hB
  rw [htC] at hP1
  have hK1 := va_K.moved hvm.symm hK1
  obtain ⟨hP, hD⟩ := va_join (wr := []) (w1 := [(zo1iri bo mdc9_12 aEl9_4 (nI sz_9_13)), (zaR aEl9_4 cEl9_5 10 fEl9_14)]) hP hD [0, 1] [] rfl rfl (by decide) (by decide) hk1 hFc hP1 hD1
  have hK := (hK.sub (tys' := []) [] rfl).app hK1
  generalize H1 = H at hP hS ⊢
  have hP : va_P (dC, dI) vwCl [(zo1iri bo mdc9_12 aEl9_4 (nI sz_9_13)), (zaR aEl9_4 cEl9_5 10 fEl9_14)] H := hP
  have hD : va_D A [(zo1iri bo mdc9_12 aEl9_4 (nI sz_9_13)), (zaR aEl9_4 cEl9_5 10 fEl9_14)] := hD
  have hK : va_K (dC, dI) vwCl [(cEl9_5, .object "java/lang/Object")] s := hK
  obtain ⟨er_15, e_16, hL_17⟩ := hw_11
  obtain rfl := (e_16).symm
  subst er_15
  refine lv_iconst (v := 2) hx hb dX3_doLooks_11 (by decide) ?_
  refine lv_imul hx hb dX3_doLooks_12 ?_
  rw [hQ]
  have hP9 := hP.sub (ws' := [(zo1iri bo mdc9_12 aEl9_4 (nI (1 + 3))), (zaR aEl9_4 cEl9_5 10 fEl9_14)]) [0, 1] rfl
  have hD9 := hD.sub (ws' := [(zo1iri bo mdc9_12 aEl9_4 (nI (1 + 3))), (zaR aEl9_4 cEl9_5 10 fEl9_14)]) [0, 1] (by decide) rfl
  have hK9 := hK.sub (tys' := [(cEl9_5, .object "java/lang/Object")]) [0] rfl
  refine W.widen (k := 1) (n := 10) (by omega) (by omega) ?_
  exact W.iret (v := (((x + nI i0) - sv) + sv) * 2) hx hb hr (fun tQ htQ hWQ => ⟨⟨((((x + nI i0) - sv) + sv) * 2), (mdc9_12, aEl9_4, cEl9_5, (1 + 3), fEl9_14), rfl, ⟨rfl, by omega, hL_17⟩, by rw [htQ]; exact hP9, va_K.moved hWQ.alike hK9, hD9⟩, hS.F htQ⟩) hS.2.2 dX3_doLooks_13

set_option maxHeartbeats 4000000 in
set_option maxRecDepth 100000 in
theorem c_X1_doLooks_X7_1 (l : Launch) (dC : Nat → ClassId) (dI : Nat → Nat → Nat) (ad : Nat → Nat) (cB bS : Nat)    (bo : Nat) (aEl : Nat) (i0 : Nat) (sk : Int32) (sv : Int32) (scl : Int32) (x : Int32) (cEl : ClassId) (fEl : Nat → Option Nat) (a0 : Nat) (sz_ : Nat) (mdc : Int32) (tl : List Nat) (sz : Nat) (hsz : sz_ + 5 ≤ 10) (zL : okL ad fEl sz_ tl) : Met l yX1_doLooks wsX1_doLooks ({ frames := 7, cells := 0, slots := 0, locals := 153 } : Room) (va_Pc [.ref a0, .int x, .ref bo] (fun U => U.heap.size = sz ∧ va_P (dC, dI) vwCl [(zo1iri bo mdc aEl (nI sz_)), (zaR aEl cEl 10 fEl)] U.heap ∧ va_K (dC, dI) vwCl [(cEl, .object "java/lang/Object")] U ∧ va_D (fun _ => True) [(zo1iri bo mdc aEl (nI sz_)), (zaR aEl cEl 10 fEl)] ∧ Gi ad cB bS (va_A [(zo1iri bo mdc aEl (nI sz_)), (zaR aEl cEl 10 fEl)] sz) U ∧ Gb (va_A [(zo1iri bo mdc aEl (nI sz_)), (zaR aEl cEl 10 fEl)] sz) U ∧ Gw (va_A [(zo1iri bo mdc aEl (nI sz_)), (zaR aEl cEl 10 fEl)] sz) U ∧ Fz dC dI [(zo9iiii a0 sk (nI i0) sv scl)] [] (va_A [(zo1iri bo mdc aEl (nI sz_)), (zaR aEl cEl 10 fEl)] sz) U)) (va_Qi (fun (r : Int32) (u : (Int32) × (Nat) × (Nat → Option Nat)) => match u with | (mdc9, sz_9, fEl9) => r = ((((x + nI i0) - sv) + sv) * 2) ^^^ 7 ∧ sz_9 = sz_ + 5 ∧ okL ad fEl9 sz_9 (tl ++ [31, 3, 61, 2, 1])) (fun (u : (Int32) × (Nat) × (Nat → Option Nat)) (t : State) => match u with | (mdc9, sz_9, fEl9) => va_P (dC, dI) vwCl [(zo1iri bo mdc9 aEl (nI sz_9)), (zaR aEl cEl 10 fEl9)] t.heap ∧ va_K (dC, dI) vwCl [(cEl, .object "java/lang/Object")] t ∧ va_D (va_A [(zo1iri bo mdc aEl (nI sz_)), (zaR aEl cEl 10 fEl)] sz) [(zo1iri bo mdc9 aEl (nI sz_9)), (zaR aEl cEl 10 fEl9)]) (va_A [(zo1iri bo mdc aEl (nI sz_)), (zaR aEl cEl 10 fEl)] sz)) 0 0 (va_A [(zo1iri bo mdc aEl (nI sz_)), (zaR aEl cEl 10 fEl)] sz) := by
  refine met_ofQ (cc := cX1_doLooks) (maxL := 3) (ret := (some .int)) (by decide) rfl ?_
  intro p e s m args below meth c s₁ Q B hml hv hQ
  obtain ⟨rfl, hsz, hP, hK, hD0, hI_, hB_, hW_, hZ⟩ := hv
  have hx := B.exec
  have hb := B.bytes
  have hr := B.returns
  have hts := atoms_spec (ws := wsX1_doLooks) B.pre
  have hown : s.vm.findClass RX1 = some m.cls := findClass_of_methodNamed B.named
  have hlocks := B.notSynchronized
  subst hsz
  have hD := hD0.self (sz := s.heap.size)
  generalize hAe : va_A [(zo1iri bo mdc aEl (nI sz_)), (zaR aEl cEl 10 fEl)] s.heap.size = A at hD hQ hI_ hB_ hW_ hZ ⊢
  have hA : ∀ q : Nat, s.heap.size ≤ q → A q := fun q h => by rw [← hAe]; exact Or.inr h
  have hS : va_S A s.heap s.heap [] := va_S.rf
  have hl := lv_entry [.ref a0, .int x, .ref bo] (n := 3) (Nat.le_of_ble_eq_true rfl)
  rw [lg_entry_eq]
  generalize (lg_sl [.ref a0, .int x, .ref bo] ++ List.replicate (3 - (lg_sl [.ref a0, .int x, .ref bo]).length) Slot.unset).toArray = ls at hl ⊢
  generalize hag : ([.ref a0, .int x, .ref bo] : List Value).toArray = args at hts hQ ⊢
  have hl : lv_has ls 3 [(0, .ref a0), (1, .int x), (2, .ref bo)] := hl
  obtain ⟨H, hH⟩ : ∃ H : Heap, H = s.heap := ⟨_, rfl⟩
  rw [← hH] at hP
  rw [← hH]
  have hS : va_S A s.heap H [] := by rw [hH]; exact hS
  obtain ⟨locs, hlo⟩ : ∃ L : List Loc, L = [] := ⟨_, rfl⟩
  rw [← hlo] at hS
  rw [← hlo]
  clear hH hlo
  refine lv_bipush (v := 31) hx hb dX1_doLooks_0 (by decide) ?_
  refine lv_aload_n hx hb dX1_doLooks_2 rfl (lv_at hl 2 rfl) ?_
  have hPc := hP.sub (ws' := [(zo1iri bo mdc aEl (nI sz_)), (zaR aEl cEl 10 fEl)]) [0, 1] rfl
  have hDc := hD.sub (ws' := [(zo1iri bo mdc aEl (nI sz_)), (zaR aEl cEl 10 fEl)]) [0, 1] (by decide) rfl
  have hKc := hK.sub (tys' := [(cEl, .object "java/lang/Object")]) [0] rfl
  have hFc := va_free (wc := [(zo1iri bo mdc aEl (nI sz_)), (zaR aEl cEl 10 fEl)]) hD hS hA [0, 1] rfl
  refine va_callv (va_runU2 (As := [.int 31, .ref bo]) (rest := []) ⟨hx, hb, hml, hown, hts⟩ (c_begin1 l dC dI ad cB bS bo aEl 31 cEl fEl sz_ mdc tl H.size (by omega) (by omega) (zL)) (u2_cw (x := xb1) 2 hB_ inb1 rfl rfl rfl rfl rfl (by decide +kernel) ⟨Nat.le_of_ble_eq_true rfl, Nat.le_of_ble_eq_true rfl⟩) ⟨fun a U g mk q => by obtain ⟨q0, q1, qP, qK, qD, qhI_⟩ := q; exact ⟨q0, q1, qP, va_K.moved (u := U) (U := U.calling g mk a) (Vm.Alike.refl U.vm) qK, qD, qhI_.same rfl rfl⟩, fun U hU hW => ⟨rfl, by rw [hU], by rw [hU]; exact hPc, va_K.moved hW.alike hKc, hDc.weaken (fun _ _ _ _ => trivial), hI_.call hS hU hW (fun q h => hFc q h)⟩⟩ rfl rfl hl.1 rfl (lv_room (Nat.le_of_ble_eq_true rfl)) dX1_doLooks_3 ⟨Nat.le_of_ble_eq_true rfl, Nat.le_of_ble_eq_true rfl⟩) hS (fun q _ h => hFc q h) hFc (fun u tC H1 locs htC hvm hw_2 hB hz1 hk1 hS => ?_)
  obtain ⟨mdc9_3, sz_9_4, fEl9_5⟩ := u
  try dsimp only at hw_2 hB
  obtain ⟨hP1, hK1, hD1⟩ := hB
  rw [htC] at hP1
  have hK1 := va_K.moved hvm.symm hK1
  obtain ⟨hP, hD⟩ := va_join (wr := []) (w1 := [(zo1iri bo mdc9_3 aEl (nI sz_9_4)), (zaR aEl cEl 10 fEl9_5)]) hP hD [0, 1] [] rfl rfl (by decide) (by decide) hk1 hFc hP1 hD1
  have hK := (hK.sub (tys' := []) [] rfl).app hK1
  generalize H1 = H at hP hS ⊢
  have hP : va_P (dC, dI) vwCl [(zo1iri bo mdc9_3 aEl (nI sz_9_4)), (zaR aEl cEl 10 fEl9_5)] H := hP
  have hD : va_D A [(zo1iri bo mdc9_3 aEl (nI sz_9_4)), (zaR aEl cEl 10 fEl9_5)] := hD
  have hK : va_K (dC, dI) vwCl [(cEl, .object "java/lang/Object")] s := hK
  obtain ⟨e_6, hL_7⟩ := hw_2
  obtain rfl := (e_6).symm
  refine lv_aload_n hx hb dX1_doLooks_6 rfl (lv_at hl 0 rfl) ?_
  refine lv_iload_n hx hb dX1_doLooks_7 rfl (lv_at hl 1 rfl) ?_
  refine lv_aload_n hx hb dX1_doLooks_8 rfl (lv_at hl 2 rfl) ?_
  have hPc := hP.sub (ws' := [(zo1iri bo mdc9_3 aEl (nI (sz_ + 1))), (zaR aEl cEl 10 fEl9_5)]) [0, 1] rfl
  have hDc := hD.sub (ws' := [(zo1iri bo mdc9_3 aEl (nI (sz_ + 1))), (zaR aEl cEl 10 fEl9_5)]) [0, 1] (by decide) rfl
  have hKc := hK.sub (tys' := [(cEl, .object "java/lang/Object")]) [0] rfl
  have hFc := va_free (wc := [(zo1iri bo mdc9_3 aEl (nI (sz_ + 1))), (zaR aEl cEl 10 fEl9_5)]) hD hS hA [0, 1] rfl
  refine va_calli (va_runSU (hZ.2.1.1 9 (RX7, TX7, 4) rfl).2 (As := [.int x, .ref bo]) (rest := []) ⟨hx, hb, hml, hown, hts⟩ (c_X3_doLooks_X7_1 l dC dI ad cB bS    bo aEl i0 sk sv scl x cEl fEl9_5 a0 (sz_ + 1) mdc9_3 (tl ++ [31]) H.size (by omega) (hL_7)) (va_cwSU 2 hts gX1_doLooks_X3_doLooks_s13 rfl rfl rfl (by decide +kernel) ⟨Nat.le_of_ble_eq_true rfl, Nat.le_of_ble_eq_true rfl⟩) ⟨fun a U g mk q => by obtain ⟨q0, q1, qP, qK, qD, qhI_, qhB_, qhW_, qhZ⟩ := q; exact ⟨q0, q1, qP, va_K.moved (u := U) (U := U.calling g mk a) (Vm.Alike.refl U.vm) qK, qD, qhI_.same rfl rfl, qhB_.same rfl rfl, qhW_.same rfl rfl, qhZ.same rfl rfl⟩, va_recv hZ.2.1 (hZ.P hS) (ci := 9) (q := (RX7, TX7, 4)) (q0 := 0) rfl rfl, fun U hU hW => ⟨rfl, by rw [hU], by rw [hU]; exact hPc, va_K.moved hW.alike hKc, hDc.weaken (fun _ _ _ _ => trivial), hI_.call hS hU hW (fun q h => hFc q h), hB_.call hS hU hW (fun q h => hFc q h), hW_.call hS hU hW (fun q h => hFc q h), (hZ.sub [0] [] rfl rfl).call hS hU hW (fun q h => hFc q h)⟩⟩ rfl rfl hl.1 rfl (lv_room (Nat.le_of_ble_eq_true rfl)) dX1_doLooks_9 ⟨Nat.le_of_ble_eq_true rfl, Nat.le_of_ble_eq_true rfl⟩) hS (fun q _ h => hFc q h) hFc (fun r_8 u tC H1 locs htC hvm hw_9 hB hz1 hk1 hS => ?_)
  obtain ⟨mdc9_10, sz_9_11, fEl9_12⟩ := u
  try dsimp only at hw_9 hB
  obtain ⟨hP1, hK1, hD1⟩ := hB
  rw [htC] at hP1
  have hK1 := va_K.moved hvm.symm hK1
  obtain ⟨hP, hD⟩ := va_join (wr := []) (w1 := [(zo1iri bo mdc9_10 aEl (nI sz_9_11)), (zaR aEl cEl 10 fEl9_12)]) hP hD [0, 1] [] rfl rfl (by decide) (by decide) hk1 hFc hP1 hD1
  have hK := (hK.sub (tys' := []) [] rfl).app hK1
  generalize H1 = H at hP hS ⊢
  have hP : va_P (dC, dI) vwCl [(zo1iri bo mdc9_10 aEl (nI sz_9_11)), (zaR aEl cEl 10 fEl9_12)] H := hP
  have hD : va_D A [(zo1iri bo mdc9_10 aEl (nI sz_9_11)), (zaR aEl cEl 10 fEl9_12)] := hD
  have hK : va_K (dC, dI) vwCl [(cEl, .object "java/lang/Object")] s := hK
  obtain ⟨er_13, e_14, hL_15⟩ := hw_9
  obtain rfl := (e_14).symm
  subst er_13
  refine lv_bipush (v := 7) hx hb dX1_doLooks_12 (by decide) ?_
  refine lv_ixor hx hb dX1_doLooks_14 ?_
  rw [hQ]
  have hP9 := hP.sub (ws' := [(zo1iri bo mdc9_10 aEl (nI ((sz_ + 1) + 4))), (zaR aEl cEl 10 fEl9_12)]) [0, 1] rfl
  have hD9 := hD.sub (ws' := [(zo1iri bo mdc9_10 aEl (nI ((sz_ + 1) + 4))), (zaR aEl cEl 10 fEl9_12)]) [0, 1] (by decide) rfl
  have hK9 := hK.sub (tys' := [(cEl, .object "java/lang/Object")]) [0] rfl
  exact W.iret (v := ((((x + nI i0) - sv) + sv) * 2) ^^^ 7) hx hb hr (fun tQ htQ hWQ => ⟨⟨(((((x + nI i0) - sv) + sv) * 2) ^^^ 7), (mdc9_10, ((sz_ + 1) + 4), fEl9_12), rfl, ⟨rfl, by omega, by have h9 := okL_as (hL_15); exact h9⟩, by rw [htQ]; exact hP9, va_K.moved hWQ.alike hK9, hD9⟩, hS.F htQ⟩) hS.2.2 dX1_doLooks_15

set_option maxHeartbeats 4000000 in
set_option maxRecDepth 100000 in
theorem c_X1_doLooks_X7_0 (l : Launch) (dC : Nat → ClassId) (dI : Nat → Nat → Nat) (ad : Nat → Nat) (cB bS : Nat)    (bo : Nat) (i0 : Nat) (sk : Int32) (sv : Int32) (scl : Int32) (x : Int32) (a0 : Nat) (mdc : Int32) (sz : Nat) : Met l yX1_doLooks wsX1_doLooks ({ frames := 7, cells := 1, slots := 10, locals := 153 } : Room) (va_Pc [.ref a0, .int x, .ref bo] (fun U => U.heap.size = sz ∧ va_P (dC, dI) vwCl [(zo1iri bo mdc bS 0)] U.heap ∧ va_K (dC, dI) vwCl [] U ∧ va_D (fun _ => True) [(zo1iri bo mdc bS 0)] ∧ Gi ad cB bS (va_A [(zo1iri bo mdc bS 0)] sz) U ∧ Gb (va_A [(zo1iri bo mdc bS 0)] sz) U ∧ Gw (va_A [(zo1iri bo mdc bS 0)] sz) U ∧ Fz dC dI [(zo9iiii a0 sk (nI i0) sv scl)] [] (va_A [(zo1iri bo mdc bS 0)] sz) U)) (va_Qi (fun (r : Int32) (u : (Int32) × (Nat) × (ClassId) × (Nat) × (Nat → Option Nat)) => match u with | (mdc9, aEl9, cEl9, sz_9, fEl9) => r = ((((x + nI i0) - sv) + sv) * 2) ^^^ 7 ∧ sz_9 = 5 ∧ okL ad fEl9 sz_9 [31, 3, 61, 2, 1]) (fun (u : (Int32) × (Nat) × (ClassId) × (Nat) × (Nat → Option Nat)) (t : State) => match u with | (mdc9, aEl9, cEl9, sz_9, fEl9) => va_P (dC, dI) vwCl [(zo1iri bo mdc9 aEl9 (nI sz_9)), (zaR aEl9 cEl9 10 fEl9)] t.heap ∧ va_K (dC, dI) vwCl [(cEl9, .object "java/lang/Object")] t ∧ va_D (va_A [(zo1iri bo mdc bS 0)] sz) [(zo1iri bo mdc9 aEl9 (nI sz_9)), (zaR aEl9 cEl9 10 fEl9)]) (va_A [(zo1iri bo mdc bS 0)] sz)) 1 10 (va_A [(zo1iri bo mdc bS 0)] sz) := by
  refine met_ofQ (cc := cX1_doLooks) (maxL := 3) (ret := (some .int)) (by decide) rfl ?_
  intro p e s m args below meth c s₁ Q B hml hv hQ
  obtain ⟨rfl, hsz, hP, hK, hD0, hI_, hB_, hW_, hZ⟩ := hv
  have hx := B.exec
  have hb := B.bytes
  have hr := B.returns
  have hts := atoms_spec (ws := wsX1_doLooks) B.pre
  have hown : s.vm.findClass RX1 = some m.cls := findClass_of_methodNamed B.named
  have hlocks := B.notSynchronized
  subst hsz
  have hD := hD0.self (sz := s.heap.size)
  generalize hAe : va_A [(zo1iri bo mdc bS 0)] s.heap.size = A at hD hQ hI_ hB_ hW_ hZ ⊢
  have hA : ∀ q : Nat, s.heap.size ≤ q → A q := fun q h => by rw [← hAe]; exact Or.inr h
  have hS : va_S A s.heap s.heap [] := va_S.rf
  have hl := lv_entry [.ref a0, .int x, .ref bo] (n := 3) (Nat.le_of_ble_eq_true rfl)
  rw [lg_entry_eq]
  generalize (lg_sl [.ref a0, .int x, .ref bo] ++ List.replicate (3 - (lg_sl [.ref a0, .int x, .ref bo]).length) Slot.unset).toArray = ls at hl ⊢
  generalize hag : ([.ref a0, .int x, .ref bo] : List Value).toArray = args at hts hQ ⊢
  have hl : lv_has ls 3 [(0, .ref a0), (1, .int x), (2, .ref bo)] := hl
  obtain ⟨H, hH⟩ : ∃ H : Heap, H = s.heap := ⟨_, rfl⟩
  rw [← hH] at hP
  rw [← hH]
  have hS : va_S A s.heap H [] := by rw [hH]; exact hS
  obtain ⟨locs, hlo⟩ : ∃ L : List Loc, L = [] := ⟨_, rfl⟩
  rw [← hlo] at hS
  rw [← hlo]
  clear hH hlo
  refine lv_bipush (v := 31) hx hb dX1_doLooks_0 (by decide) ?_
  refine lv_aload_n hx hb dX1_doLooks_2 rfl (lv_at hl 2 rfl) ?_
  have hPc := hP.sub (ws' := [(zo1iri bo mdc bS 0)]) [0] rfl
  have hDc := hD.sub (ws' := [(zo1iri bo mdc bS 0)]) [0] (by decide) rfl
  have hKc := hK.sub (tys' := []) [] rfl
  have hFc := va_free (wc := [(zo1iri bo mdc bS 0)]) hD hS hA [0] rfl
  refine va_callv (va_runU2 (As := [.int 31, .ref bo]) (rest := []) ⟨hx, hb, hml, hown, hts⟩ (c_begin0 l dC dI ad cB bS bo mdc 31 H.size (by omega)) (u2_cw (x := xb1) 2 hB_ inb1 rfl rfl rfl rfl rfl (by decide +kernel) ⟨Nat.le_of_ble_eq_true rfl, Nat.le_of_ble_eq_true rfl⟩) ⟨fun a U g mk q => by obtain ⟨q0, q1, qP, qK, qD, qhI_⟩ := q; exact ⟨q0, q1, qP, va_K.moved (u := U) (U := U.calling g mk a) (Vm.Alike.refl U.vm) qK, qD, qhI_.same rfl rfl⟩, fun U hU hW => ⟨rfl, by rw [hU], by rw [hU]; exact hPc, va_K.moved hW.alike hKc, hDc.weaken (fun _ _ _ _ => trivial), hI_.call hS hU hW (fun q h => hFc q h)⟩⟩ rfl rfl hl.1 rfl (lv_room (Nat.le_of_ble_eq_true rfl)) dX1_doLooks_3 ⟨Nat.le_of_ble_eq_true rfl, Nat.le_of_ble_eq_true rfl⟩) hS (fun q _ h => hFc q h) hFc (fun u tC H1 locs htC hvm hw_2 hB hz1 hk1 hS => ?_)
  obtain ⟨mdc9_3, aEl9_4, cEl9_5, sz_9_6, fEl9_7⟩ := u
  try dsimp only at hw_2 hB
  obtain ⟨hP1, hK1, hD1⟩ := hB
  rw [htC] at hP1
  have hK1 := va_K.moved hvm.symm hK1
  obtain ⟨hP, hD⟩ := va_join (wr := []) (w1 := [(zo1iri bo mdc9_3 aEl9_4 (nI sz_9_6)), (zaR aEl9_4 cEl9_5 10 fEl9_7)]) hP hD [0] [] rfl rfl (by decide) (by decide) hk1 hFc hP1 hD1
  have hK := (hK.sub (tys' := []) [] rfl).app hK1
  generalize H1 = H at hP hS ⊢
  have hP : va_P (dC, dI) vwCl [(zo1iri bo mdc9_3 aEl9_4 (nI sz_9_6)), (zaR aEl9_4 cEl9_5 10 fEl9_7)] H := hP
  have hD : va_D A [(zo1iri bo mdc9_3 aEl9_4 (nI sz_9_6)), (zaR aEl9_4 cEl9_5 10 fEl9_7)] := hD
  have hK : va_K (dC, dI) vwCl [(cEl9_5, .object "java/lang/Object")] s := hK
  refine W.widen (k := 1) (n := 10) (by omega) (by omega) ?_
  obtain ⟨e_8, hL_9⟩ := hw_2
  obtain rfl := (e_8).symm
  refine lv_aload_n hx hb dX1_doLooks_6 rfl (lv_at hl 0 rfl) ?_
  refine lv_iload_n hx hb dX1_doLooks_7 rfl (lv_at hl 1 rfl) ?_
  refine lv_aload_n hx hb dX1_doLooks_8 rfl (lv_at hl 2 rfl) ?_
  have hPc := hP.sub (ws' := [(zo1iri bo mdc9_3 aEl9_4 (nI 1)), (zaR aEl9_4 cEl9_5 10 fEl9_7)]) [0, 1] rfl
  have hDc := hD.sub (ws' := [(zo1iri bo mdc9_3 aEl9_4 (nI 1)), (zaR aEl9_4 cEl9_5 10 fEl9_7)]) [0, 1] (by decide) rfl
  have hKc := hK.sub (tys' := [(cEl9_5, .object "java/lang/Object")]) [0] rfl
  have hFc := va_free (wc := [(zo1iri bo mdc9_3 aEl9_4 (nI 1)), (zaR aEl9_4 cEl9_5 10 fEl9_7)]) hD hS hA [0, 1] rfl
  refine va_calli (va_runSU (hZ.2.1.1 9 (RX7, TX7, 4) rfl).2 (As := [.int x, .ref bo]) (rest := []) ⟨hx, hb, hml, hown, hts⟩ (c_X3_doLooks_X7_1 l dC dI ad cB bS    bo aEl9_4 i0 sk sv scl x cEl9_5 fEl9_7 a0 1 mdc9_3 ([31]) H.size (by omega) (hL_9)) (va_cwSU 2 hts gX1_doLooks_X3_doLooks_s13 rfl rfl rfl (by decide +kernel) ⟨Nat.le_of_ble_eq_true rfl, Nat.le_of_ble_eq_true rfl⟩) ⟨fun a U g mk q => by obtain ⟨q0, q1, qP, qK, qD, qhI_, qhB_, qhW_, qhZ⟩ := q; exact ⟨q0, q1, qP, va_K.moved (u := U) (U := U.calling g mk a) (Vm.Alike.refl U.vm) qK, qD, qhI_.same rfl rfl, qhB_.same rfl rfl, qhW_.same rfl rfl, qhZ.same rfl rfl⟩, va_recv hZ.2.1 (hZ.P hS) (ci := 9) (q := (RX7, TX7, 4)) (q0 := 0) rfl rfl, fun U hU hW => ⟨rfl, by rw [hU], by rw [hU]; exact hPc, va_K.moved hW.alike hKc, hDc.weaken (fun _ _ _ _ => trivial), hI_.call hS hU hW (fun q h => hFc q h), hB_.call hS hU hW (fun q h => hFc q h), hW_.call hS hU hW (fun q h => hFc q h), (hZ.sub [0] [] rfl rfl).call hS hU hW (fun q h => hFc q h)⟩⟩ rfl rfl hl.1 rfl (lv_room (Nat.le_of_ble_eq_true rfl)) dX1_doLooks_9 ⟨Nat.le_of_ble_eq_true rfl, Nat.le_of_ble_eq_true rfl⟩) hS (fun q _ h => hFc q h) hFc (fun r_10 u tC H1 locs htC hvm hw_11 hB hz1 hk1 hS => ?_)
  obtain ⟨mdc9_12, sz_9_13, fEl9_14⟩ := u
  try dsimp only at hw_11 hB
  obtain ⟨hP1, hK1, hD1⟩ := hB
  rw [htC] at hP1
  have hK1 := va_K.moved hvm.symm hK1
  obtain ⟨hP, hD⟩ := va_join (wr := []) (w1 := [(zo1iri bo mdc9_12 aEl9_4 (nI sz_9_13)), (zaR aEl9_4 cEl9_5 10 fEl9_14)]) hP hD [0, 1] [] rfl rfl (by decide) (by decide) hk1 hFc hP1 hD1
  have hK := (hK.sub (tys' := []) [] rfl).app hK1
  generalize H1 = H at hP hS ⊢
  have hP : va_P (dC, dI) vwCl [(zo1iri bo mdc9_12 aEl9_4 (nI sz_9_13)), (zaR aEl9_4 cEl9_5 10 fEl9_14)] H := hP
  have hD : va_D A [(zo1iri bo mdc9_12 aEl9_4 (nI sz_9_13)), (zaR aEl9_4 cEl9_5 10 fEl9_14)] := hD
  have hK : va_K (dC, dI) vwCl [(cEl9_5, .object "java/lang/Object")] s := hK
  obtain ⟨er_15, e_16, hL_17⟩ := hw_11
  obtain rfl := (e_16).symm
  subst er_15
  refine lv_bipush (v := 7) hx hb dX1_doLooks_12 (by decide) ?_
  refine lv_ixor hx hb dX1_doLooks_14 ?_
  rw [hQ]
  have hP9 := hP.sub (ws' := [(zo1iri bo mdc9_12 aEl9_4 (nI (1 + 4))), (zaR aEl9_4 cEl9_5 10 fEl9_14)]) [0, 1] rfl
  have hD9 := hD.sub (ws' := [(zo1iri bo mdc9_12 aEl9_4 (nI (1 + 4))), (zaR aEl9_4 cEl9_5 10 fEl9_14)]) [0, 1] (by decide) rfl
  have hK9 := hK.sub (tys' := [(cEl9_5, .object "java/lang/Object")]) [0] rfl
  refine W.widen (k := 1) (n := 10) (by omega) (by omega) ?_
  exact W.iret (v := ((((x + nI i0) - sv) + sv) * 2) ^^^ 7) hx hb hr (fun tQ htQ hWQ => ⟨⟨(((((x + nI i0) - sv) + sv) * 2) ^^^ 7), (mdc9_12, aEl9_4, cEl9_5, (1 + 4), fEl9_14), rfl, ⟨rfl, by omega, hL_17⟩, by rw [htQ]; exact hP9, va_K.moved hWQ.alike hK9, hD9⟩, hS.F htQ⟩) hS.2.2 dX1_doLooks_15
